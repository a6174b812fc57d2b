/-! the cells of the whole object: itself, seven States, the history, the text, a trip -/
def off (k : Nat) : Nat := if k < 3 then 1 + 123 * k else 11 + 123 * k
def bodyT (cy : Nat → ClassId) (β : Nat) : gB := fun c r =>
  if c = 0 then .inr (8, [.ref (β + off 0), .ref (β + off 1), .ref (β + off 2), .ref (β + 370), .ref (β + 371), .ref (β + 379), .int (r 6), .int (r 7)])
  else if c < 370 then bodyS cy (β + off ((c - 1) / 123)) ((c - 1) % 123) r
  else if c = 370 then .inl (cy 3, 4, .inr (.inr (.inr (.inr (fun n => some (β + off ((r n).toNatClampNeg)))))))
  else if c < 379 then bodyX cy (β + 371) (c - 371) r
  else if c = 379 then gTrip r
  else bodyS cy (β + off (3 + (c - 380) / 123)) ((c - 380) % 123) r
theorem off_lt {k : Nat} (h : k < 7) : off k + 123 ≤ 872 := by
  unfold off
  split <;> omega
theorem off_pos (k : Nat) : 1 ≤ off k := by
  unfold off
  split <;> omega
theorem off_ne {j k : Nat} (h : j ≠ k) : off j + 123 ≤ off k ∨ off k + 123 ≤ off j := by
  unfold off
  split <;> split <;> omega
theorem off_gap (k : Nat) : off k + 123 ≤ 370 ∨ 380 ≤ off k := by
  unfold off
  split <;> omega
section LAYT
variable {cy : Nat → ClassId} {β c k : Nat} {r : Nat → Int32}
theorem bT_0 : bodyT cy β 0 r = .inr (8, [.ref (β + off 0), .ref (β + off 1), .ref (β + off 2), .ref (β + 370), .ref (β + 371), .ref (β + 379), .int (r 6), .int (r 7)]) := rfl
theorem bT_h : bodyT cy β 370 r = .inl (cy 3, 4, .inr (.inr (.inr (.inr (fun n => some (β + off ((r n).toNatClampNeg))))))) := rfl
theorem bT_a : bodyT cy β 379 r = gTrip r := rfl
theorem bT_X (hc : c < 8) : bodyT cy β (371 + c) r = bodyX cy (β + 371) c r := by
  unfold bodyT
  rw [if_neg (by omega), if_neg (by omega), if_neg (by omega), if_pos (by omega), Nat.add_sub_cancel_left]
theorem bT_S (hk : k < 7) (hc : c < 123) : bodyT cy β (off k + c) r = bodyS cy (β + off k) c r := by
  unfold bodyT
  by_cases h : k < 3
  · have e : off k + c = 1 + 123 * k + c := by unfold off; rw [if_pos h]
    rw [e, if_neg (by omega), if_pos (by omega), show (1 + 123 * k + c - 1) / 123 = k by omega, show (1 + 123 * k + c - 1) % 123 = c by omega]
  · have e : off k + c = 11 + 123 * k + c := by unfold off; rw [if_neg h]
    rw [e, if_neg (by omega), if_neg (by omega), if_neg (by omega), if_neg (by omega), if_neg (by omega), show 3 + (11 + 123 * k + c - 380) / 123 = k by omega, show (11 + 123 * k + c - 380) % 123 = c by omega]
end LAYT
theorem injT {β : Nat} : gInj 872 (adS β) := fun a b _ _ h => by simp only [adS] at h; omega
abbrev TR (D : va_G) (cy : Nat → ClassId) (β : Nat) (X : gM) (H : Heap) : Prop := gRep D (bodyT cy β) 872 (adS β) X H
abbrev TA (β : Nat) : Nat → Prop := gA 872 (adS β)
/-- the memory of the k-th State; of the text -/
def vw (k : Nat) (X : gM) : gM := fun c => X (off k + c)
def vx (X : gM) : gM := fun c => X (371 + c)
def putS (X : gM) (k : Nat) (Y : gM) : gM := fun a => if off k ≤ a ∧ a < off k + 123 then Y (a - off k) else X a
def putX (X : gM) (Y : gM) : gM := fun a => if 371 ≤ a ∧ a < 379 then Y (a - 371) else X a
section LAYT2
variable {D : va_G} {cy : Nat → ClassId} {β : Nat} {X Y : gM} {H H1 : Heap} {k : Nat}
theorem TR.mk0 (h : TR D cy β X H) : va_P D vwCl [(β, .inr (8, [.ref (β + off 0), .ref (β + off 1), .ref (β + off 2), .ref (β + 370), .ref (β + 371), .ref (β + 379), .int (X 0 6), .int (X 0 7)]))] H := gRep.oneAt h (c := 0) (by decide) rfl bT_0
theorem TR.mkh (h : TR D cy β X H) : va_P D vwCl [(β + 370, .inl (cy 3, 4, .inr (.inr (.inr (.inr (fun n => some (β + off ((X 370 n).toNatClampNeg))))))))] H := gRep.oneAt h (c := 370) (by decide) rfl bT_h
theorem TR.ask (h : TR D cy β X H) : va_P D vwCl [(β + 379, gTrip (X 379))] H := gRep.oneAt h (c := 379) (by decide) rfl bT_a
theorem TR.st (h : TR D cy β X H) (hk : k < 7) : SR D cy (β + off k) (vw k X) H := by
  intro c hc
  have q := h (off k + c) (by have := off_lt hk; omega)
  rw [bT_S hk hc] at q
  simp only [adS] at q ⊢
  rw [Nat.add_assoc]
  exact q
theorem TR.tx (h : TR D cy β X H) : XR D cy (β + 371) (vx X) H := by
  intro c hc
  have q := h (371 + c) (by omega)
  rw [bT_X hc] at q
  simp only [adS] at q ⊢
  rw [Nat.add_assoc]
  exact q
theorem TR.mrgS (h : TR D cy β X H) (hk : k < 7) (hs : SR D cy (β + off k) Y H1) (hf : ∀ q : Nat, q < H.size → ¬ SA (β + off k) q → H1[q]? = H[q]?) : TR D cy β (putS X k Y) H1 := by
  refine gRep.merge h (fun c hc => ?_)
  by_cases hr : off k ≤ c ∧ c < off k + 123
  · refine Or.inl ?_
    obtain ⟨j, rfl⟩ : ∃ j, c = off k + j := ⟨c - off k, by omega⟩
    have q := hs j (by omega)
    rw [bT_S hk (by omega)]
    simp only [adS, putS] at q ⊢
    rw [if_pos hr, Nat.add_sub_cancel_left, ← Nat.add_assoc]
    exact q
  · refine Or.inr ⟨hf _ (h.lt hc) ?_, by simp only [putS]; rw [if_neg hr]⟩
    rintro ⟨j, hj, he⟩
    simp only [adS] at he
    omega
theorem TR.mrgX (h : TR D cy β X H) (hs : XR D cy (β + 371) Y H1) (hf : ∀ q : Nat, q < H.size → ¬ XA (β + 371) q → H1[q]? = H[q]?) : TR D cy β (putX X Y) H1 := by
  refine gRep.merge h (fun c hc => ?_)
  by_cases hr : 371 ≤ c ∧ c < 379
  · refine Or.inl ?_
    obtain ⟨j, rfl⟩ : ∃ j, c = 371 + j := ⟨c - 371, by omega⟩
    have q := hs j (by omega)
    rw [bT_X (by omega)]
    simp only [adS, putX] at q ⊢
    rw [if_pos hr, Nat.add_sub_cancel_left, ← Nat.add_assoc]
    exact q
  · refine Or.inr ⟨hf _ (h.lt hc) ?_, by simp only [putX]; rw [if_neg hr]⟩
    rintro ⟨j, hj, he⟩
    simp only [adS] at he
    omega
theorem TR.mrgD {j : Nat} (h : TR D cy β X H) (hk : k < 7) (hj : j < 7) (hs : SR D cy (β + off k) Y H1 ∧ SR D cy (β + off j) (vw j X) H1) (hne : k ≠ j) (hf : ∀ q : Nat, q < H.size → ¬ DA (β + off k) (β + off j) q → H1[q]? = H[q]?) : TR D cy β (putS X k Y) H1 := by
  have ho := off_ne hne
  refine gRep.merge h (fun c hc => ?_)
  by_cases hr : off k ≤ c ∧ c < off k + 123
  · refine Or.inl ?_
    obtain ⟨i, rfl⟩ : ∃ i, c = off k + i := ⟨c - off k, by omega⟩
    have q := hs.1 i (by omega)
    rw [bT_S hk (by omega)]
    simp only [adS, putS] at q ⊢
    rw [if_pos hr, Nat.add_sub_cancel_left, ← Nat.add_assoc]
    exact q
  · by_cases hr2 : off j ≤ c ∧ c < off j + 123
    · refine Or.inl ?_
      obtain ⟨i, rfl⟩ : ∃ i, c = off j + i := ⟨c - off j, by omega⟩
      have q := hs.2 i (by omega)
      rw [bT_S hj (by omega)]
      simp only [adS, putS] at q ⊢
      rw [if_neg hr, ← Nat.add_assoc]
      exact q
    · refine Or.inr ⟨hf _ (h.lt hc) ?_, by simp only [putS]; rw [if_neg hr]⟩
      rintro ⟨i, hi, he⟩
      simp only [adS, ad2] at he
      split at he <;> omega
theorem TA_S (hk : k < 7) : ∀ q, SA (β + off k) q → TA β q := by
  rintro q ⟨j, hj, he⟩
  refine ⟨off k + j, by have := off_lt hk; omega, ?_⟩
  simp only [adS] at he ⊢
  omega
theorem TA_X : ∀ q, XA (β + 371) q → TA β q := by
  rintro q ⟨j, hj, he⟩
  refine ⟨371 + j, by omega, ?_⟩
  simp only [adS] at he ⊢
  omega
theorem TA_D {j : Nat} (hk : k < 7) (hj : j < 7) : ∀ q, DA (β + off k) (β + off j) q → TA β q := by
  rintro q ⟨i, hi, he⟩
  simp only [ad2] at he
  split at he
  · exact TA_S hk q ⟨i, by assumption, he⟩
  · exact TA_S hj q ⟨i - 123, by omega, he⟩
/-- a trip outside of the first State -/
theorem TR.srcA (h : TR D cy β X H) (Z : gM) : gSrc D (β + off 0) Z H (β + 379) (X 379) := by
  refine Or.inl ⟨h.ask, ?_⟩
  rintro ⟨j, hj, he⟩
  simp only [adS, show off 0 = 1 from rfl] at he
  omega
theorem TR.srcX (h : TR D cy β X H) (Z : gM) {c : Nat} (hc : c < 8) (hk : kdX c = 7) : gSrc D (β + off 0) Z H (β + 371 + c) (vx X c) := by
  refine Or.inl ⟨XR.mk1 h.tx hc (bX_7 hk), ?_⟩
  rintro ⟨j, hj, he⟩
  simp only [adS, show off 0 = 1 from rfl] at he
  omega
/-- the history's places are numbers of States behind the third -/
def HOK (X : gM) : Prop := ∀ j, j < 4 → 3 ≤ (X 370 j).toNatClampNeg ∧ (X 370 j).toNatClampNeg < 7
end LAYT2
theorem HOK_row {X Y : gM} (h : HOK X) (e : Y 370 = X 370) : HOK Y := fun j hj => by rw [e]; exact h j hj
theorem HOK_set {Z Y : gM} (h : HOK Z) {i k : Nat} (hk : k < 4) (e : Y = updM Z 370 i (Z 370 k)) : HOK Y := by
  intro j hj
  rw [e]
  simp only [updM, upd, if_pos]
  split
  · exact h k hk
  · exact h j hj
theorem kd_5l : ∀ c, c < 123 → kdS c = 5 → c < 115 := by decide +kernel
theorem g_m1 {x y : Int32} (h1 : ¬ x < 1) (h2 : x ≤ 4) (e : y = x - 1) : vp_in y 4 := by
  subst e
  refine vp_in_iff.mpr ?_
  simp only [Int32.le_iff_toInt_le, Int32.lt_iff_toInt_lt, ti_1, ti_4] at h1 h2
  rw [Int32.toInt_sub, ti_1, Int.bmod_eq_of_le (by omega) (by omega)]
  omega
theorem gMet_pre {l : Launch} {y : MethodName} {ws : List Cond} {rm : Room} {av : List Value} {D : va_G} {cy : Nat → ClassId} {P P2 : Heap → Prop} {Q : Array Value → State → Outcome → State → Prop} {A : Nat → Prop} (h : Met l y ws rm (gP av D cy P) Q 0 0 A) (hi : ∀ H, P2 H → P H) : Met l y ws rm (gP av D cy P2) Q 0 0 A := by
  intro p e h1 h2 h3 s m args below h4 h5 h6 h7
  exact h p e h1 h2 h3 s m args below h4 h5 ⟨h6.1, hi _ h6.2.1, h6.2.2⟩ h7
/-- a State's copy, said of the two apart -/
theorem c_X3_copy (l : Launch) (D : va_G) (cy : Nat → ClassId) (σ τ : Nat) (X Y : gM) (hdis : σ + 123 ≤ τ ∨ τ + 123 ≤ σ) : Met l yX3_copyFrom wsX3_copyFrom ({ frames := 3, cells := 0, slots := 0, locals := 69 }) (gP [.ref σ, .ref τ] D cy (fun H => SR D cy σ X H ∧ SR D cy τ Y H)) (gQv (fun H => SR D cy σ Y H ∧ SR D cy τ Y H) (DA σ τ)) 0 0 (DA σ τ) := by
  refine gMet_v (gMet_pre (c_X3_copyFrom l D cy σ τ (fun c => if c < 123 then X c else Y (c - 123)) hdis) (fun H h => DR.of h.1 h.2)) (fun H h => ?_)
  refine ⟨gRep.same h.A (fun c hc => ?_), gRep.same h.B (fun c hc => ?_)⟩
  · simp only [cpD]
    rw [if_pos (by omega), if_neg (by omega), Nat.add_sub_cancel_left]
  · simp only [cpD]
    rw [if_neg (by omega), if_neg (by omega), Nat.add_sub_cancel_left]
/-- a line's copy -/
def cpL (X Y : gM) (c : Nat) : gM := fun a => if c ≤ a ∧ a < c + 15 then Y a else X a
theorem c_X0_copy (l : Launch) (D : va_G) (cy : Nat → ClassId) (σ τ : Nat) (X Y : gM) (c : Nat) (hdis : σ + 123 ≤ τ ∨ τ + 123 ≤ σ) (hc : c < 123) (hk : kdS c = 0) : Met l yX0_copyFrom wsX0_copyFrom ({ frames := 2, cells := 0, slots := 0, locals := 47 }) (gP [.ref (σ + c), .ref (τ + c)] D cy (fun H => SR D cy σ X H ∧ SR D cy τ Y H)) (gQv (fun H => SR D cy σ (cpL X Y c) H ∧ SR D cy τ Y H) (DA σ τ)) 0 0 (DA σ τ) := by
  have hb := kd_0b c hc hk
  refine gMet_v (gMet_pre (c_X0_copyFrom l D cy σ τ (fun c => if c < 123 then X c else Y (c - 123)) c hdis hc hk) (fun H h => DR.of h.1 h.2)) (fun H h => ?_)
  refine ⟨gRep.same h.A (fun a ha => ?_), gRep.same h.B (fun a ha => ?_)⟩
  · simp only [cpD, cpL]
    by_cases q : c ≤ a ∧ a < c + 15
    · rw [if_pos q, if_pos q, if_neg (by omega), Nat.add_sub_cancel_left]
    · rw [if_neg q, if_neg q, if_pos ha]
  · simp only [cpD]
    rw [if_neg (by omega), if_neg (by omega), Nat.add_sub_cancel_left]
section GMROWS4
variable {p : Program} {l : Launch} {e : Env} {R : Room} {s : State} {m : MethodId} {args : Array Value} {below : List Frame} {meth : Method} {c : Code} {H : Heap} {locs : List Loc} {cells slots : Nat} {Q : State → Prop}
variable {cc : ByteArray} {pc : Nat} {ls : Array Slot} {rest st0 : List Value} {D : va_G} {cy : Nat → ClassId} {β : Nat} {X : gM} {H0 : Heap}
theorem gm_hist (hexec : p.tables.exec = Jvm.exec) (hb : c.code = cc) (hK : va_K D vwCl (gt cy) s) (hR : TR D cy β X H) (hS0 : va_S (TA β) H0 H locs) {k : Nat} (hk : k < 7) {x : Int32} (hx : x.toNatClampNeg = k) {i : Int32} (hin : vp_in i 4) (hdg : decode cc pc = .ok (.aastore, 1))
    (kk : ∀ (H1 : Heap) (locs1 : List Loc), TR D cy β (updM X 370 i.toNatClampNeg x) H1 → va_S (TA β) H0 H1 locs1 → W p l e R s m args below meth c H1 locs1 cells slots Q (F0 m (pc + 1) ls rest)) : W p l e R s m args below meth c H locs cells slots Q (F0 m pc ls (.ref (β + off k) :: .int i :: .ref (β + 370) :: rest)) := by
  subst hx
  have ho := off_lt hk
  refine va_astq hexec hb hK hR.P (gW_D injT) hS0 370 3 (off x.toNatClampNeg) 3 (v := β + off x.toNatClampNeg) (by rw [gW_get (by decide), bT_h]) rfl (by rw [gW_get (by omega)]; rw [show bodyT cy β (off x.toNatClampNeg) (X (off x.toNatClampNeg)) = bodyS cy (β + off x.toNatClampNeg) 0 (X (off x.toNatClampNeg)) from bT_S (c := 0) hk (by decide), bS_3 (by decide)]) rfl hin hdg (fun H1 locs1 hP1 _ hS1 => ?_)
  refine kk H1 locs1 (gRep.ofSet (c := 370) (by decide) (bT_h.trans ?_) hP1) hS1
  congr 7
  funext n
  simp only [va_up, upd]
  split <;> rfl
end GMROWS4
