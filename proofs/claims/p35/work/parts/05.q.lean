/-! two States at once: one that is written, one that is read -/
def ad2 (σ τ : Nat) : Nat → Nat := fun c => if c < 123 then σ + c else τ + (c - 123)
def kb2 (cy : Nat → ClassId) (σ τ : Nat) : gB := fun c r => if c < 123 then bodyS cy σ c r else bodyS cy τ (c - 123) r
abbrev DR (D : va_G) (cy : Nat → ClassId) (σ τ : Nat) (Z : gM) (H : Heap) : Prop := gRep D (kb2 cy σ τ) 246 (ad2 σ τ) Z H
abbrev DA (σ τ : Nat) : Nat → Prop := gA 246 (ad2 σ τ)
theorem injD {σ τ : Nat} (h : σ + 123 ≤ τ ∨ τ + 123 ≤ σ) : gInj 246 (ad2 σ τ) := by
  intro a b ha hb he
  simp only [ad2] at he
  split at he <;> split at he <;> omega
theorem adD_A {σ τ c : Nat} (hc : c < 123) : ad2 σ τ c = σ + c := by simp [ad2, hc]
theorem adD_B {σ τ c : Nat} : ad2 σ τ (123 + c) = τ + c := by
  unfold ad2
  rw [if_neg (by omega), Nat.add_sub_cancel_left]
theorem bD_A {cy : Nat → ClassId} {σ τ c : Nat} {r : Nat → Int32} (hc : c < 123) : kb2 cy σ τ c r = bodyS cy σ c r := by simp [kb2, hc]
theorem bD_B {cy : Nat → ClassId} {σ τ c : Nat} {r : Nat → Int32} : kb2 cy σ τ (123 + c) r = bodyS cy τ c r := by
  unfold kb2
  rw [if_neg (by omega), Nat.add_sub_cancel_left]
theorem DR.A {D : va_G} {cy : Nat → ClassId} {σ τ : Nat} {Z : gM} {H : Heap} (h : DR D cy σ τ Z H) : SR D cy σ Z H := fun c hc => by
  have := h c (by omega)
  rw [adD_A hc, bD_A hc] at this
  exact this
theorem DR.B {D : va_G} {cy : Nat → ClassId} {σ τ : Nat} {Z : gM} {H : Heap} (h : DR D cy σ τ Z H) : SR D cy τ (fun c => Z (123 + c)) H := fun c hc => by
  have := h (123 + c) (by omega)
  rw [adD_B, bD_B] at this
  exact this
theorem DR.of {D : va_G} {cy : Nat → ClassId} {σ τ : Nat} {X Y : gM} {H : Heap} (h1 : SR D cy σ X H) (h2 : SR D cy τ Y H) : DR D cy σ τ (fun c => if c < 123 then X c else Y (c - 123)) H := by
  intro c hc
  by_cases h : c < 123
  · have := h1 c h
    rw [adD_A h, bD_A h]
    dsimp only
    rw [if_pos h]
    exact this
  · obtain ⟨k, rfl⟩ : ∃ k, c = 123 + k := ⟨c - 123, by omega⟩
    rw [adD_B, bD_B]
    dsimp only
    rw [if_neg h, show 123 + k - 123 = k by omega]
    exact h2 k (by omega)
theorem DR.mkA {D : va_G} {cy : Nat → ClassId} {σ τ : Nat} {Z : gM} {H : Heap} (h : DR D cy σ τ Z H) {c : Nat} (hc : c < 123) {e : va_E} (he : bodyS cy σ c (Z c) = e) : va_P D vwCl [(σ + c, e)] H := SR.mk1 h.A hc he
theorem DR.mkB {D : va_G} {cy : Nat → ClassId} {σ τ : Nat} {Z : gM} {H : Heap} (h : DR D cy σ τ Z H) {c : Nat} (hc : c < 123) {e : va_E} (he : bodyS cy τ c (Z (123 + c)) = e) : va_P D vwCl [(τ + c, e)] H := SR.mk1 h.B hc he
theorem DR.mkA0 {D : va_G} {cy : Nat → ClassId} {σ τ : Nat} {Z : gM} {H : Heap} (h : DR D cy σ τ Z H) {c : Nat} (hc : c < 123) {e : va_E} (he : bodyS cy σ c (Z c) = e) (h0 : c = 0 := by rfl) : va_P D vwCl [(σ, e)] H := by
  subst h0
  exact SR.mk1 h.A hc he
theorem DR.mkB0 {D : va_G} {cy : Nat → ClassId} {σ τ : Nat} {Z : gM} {H : Heap} (h : DR D cy σ τ Z H) {c : Nat} (hc : c < 123) {e : va_E} (he : bodyS cy τ c (Z (123 + c)) = e) (h0 : c = 0 := by rfl) : va_P D vwCl [(τ, e)] H := by
  subst h0
  exact SR.mk1 h.B hc he
theorem g_cellEq {cA : ClassId} {n : Nat} {f f2 : Nat → Int32} (h : ∀ i, i < n → f i = f2 i) : vp_cell cA (n, .inl f) = vp_cell cA (n, .inl f2) := by
  rw [vp_cell_i, vp_cell_i]
  unfold arrV
  congr 1
  apply Array.ext
  · simp
  · intro i h1 h2
    simp at h1 ⊢
    rw [h i h1]
theorem gRep.same2 {D : va_G} {kb : gB} {n : Nat} {ad : Nat → Nat} {X Y : gM} {H : Heap} (h : gRep D kb n ad X H) (he : ∀ c, c < n → kb c (X c) = kb c (Y c) ∨ ∃ (cA : ClassId) (k : Nat) (f f2 : Nat → Int32), kb c (X c) = .inl (cA, k, .inl f) ∧ kb c (Y c) = .inl (cA, k, .inl f2) ∧ ∀ i, i < k → f i = f2 i) : gRep D kb n ad Y H := by
  intro c hc
  have q := h c hc
  rcases he c hc with e | ⟨cA, k, f, f2, e1, e2, e3⟩
  · rw [← e]; exact q
  · rw [e1] at q
    rw [e2]
    show H[ad c]? = some (vp_cell cA (k, .inl f2))
    rw [← g_cellEq e3]
    exact q
/-- n rows from lo on are taken from the second State -/
def cpD (Z : gM) (lo n : Nat) : gM := fun a => if lo ≤ a ∧ a < lo + n then Z (123 + a) else Z a
def cpyR (Z : gM) (a b k : Nat) : gM := fun c => if c = a then va_cpy (Z b) (Z a) 0 0 k else Z c
theorem gRep.ofSet2 {D : va_G} {kb : gB} {n : Nat} {ad : Nat → Nat} {X Y : gM} {H : Heap} {c : Nat} {e : va_E} (hc : c < n) (hY : ∀ a, a ≠ c → Y a = X a) (he : kb c (Y c) = e) (h : va_P D vwCl ((gW kb n ad X).set c (ad c, e)) H) : gRep D kb n ad Y H := by
  intro a ha
  refine h a _ ?_
  by_cases hac : a = c
  · subst hac
    rw [List.getElem?_set_self (by simpa [gW] using ha), he]
  · rw [List.getElem?_set_ne (Ne.symm hac), hY a hac]
    exact gW_get ha
theorem gMet_v {l : Launch} {y : MethodName} {ws : List Cond} {rm : Room} {P : Array Value → State → Prop} {R R2 : Heap → Prop} {A : Nat → Prop} (h : Met l y ws rm P (gQv R A) 0 0 A) (hi : ∀ H, R H → R2 H) : Met l y ws rm P (gQv R2 A) 0 0 A := by
  intro p e h1 h2 h3 s m args below h4 h5 h6 h7
  obtain ⟨n, o, g1, g2, g3, ⟨⟨⟨u, hu1, hu2, hu3⟩, hF⟩, hL⟩⟩ := h p e h1 h2 h3 s m args below h4 h5 h6 h7
  exact ⟨n, o, g1, g2, g3, ⟨⟨⟨u, hu1, hu2, hi _ hu3⟩, hF⟩, hL⟩⟩
section GMROWS3
variable {p : Program} {l : Launch} {e : Env} {R : Room} {s : State} {m : MethodId} {args : Array Value} {below : List Frame} {meth : Method} {c : Code} {H : Heap} {locs : List Loc} {cells slots : Nat} {Q : State → Prop}
variable {cc : ByteArray} {pc : Nat} {ls : Array Slot} {rest st0 : List Value} {D : va_G} {cy : Nat → ClassId} {kb : gB} {n : Nat} {ad : Nat → Nat} {X : gM} {H0 : Heap} {A0 A1 : Nat → Prop}
theorem gm_acopy (hexec : p.tables.exec = Jvm.exec) (hb : c.code = cc) (hml : c.maxLocals = ls.size) {own : String} {index : Nat} (hown : s.vm.findClass own = some m.cls) (hlink : (Cond.methodLink own index arraycopyName).before args s = true) (hnat : (Cond.native arraycopyName).before args s = true) (hstat : (Cond.static arraycopyName).before args s = true) (hini : (Cond.initialized "java/lang/System").before args s = true)
    (hK : va_K D vwCl (gt cy) s) (hR : gRep D kb n ad X H) (hi : gInj n ad) (hS0 : va_S (gA n ad) H0 H locs) {a b : Nat} (ha : a < n) (hbn : b < n) {a0 b0 : Nat} (haa : ad a = a0) (hbb : ad b = b0) {k : Nat} (hea : ∀ r, kb a r = .inl (cy 0, k, .inl r)) (heb : ∀ r, kb b r = .inl (cy 0, k, .inl r)) {x : Int32} (hx0 : ¬ x < 0) (hxk : x.toNatClampNeg = k)
    (hframes : 1 ≤ R.frames) (hlocals : (rest.map fun v => v.category).sum + (nativeFrameWords "java/lang/System" "arraycopy" 5 + 11) ≤ R.locals) (hdg : decode cc pc = .ok (.invokestatic index, 3))
    (kk : ∀ (H1 : Heap) (locs1 : List Loc), gRep D kb n ad (cpyR X a b k) H1 → va_S (gA n ad) H0 H1 locs1 → W p l e R s m args below meth c H1 locs1 cells slots Q (F0 m (pc + 3) ls rest)) : W p l e R s m args below meth c H locs cells slots Q (F0 m pc ls (.int x :: .int 0 :: .ref a0 :: .int 0 :: .ref b0 :: rest)) := by
  subst haa; subst hbb
  refine va_copyi hexec hb hml hown hlink hnat hstat hini hK hR.P (gW_D hi) hS0 b a 0 0 (by rw [gW_get hbn, heb]) (by rw [gW_get ha, hea]) rfl rfl rfl (by decide) (by decide) hx0 (by rw [hxk]; exact Nat.le_of_eq (Nat.zero_add k)) (by rw [hxk]; exact Nat.le_of_eq (Nat.zero_add k)) (fun _ _ => rfl) hframes hlocals hdg (fun H1 locs1 hP1 _ hS1 => ?_)
  refine kk H1 locs1 (gRep.ofSet2 ha (fun a' h' => by simp [cpyR, h']) ?_ hP1) hS1
  rw [hea, hxk]
  simp only [cpyR, if_pos]
  rfl
end GMROWS3
def p_X7_copyFrom_D (X : gM) (c : Nat) : gM :=
  let X1 := updM X c 0 (X (123 + c) 0)
  let X2 := updM X1 c 1 (X1 (123 + c) 1)
  let X3 := updM X2 c 2 (X2 (123 + c) 2)
  let X4 := updM X3 c 3 (X3 (123 + c) 3)
  let X5 := updM X4 c 4 (X4 (123 + c) 4)
  X5
set_option maxHeartbeats 4000000 in
set_option maxRecDepth 100000 in
theorem cr_X7_copyFrom_D (l : Launch) (D : va_G) (cy : Nat → ClassId) (σ : Nat) (τ : Nat) (X : gM) (c : Nat) (hdis : σ + 123 ≤ τ ∨ τ + 123 ≤ σ) (hc : c < 123) (hk : kdS c = 7) : Met l yX7_copyFrom wsX7_copyFrom ({ frames := 0, cells := 0, slots := 0, locals := 0 }) (gP [.ref (σ + c), .ref (τ + c)] D cy (DR D cy σ τ X)) (gQv (DR D cy σ τ (p_X7_copyFrom_D X c)) (DA σ τ)) 0 0 (DA σ τ) := by
  refine gm_met (cc := cX7_copyFrom) (maxL := 2) (ret := none) [.ref (σ + c), .ref (τ + c)] (by decide) rfl (Nat.le_of_ble_eq_true rfl) ?_
  intro p e s m args below meth c0 ls C hR hl
  obtain ⟨hx, hb, hr, hts, hown, hlocks, hml, hK⟩ := C
  have hl : lv_has ls 2 [(0, .ref (σ + c)), (1, .ref (τ + c))] := hl
  have hS : va_S (DA σ τ) s.heap s.heap [] := va_S.rf
  have lk7 := hts (.fieldLink RX7 7 "MercuryLine$Trip" "value" "I") (by decide +kernel)
  have inX7 : ∀ w ∈ u_ws RX7 TX7 5, w ∈ wsX7_copyFrom := by decide +kernel
  have lk13 := hts (.fieldLink RX7 13 "MercuryLine$Trip" "kind" "I") (by decide +kernel)
  have lk16 := hts (.fieldLink RX7 16 "MercuryLine$Trip" "from" "I") (by decide +kernel)
  have lk19 := hts (.fieldLink RX7 19 "MercuryLine$Trip" "to" "I") (by decide +kernel)
  have lk22 := hts (.fieldLink RX7 22 "MercuryLine$Trip" "laps" "I") (by decide +kernel)
  refine lv_aload_n hx hb dX7_copyFrom_0 rfl (lv_at hl 0 rfl) ?_
  refine lv_aload_n hx hb dX7_copyFrom_1 rfl (lv_at hl 1 rfl) ?_
  refine va_get (D := D) (ci := 7) (v := .int (X (123 + c) 0)) (C := RX7) (T := TX7) (N := 5) hx hb hts inX7 hown hK.1 (DR.mkB hR (c := c) hc (bS_7 hk)) 0 rfl rfl 0 (by decide) lk7 (fun _ h9 => h9) rfl dX7_copyFrom_2 ?_
  refine gm_put (v := .int (X (123 + c) 0)) (ty := .int) (ci := 7) (C := RX7) (T := TX7) (N := 5) hx hb hts inX7 tyX7 tyX7_ok nmX7 hown hK.1 hR (injD hdis) hS (a := c) (Nat.lt_trans hc (by decide)) (adD_A (c := c) hc) ((bD_A (c := c) hc).trans (bS_7 hk)) rfl 0 (by decide) lk7 (fun _ h9 => h9) rfl (by decide +kernel) rfl rfl (Nat.le_of_ble_eq_true rfl) (j := 0) (x := X (123 + c) 0) (by rw [(bD_A (c := c) hc).trans (bS_7 hk)]; rfl) dX7_copyFrom_5 (fun H locs hR hS => ?_)
  obtain ⟨X1, eX1⟩ : ∃ Y : gM, Y = updM X c 0 (X (123 + c) 0) := ⟨_, rfl⟩
  rw [← eX1] at hR
  refine lv_aload_n hx hb dX7_copyFrom_8 rfl (lv_at hl 0 rfl) ?_
  refine lv_aload_n hx hb dX7_copyFrom_9 rfl (lv_at hl 1 rfl) ?_
  refine va_get (D := D) (ci := 7) (v := .int (X1 (123 + c) 1)) (C := RX7) (T := TX7) (N := 5) hx hb hts inX7 hown hK.1 (DR.mkB hR (c := c) hc (bS_7 hk)) 0 rfl rfl 1 (by decide) lk13 (fun _ h9 => h9) rfl dX7_copyFrom_10 ?_
  refine gm_put (v := .int (X1 (123 + c) 1)) (ty := .int) (ci := 7) (C := RX7) (T := TX7) (N := 5) hx hb hts inX7 tyX7 tyX7_ok nmX7 hown hK.1 hR (injD hdis) hS (a := c) (Nat.lt_trans hc (by decide)) (adD_A (c := c) hc) ((bD_A (c := c) hc).trans (bS_7 hk)) rfl 1 (by decide) lk13 (fun _ h9 => h9) rfl (by decide +kernel) rfl rfl (Nat.le_of_ble_eq_true rfl) (j := 1) (x := X1 (123 + c) 1) (by rw [(bD_A (c := c) hc).trans (bS_7 hk)]; rfl) dX7_copyFrom_13 (fun H locs hR hS => ?_)
  obtain ⟨X2, eX2⟩ : ∃ Y : gM, Y = updM X1 c 1 (X1 (123 + c) 1) := ⟨_, rfl⟩
  rw [← eX2] at hR
  refine lv_aload_n hx hb dX7_copyFrom_16 rfl (lv_at hl 0 rfl) ?_
  refine lv_aload_n hx hb dX7_copyFrom_17 rfl (lv_at hl 1 rfl) ?_
  refine va_get (D := D) (ci := 7) (v := .int (X2 (123 + c) 2)) (C := RX7) (T := TX7) (N := 5) hx hb hts inX7 hown hK.1 (DR.mkB hR (c := c) hc (bS_7 hk)) 0 rfl rfl 2 (by decide) lk16 (fun _ h9 => h9) rfl dX7_copyFrom_18 ?_
  refine gm_put (v := .int (X2 (123 + c) 2)) (ty := .int) (ci := 7) (C := RX7) (T := TX7) (N := 5) hx hb hts inX7 tyX7 tyX7_ok nmX7 hown hK.1 hR (injD hdis) hS (a := c) (Nat.lt_trans hc (by decide)) (adD_A (c := c) hc) ((bD_A (c := c) hc).trans (bS_7 hk)) rfl 2 (by decide) lk16 (fun _ h9 => h9) rfl (by decide +kernel) rfl rfl (Nat.le_of_ble_eq_true rfl) (j := 2) (x := X2 (123 + c) 2) (by rw [(bD_A (c := c) hc).trans (bS_7 hk)]; rfl) dX7_copyFrom_21 (fun H locs hR hS => ?_)
  obtain ⟨X3, eX3⟩ : ∃ Y : gM, Y = updM X2 c 2 (X2 (123 + c) 2) := ⟨_, rfl⟩
  rw [← eX3] at hR
  refine lv_aload_n hx hb dX7_copyFrom_24 rfl (lv_at hl 0 rfl) ?_
  refine lv_aload_n hx hb dX7_copyFrom_25 rfl (lv_at hl 1 rfl) ?_
  refine va_get (D := D) (ci := 7) (v := .int (X3 (123 + c) 3)) (C := RX7) (T := TX7) (N := 5) hx hb hts inX7 hown hK.1 (DR.mkB hR (c := c) hc (bS_7 hk)) 0 rfl rfl 3 (by decide) lk19 (fun _ h9 => h9) rfl dX7_copyFrom_26 ?_
  refine gm_put (v := .int (X3 (123 + c) 3)) (ty := .int) (ci := 7) (C := RX7) (T := TX7) (N := 5) hx hb hts inX7 tyX7 tyX7_ok nmX7 hown hK.1 hR (injD hdis) hS (a := c) (Nat.lt_trans hc (by decide)) (adD_A (c := c) hc) ((bD_A (c := c) hc).trans (bS_7 hk)) rfl 3 (by decide) lk19 (fun _ h9 => h9) rfl (by decide +kernel) rfl rfl (Nat.le_of_ble_eq_true rfl) (j := 3) (x := X3 (123 + c) 3) (by rw [(bD_A (c := c) hc).trans (bS_7 hk)]; rfl) dX7_copyFrom_29 (fun H locs hR hS => ?_)
  obtain ⟨X4, eX4⟩ : ∃ Y : gM, Y = updM X3 c 3 (X3 (123 + c) 3) := ⟨_, rfl⟩
  rw [← eX4] at hR
  refine lv_aload_n hx hb dX7_copyFrom_32 rfl (lv_at hl 0 rfl) ?_
  refine lv_aload_n hx hb dX7_copyFrom_33 rfl (lv_at hl 1 rfl) ?_
  refine va_get (D := D) (ci := 7) (v := .int (X4 (123 + c) 4)) (C := RX7) (T := TX7) (N := 5) hx hb hts inX7 hown hK.1 (DR.mkB hR (c := c) hc (bS_7 hk)) 0 rfl rfl 4 (by decide) lk22 (fun _ h9 => h9) rfl dX7_copyFrom_34 ?_
  refine gm_put (v := .int (X4 (123 + c) 4)) (ty := .int) (ci := 7) (C := RX7) (T := TX7) (N := 5) hx hb hts inX7 tyX7 tyX7_ok nmX7 hown hK.1 hR (injD hdis) hS (a := c) (Nat.lt_trans hc (by decide)) (adD_A (c := c) hc) ((bD_A (c := c) hc).trans (bS_7 hk)) rfl 4 (by decide) lk22 (fun _ h9 => h9) rfl (by decide +kernel) rfl rfl (Nat.le_of_ble_eq_true rfl) (j := 4) (x := X4 (123 + c) 4) (by rw [(bD_A (c := c) hc).trans (bS_7 hk)]; rfl) dX7_copyFrom_37 (fun H locs hR hS => ?_)
  obtain ⟨X5, eX5⟩ : ∃ Y : gM, Y = updM X4 c 4 (X4 (123 + c) 4) := ⟨_, rfl⟩
  rw [← eX5] at hR
  exact gm_vret hx hb hr hlocks hS (by (try simp only [p_X7_copyFrom_D, ← eX1, ← eX2, ← eX3, ← eX4, ← eX5]); exact hR) dX7_copyFrom_40
theorem c_X7_copyFrom_D (l : Launch) (D : va_G) (cy : Nat → ClassId) (σ : Nat) (τ : Nat) (X : gM) (c : Nat) (hdis : σ + 123 ≤ τ ∨ τ + 123 ≤ σ) (hc : c < 123) (hk : kdS c = 7) : Met l yX7_copyFrom wsX7_copyFrom ({ frames := 0, cells := 0, slots := 0, locals := 0 }) (gP [.ref (σ + c), .ref (τ + c)] D cy (DR D cy σ τ X)) (gQv (DR D cy σ τ (cpD X c 1)) (DA σ τ)) 0 0 (DA σ τ) :=
  gMet_v (cr_X7_copyFrom_D l D cy σ τ X c hdis hc hk) (fun H h => gRep.same h (by
    intro a ha
    by_cases h1 : a = c
    · subst h1
      rw [bD_A hc, bD_A hc, bS_7 hk, bS_7 hk]
      simp [p_X7_copyFrom_D, cpD, updM, upd]
    · have e : p_X7_copyFrom_D X c a = cpD X c 1 a := by
        simp only [p_X7_copyFrom_D, cpD, updM, if_neg h1]
        rw [if_neg (by omega)]
      rw [e]))
def p_X5_copyFrom (X : gM) (c : Nat) : gM :=
  let X1 := cpD X (c + 1) 1
  let X2 := updM X1 c 2 (X1 (123 + c) 2)
  let X3 := updM X2 c 3 (X2 (123 + c) 3)
  let X4 := updM X3 c 4 (X3 (123 + c) 4)
  let X5 := updM X4 c 5 (X4 (123 + c) 5)
  let X6 := updM X5 c 6 (X5 (123 + c) 6)
  let X7 := updM X6 c 7 (X6 (123 + c) 7)
  let X8 := updM X7 c 8 (X7 (123 + c) 8)
  let X9 := updM X8 c 9 (X8 (123 + c) 9)
  let X10 := updM X9 c 10 (X9 (123 + c) 10)
  let X11 := updM X10 c 11 (X10 (123 + c) 11)
  let X12 := updM X11 c 12 (X11 (123 + c) 12)
  let X13 := updM X12 c 13 (X12 (123 + c) 13)
  X13
set_option maxHeartbeats 4000000 in
set_option maxRecDepth 100000 in
theorem cr_X5_copyFrom (l : Launch) (D : va_G) (cy : Nat → ClassId) (σ : Nat) (τ : Nat) (X : gM) (c : Nat) (hdis : σ + 123 ≤ τ ∨ τ + 123 ≤ σ) (hc : c < 123) (hk : kdS c = 5) : Met l yX5_copyFrom wsX5_copyFrom ({ frames := 1, cells := 0, slots := 0, locals := 21 }) (gP [.ref (σ + c), .ref (τ + c)] D cy (DR D cy σ τ X)) (gQv (DR D cy σ τ (p_X5_copyFrom X c)) (DA σ τ)) 0 0 (DA σ τ) := by
  refine gm_met (cc := cX5_copyFrom) (maxL := 2) (ret := none) [.ref (σ + c), .ref (τ + c)] (by decide) rfl (Nat.le_of_ble_eq_true rfl) ?_
  intro p e s m args below meth c0 ls C hR hl
  obtain ⟨hx, hb, hr, hts, hown, hlocks, hml, hK⟩ := C
  have hl : lv_has ls 2 [(0, .ref (σ + c)), (1, .ref (τ + c))] := hl
  have hS : va_S (DA σ τ) s.heap s.heap [] := va_S.rf
  have lk12 := hts (.fieldLink RX5 12 "MercuryLine$Ticket" "trip" "LMercuryLine$Trip;") (by decide +kernel)
  have inX5 : ∀ w ∈ u_ws RX5 TX5 14, w ∈ wsX5_copyFrom := by decide +kernel
  have lk26 := hts (.fieldLink RX5 26 "MercuryLine$Ticket" "lapsLeft" "I") (by decide +kernel)
  have lk29 := hts (.fieldLink RX5 29 "MercuryLine$Ticket" "paid" "I") (by decide +kernel)
  have lk32 := hts (.fieldLink RX5 32 "MercuryLine$Ticket" "state" "I") (by decide +kernel)
  have lk35 := hts (.fieldLink RX5 35 "MercuryLine$Ticket" "line" "I") (by decide +kernel)
  have lk38 := hts (.fieldLink RX5 38 "MercuryLine$Ticket" "slot" "I") (by decide +kernel)
  have lk41 := hts (.fieldLink RX5 41 "MercuryLine$Ticket" "bookedIn" "I") (by decide +kernel)
  have lk44 := hts (.fieldLink RX5 44 "MercuryLine$Ticket" "boardedIn" "I") (by decide +kernel)
  have lk47 := hts (.fieldLink RX5 47 "MercuryLine$Ticket" "endedIn" "I") (by decide +kernel)
  have lk50 := hts (.fieldLink RX5 50 "MercuryLine$Ticket" "endedAt" "I") (by decide +kernel)
  have lk53 := hts (.fieldLink RX5 53 "MercuryLine$Ticket" "shovedBy" "I") (by decide +kernel)
  have lk56 := hts (.fieldLink RX5 56 "MercuryLine$Ticket" "cameIn" "I") (by decide +kernel)
  have lk59 := hts (.fieldLink RX5 59 "MercuryLine$Ticket" "boardedAt" "I") (by decide +kernel)
  refine lv_aload_n hx hb dX5_copyFrom_0 rfl (lv_at hl 0 rfl) ?_
  refine va_get (D := D) (ci := 5) (v := .ref (σ + (c + 1))) (C := RX5) (T := TX5) (N := 14) hx hb hts inX5 hown hK.1 (DR.mkA hR (c := c) hc (bS_5 hk)) 0 rfl rfl 1 (by decide) lk12 (fun _ h9 => h9) rfl dX5_copyFrom_1 ?_
  refine lv_aload_n hx hb dX5_copyFrom_4 rfl (lv_at hl 1 rfl) ?_
  refine va_get (D := D) (ci := 5) (v := .ref (τ + (c + 1))) (C := RX5) (T := TX5) (N := 14) hx hb hts inX5 hown hK.1 (DR.mkB hR (c := c) hc (bS_5 hk)) 0 rfl rfl 1 (by decide) lk12 (fun _ h9 => h9) rfl dX5_copyFrom_5 ?_
  refine gm_cv (gm_call (As := [.ref (τ + (c + 1))]) (rest := []) (ci := 7) (q := (RX7, TX7, 5)) ⟨hx, hb, hml, hown, hts⟩ hK (c_X7_copyFrom_D l D cy σ τ X (c + 1) hdis (kd_5 c hc hk).1 (kd_5 c hc hk).2) (cwV 1 hts gX5_copyFrom_X7_copyFrom rfl rfl rfl (by decide +kernel) ⟨Nat.le_of_ble_eq_true rfl, Nat.le_of_ble_eq_true rfl⟩) (DR.mkA hR (c := c + 1) (kd_5 c hc hk).1 (bS_7 (kd_5 c hc hk).2)) rfl hR rfl hl.1 rfl (Nat.le_of_ble_eq_true rfl) dX5_copyFrom_8 (Nat.zero_le _) (Nat.zero_le _)) hS (fun _ h => h) (fun H locs hR _ _ hS => ?_)
  obtain ⟨X1, eX1⟩ : ∃ Y : gM, Y = cpD X (c + 1) 1 := ⟨_, rfl⟩
  rw [← eX1] at hR
  refine lv_aload_n hx hb dX5_copyFrom_11 rfl (lv_at hl 0 rfl) ?_
  refine lv_aload_n hx hb dX5_copyFrom_12 rfl (lv_at hl 1 rfl) ?_
  refine va_get (D := D) (ci := 5) (v := .int (X1 (123 + c) 2)) (C := RX5) (T := TX5) (N := 14) hx hb hts inX5 hown hK.1 (DR.mkB hR (c := c) hc (bS_5 hk)) 0 rfl rfl 2 (by decide) lk26 (fun _ h9 => h9) rfl dX5_copyFrom_13 ?_
  refine gm_put (v := .int (X1 (123 + c) 2)) (ty := .int) (ci := 5) (C := RX5) (T := TX5) (N := 14) hx hb hts inX5 tyX5 tyX5_ok nmX5 hown hK.1 hR (injD hdis) hS (a := c) (Nat.lt_trans hc (by decide)) (adD_A (c := c) hc) ((bD_A (c := c) hc).trans (bS_5 hk)) rfl 2 (by decide) lk26 (fun _ h9 => h9) rfl (by decide +kernel) rfl rfl (Nat.le_of_ble_eq_true rfl) (j := 2) (x := X1 (123 + c) 2) (by rw [(bD_A (c := c) hc).trans (bS_5 hk)]; rfl) dX5_copyFrom_16 (fun H locs hR hS => ?_)
  obtain ⟨X2, eX2⟩ : ∃ Y : gM, Y = updM X1 c 2 (X1 (123 + c) 2) := ⟨_, rfl⟩
  rw [← eX2] at hR
  refine lv_aload_n hx hb dX5_copyFrom_19 rfl (lv_at hl 0 rfl) ?_
  refine lv_aload_n hx hb dX5_copyFrom_20 rfl (lv_at hl 1 rfl) ?_
  refine va_get (D := D) (ci := 5) (v := .int (X2 (123 + c) 3)) (C := RX5) (T := TX5) (N := 14) hx hb hts inX5 hown hK.1 (DR.mkB hR (c := c) hc (bS_5 hk)) 0 rfl rfl 3 (by decide) lk29 (fun _ h9 => h9) rfl dX5_copyFrom_21 ?_
  refine gm_put (v := .int (X2 (123 + c) 3)) (ty := .int) (ci := 5) (C := RX5) (T := TX5) (N := 14) hx hb hts inX5 tyX5 tyX5_ok nmX5 hown hK.1 hR (injD hdis) hS (a := c) (Nat.lt_trans hc (by decide)) (adD_A (c := c) hc) ((bD_A (c := c) hc).trans (bS_5 hk)) rfl 3 (by decide) lk29 (fun _ h9 => h9) rfl (by decide +kernel) rfl rfl (Nat.le_of_ble_eq_true rfl) (j := 3) (x := X2 (123 + c) 3) (by rw [(bD_A (c := c) hc).trans (bS_5 hk)]; rfl) dX5_copyFrom_24 (fun H locs hR hS => ?_)
  obtain ⟨X3, eX3⟩ : ∃ Y : gM, Y = updM X2 c 3 (X2 (123 + c) 3) := ⟨_, rfl⟩
  rw [← eX3] at hR
  refine lv_aload_n hx hb dX5_copyFrom_27 rfl (lv_at hl 0 rfl) ?_
  refine lv_aload_n hx hb dX5_copyFrom_28 rfl (lv_at hl 1 rfl) ?_
  refine va_get (D := D) (ci := 5) (v := .int (X3 (123 + c) 4)) (C := RX5) (T := TX5) (N := 14) hx hb hts inX5 hown hK.1 (DR.mkB hR (c := c) hc (bS_5 hk)) 0 rfl rfl 4 (by decide) lk32 (fun _ h9 => h9) rfl dX5_copyFrom_29 ?_
  refine gm_put (v := .int (X3 (123 + c) 4)) (ty := .int) (ci := 5) (C := RX5) (T := TX5) (N := 14) hx hb hts inX5 tyX5 tyX5_ok nmX5 hown hK.1 hR (injD hdis) hS (a := c) (Nat.lt_trans hc (by decide)) (adD_A (c := c) hc) ((bD_A (c := c) hc).trans (bS_5 hk)) rfl 4 (by decide) lk32 (fun _ h9 => h9) rfl (by decide +kernel) rfl rfl (Nat.le_of_ble_eq_true rfl) (j := 4) (x := X3 (123 + c) 4) (by rw [(bD_A (c := c) hc).trans (bS_5 hk)]; rfl) dX5_copyFrom_32 (fun H locs hR hS => ?_)
  obtain ⟨X4, eX4⟩ : ∃ Y : gM, Y = updM X3 c 4 (X3 (123 + c) 4) := ⟨_, rfl⟩
  rw [← eX4] at hR
  refine lv_aload_n hx hb dX5_copyFrom_35 rfl (lv_at hl 0 rfl) ?_
  refine lv_aload_n hx hb dX5_copyFrom_36 rfl (lv_at hl 1 rfl) ?_
  refine va_get (D := D) (ci := 5) (v := .int (X4 (123 + c) 5)) (C := RX5) (T := TX5) (N := 14) hx hb hts inX5 hown hK.1 (DR.mkB hR (c := c) hc (bS_5 hk)) 0 rfl rfl 5 (by decide) lk35 (fun _ h9 => h9) rfl dX5_copyFrom_37 ?_
  refine gm_put (v := .int (X4 (123 + c) 5)) (ty := .int) (ci := 5) (C := RX5) (T := TX5) (N := 14) hx hb hts inX5 tyX5 tyX5_ok nmX5 hown hK.1 hR (injD hdis) hS (a := c) (Nat.lt_trans hc (by decide)) (adD_A (c := c) hc) ((bD_A (c := c) hc).trans (bS_5 hk)) rfl 5 (by decide) lk35 (fun _ h9 => h9) rfl (by decide +kernel) rfl rfl (Nat.le_of_ble_eq_true rfl) (j := 5) (x := X4 (123 + c) 5) (by rw [(bD_A (c := c) hc).trans (bS_5 hk)]; rfl) dX5_copyFrom_40 (fun H locs hR hS => ?_)
  obtain ⟨X5, eX5⟩ : ∃ Y : gM, Y = updM X4 c 5 (X4 (123 + c) 5) := ⟨_, rfl⟩
  rw [← eX5] at hR
  refine lv_aload_n hx hb dX5_copyFrom_43 rfl (lv_at hl 0 rfl) ?_
  refine lv_aload_n hx hb dX5_copyFrom_44 rfl (lv_at hl 1 rfl) ?_
  refine va_get (D := D) (ci := 5) (v := .int (X5 (123 + c) 6)) (C := RX5) (T := TX5) (N := 14) hx hb hts inX5 hown hK.1 (DR.mkB hR (c := c) hc (bS_5 hk)) 0 rfl rfl 6 (by decide) lk38 (fun _ h9 => h9) rfl dX5_copyFrom_45 ?_
  refine gm_put (v := .int (X5 (123 + c) 6)) (ty := .int) (ci := 5) (C := RX5) (T := TX5) (N := 14) hx hb hts inX5 tyX5 tyX5_ok nmX5 hown hK.1 hR (injD hdis) hS (a := c) (Nat.lt_trans hc (by decide)) (adD_A (c := c) hc) ((bD_A (c := c) hc).trans (bS_5 hk)) rfl 6 (by decide) lk38 (fun _ h9 => h9) rfl (by decide +kernel) rfl rfl (Nat.le_of_ble_eq_true rfl) (j := 6) (x := X5 (123 + c) 6) (by rw [(bD_A (c := c) hc).trans (bS_5 hk)]; rfl) dX5_copyFrom_48 (fun H locs hR hS => ?_)
  obtain ⟨X6, eX6⟩ : ∃ Y : gM, Y = updM X5 c 6 (X5 (123 + c) 6) := ⟨_, rfl⟩
  rw [← eX6] at hR
  refine lv_aload_n hx hb dX5_copyFrom_51 rfl (lv_at hl 0 rfl) ?_
  refine lv_aload_n hx hb dX5_copyFrom_52 rfl (lv_at hl 1 rfl) ?_
  refine va_get (D := D) (ci := 5) (v := .int (X6 (123 + c) 7)) (C := RX5) (T := TX5) (N := 14) hx hb hts inX5 hown hK.1 (DR.mkB hR (c := c) hc (bS_5 hk)) 0 rfl rfl 7 (by decide) lk41 (fun _ h9 => h9) rfl dX5_copyFrom_53 ?_
  refine gm_put (v := .int (X6 (123 + c) 7)) (ty := .int) (ci := 5) (C := RX5) (T := TX5) (N := 14) hx hb hts inX5 tyX5 tyX5_ok nmX5 hown hK.1 hR (injD hdis) hS (a := c) (Nat.lt_trans hc (by decide)) (adD_A (c := c) hc) ((bD_A (c := c) hc).trans (bS_5 hk)) rfl 7 (by decide) lk41 (fun _ h9 => h9) rfl (by decide +kernel) rfl rfl (Nat.le_of_ble_eq_true rfl) (j := 7) (x := X6 (123 + c) 7) (by rw [(bD_A (c := c) hc).trans (bS_5 hk)]; rfl) dX5_copyFrom_56 (fun H locs hR hS => ?_)
  obtain ⟨X7, eX7⟩ : ∃ Y : gM, Y = updM X6 c 7 (X6 (123 + c) 7) := ⟨_, rfl⟩
  rw [← eX7] at hR
  refine lv_aload_n hx hb dX5_copyFrom_59 rfl (lv_at hl 0 rfl) ?_
  refine lv_aload_n hx hb dX5_copyFrom_60 rfl (lv_at hl 1 rfl) ?_
  refine va_get (D := D) (ci := 5) (v := .int (X7 (123 + c) 8)) (C := RX5) (T := TX5) (N := 14) hx hb hts inX5 hown hK.1 (DR.mkB hR (c := c) hc (bS_5 hk)) 0 rfl rfl 8 (by decide) lk44 (fun _ h9 => h9) rfl dX5_copyFrom_61 ?_
  refine gm_put (v := .int (X7 (123 + c) 8)) (ty := .int) (ci := 5) (C := RX5) (T := TX5) (N := 14) hx hb hts inX5 tyX5 tyX5_ok nmX5 hown hK.1 hR (injD hdis) hS (a := c) (Nat.lt_trans hc (by decide)) (adD_A (c := c) hc) ((bD_A (c := c) hc).trans (bS_5 hk)) rfl 8 (by decide) lk44 (fun _ h9 => h9) rfl (by decide +kernel) rfl rfl (Nat.le_of_ble_eq_true rfl) (j := 8) (x := X7 (123 + c) 8) (by rw [(bD_A (c := c) hc).trans (bS_5 hk)]; rfl) dX5_copyFrom_64 (fun H locs hR hS => ?_)
  obtain ⟨X8, eX8⟩ : ∃ Y : gM, Y = updM X7 c 8 (X7 (123 + c) 8) := ⟨_, rfl⟩
  rw [← eX8] at hR
  refine lv_aload_n hx hb dX5_copyFrom_67 rfl (lv_at hl 0 rfl) ?_
  refine lv_aload_n hx hb dX5_copyFrom_68 rfl (lv_at hl 1 rfl) ?_
  refine va_get (D := D) (ci := 5) (v := .int (X8 (123 + c) 9)) (C := RX5) (T := TX5) (N := 14) hx hb hts inX5 hown hK.1 (DR.mkB hR (c := c) hc (bS_5 hk)) 0 rfl rfl 9 (by decide) lk47 (fun _ h9 => h9) rfl dX5_copyFrom_69 ?_
  refine gm_put (v := .int (X8 (123 + c) 9)) (ty := .int) (ci := 5) (C := RX5) (T := TX5) (N := 14) hx hb hts inX5 tyX5 tyX5_ok nmX5 hown hK.1 hR (injD hdis) hS (a := c) (Nat.lt_trans hc (by decide)) (adD_A (c := c) hc) ((bD_A (c := c) hc).trans (bS_5 hk)) rfl 9 (by decide) lk47 (fun _ h9 => h9) rfl (by decide +kernel) rfl rfl (Nat.le_of_ble_eq_true rfl) (j := 9) (x := X8 (123 + c) 9) (by rw [(bD_A (c := c) hc).trans (bS_5 hk)]; rfl) dX5_copyFrom_72 (fun H locs hR hS => ?_)
  obtain ⟨X9, eX9⟩ : ∃ Y : gM, Y = updM X8 c 9 (X8 (123 + c) 9) := ⟨_, rfl⟩
  rw [← eX9] at hR
  refine lv_aload_n hx hb dX5_copyFrom_75 rfl (lv_at hl 0 rfl) ?_
  refine lv_aload_n hx hb dX5_copyFrom_76 rfl (lv_at hl 1 rfl) ?_
  refine va_get (D := D) (ci := 5) (v := .int (X9 (123 + c) 10)) (C := RX5) (T := TX5) (N := 14) hx hb hts inX5 hown hK.1 (DR.mkB hR (c := c) hc (bS_5 hk)) 0 rfl rfl 10 (by decide) lk50 (fun _ h9 => h9) rfl dX5_copyFrom_77 ?_
  refine gm_put (v := .int (X9 (123 + c) 10)) (ty := .int) (ci := 5) (C := RX5) (T := TX5) (N := 14) hx hb hts inX5 tyX5 tyX5_ok nmX5 hown hK.1 hR (injD hdis) hS (a := c) (Nat.lt_trans hc (by decide)) (adD_A (c := c) hc) ((bD_A (c := c) hc).trans (bS_5 hk)) rfl 10 (by decide) lk50 (fun _ h9 => h9) rfl (by decide +kernel) rfl rfl (Nat.le_of_ble_eq_true rfl) (j := 10) (x := X9 (123 + c) 10) (by rw [(bD_A (c := c) hc).trans (bS_5 hk)]; rfl) dX5_copyFrom_80 (fun H locs hR hS => ?_)
  obtain ⟨X10, eX10⟩ : ∃ Y : gM, Y = updM X9 c 10 (X9 (123 + c) 10) := ⟨_, rfl⟩
  rw [← eX10] at hR
  refine lv_aload_n hx hb dX5_copyFrom_83 rfl (lv_at hl 0 rfl) ?_
  refine lv_aload_n hx hb dX5_copyFrom_84 rfl (lv_at hl 1 rfl) ?_
  refine va_get (D := D) (ci := 5) (v := .int (X10 (123 + c) 11)) (C := RX5) (T := TX5) (N := 14) hx hb hts inX5 hown hK.1 (DR.mkB hR (c := c) hc (bS_5 hk)) 0 rfl rfl 11 (by decide) lk53 (fun _ h9 => h9) rfl dX5_copyFrom_85 ?_
  refine gm_put (v := .int (X10 (123 + c) 11)) (ty := .int) (ci := 5) (C := RX5) (T := TX5) (N := 14) hx hb hts inX5 tyX5 tyX5_ok nmX5 hown hK.1 hR (injD hdis) hS (a := c) (Nat.lt_trans hc (by decide)) (adD_A (c := c) hc) ((bD_A (c := c) hc).trans (bS_5 hk)) rfl 11 (by decide) lk53 (fun _ h9 => h9) rfl (by decide +kernel) rfl rfl (Nat.le_of_ble_eq_true rfl) (j := 11) (x := X10 (123 + c) 11) (by rw [(bD_A (c := c) hc).trans (bS_5 hk)]; rfl) dX5_copyFrom_88 (fun H locs hR hS => ?_)
  obtain ⟨X11, eX11⟩ : ∃ Y : gM, Y = updM X10 c 11 (X10 (123 + c) 11) := ⟨_, rfl⟩
  rw [← eX11] at hR
  refine lv_aload_n hx hb dX5_copyFrom_91 rfl (lv_at hl 0 rfl) ?_
  refine lv_aload_n hx hb dX5_copyFrom_92 rfl (lv_at hl 1 rfl) ?_
  refine va_get (D := D) (ci := 5) (v := .int (X11 (123 + c) 12)) (C := RX5) (T := TX5) (N := 14) hx hb hts inX5 hown hK.1 (DR.mkB hR (c := c) hc (bS_5 hk)) 0 rfl rfl 12 (by decide) lk56 (fun _ h9 => h9) rfl dX5_copyFrom_93 ?_
  refine gm_put (v := .int (X11 (123 + c) 12)) (ty := .int) (ci := 5) (C := RX5) (T := TX5) (N := 14) hx hb hts inX5 tyX5 tyX5_ok nmX5 hown hK.1 hR (injD hdis) hS (a := c) (Nat.lt_trans hc (by decide)) (adD_A (c := c) hc) ((bD_A (c := c) hc).trans (bS_5 hk)) rfl 12 (by decide) lk56 (fun _ h9 => h9) rfl (by decide +kernel) rfl rfl (Nat.le_of_ble_eq_true rfl) (j := 12) (x := X11 (123 + c) 12) (by rw [(bD_A (c := c) hc).trans (bS_5 hk)]; rfl) dX5_copyFrom_96 (fun H locs hR hS => ?_)
  obtain ⟨X12, eX12⟩ : ∃ Y : gM, Y = updM X11 c 12 (X11 (123 + c) 12) := ⟨_, rfl⟩
  rw [← eX12] at hR
  refine lv_aload_n hx hb dX5_copyFrom_99 rfl (lv_at hl 0 rfl) ?_
  refine lv_aload_n hx hb dX5_copyFrom_100 rfl (lv_at hl 1 rfl) ?_
  refine va_get (D := D) (ci := 5) (v := .int (X12 (123 + c) 13)) (C := RX5) (T := TX5) (N := 14) hx hb hts inX5 hown hK.1 (DR.mkB hR (c := c) hc (bS_5 hk)) 0 rfl rfl 13 (by decide) lk59 (fun _ h9 => h9) rfl dX5_copyFrom_101 ?_
  refine gm_put (v := .int (X12 (123 + c) 13)) (ty := .int) (ci := 5) (C := RX5) (T := TX5) (N := 14) hx hb hts inX5 tyX5 tyX5_ok nmX5 hown hK.1 hR (injD hdis) hS (a := c) (Nat.lt_trans hc (by decide)) (adD_A (c := c) hc) ((bD_A (c := c) hc).trans (bS_5 hk)) rfl 13 (by decide) lk59 (fun _ h9 => h9) rfl (by decide +kernel) rfl rfl (Nat.le_of_ble_eq_true rfl) (j := 13) (x := X12 (123 + c) 13) (by rw [(bD_A (c := c) hc).trans (bS_5 hk)]; rfl) dX5_copyFrom_104 (fun H locs hR hS => ?_)
  obtain ⟨X13, eX13⟩ : ∃ Y : gM, Y = updM X12 c 13 (X12 (123 + c) 13) := ⟨_, rfl⟩
  rw [← eX13] at hR
  exact gm_vret hx hb hr hlocks hS (by (try simp only [p_X5_copyFrom, ← eX1, ← eX2, ← eX3, ← eX4, ← eX5, ← eX6, ← eX7, ← eX8, ← eX9, ← eX10, ← eX11, ← eX12, ← eX13]); exact hR) dX5_copyFrom_107
theorem c_X5_copyFrom (l : Launch) (D : va_G) (cy : Nat → ClassId) (σ : Nat) (τ : Nat) (X : gM) (c : Nat) (hdis : σ + 123 ≤ τ ∨ τ + 123 ≤ σ) (hc : c < 123) (hk : kdS c = 5) : Met l yX5_copyFrom wsX5_copyFrom ({ frames := 1, cells := 0, slots := 0, locals := 21 }) (gP [.ref (σ + c), .ref (τ + c)] D cy (DR D cy σ τ X)) (gQv (DR D cy σ τ (cpD X c 2)) (DA σ τ)) 0 0 (DA σ τ) :=
  gMet_v (cr_X5_copyFrom l D cy σ τ X c hdis hc hk) (fun H h => gRep.same h (by
    intro a ha
    by_cases h1 : a = c
    · subst h1
      rw [bD_A hc, bD_A hc, bS_5 hk, bS_5 hk]
      have hz : ¬ (a + 1 ≤ 123 + a ∧ 123 + a < a + 1 + 1) := by omega
      simp [p_X5_copyFrom, cpD, cpyR, updM, upd, hz, gBit_2]
    · by_cases h2 : a = c + 1
      · subst h2
        have q := kd_5 c hc hk
        rw [bD_A q.1, bD_A q.1, bS_7 q.2, bS_7 q.2]
        simp [p_X5_copyFrom, cpD, cpyR, updM, upd]
      · have e : p_X5_copyFrom X c a = cpD X c 2 a := by
          simp only [p_X5_copyFrom, cpD, cpyR, updM, if_neg h1, if_neg h2]
          (repeat' (first | rw [if_neg (by omega)] | rfl))
        rw [e]))
def p_X2_copyFrom (X : gM) (c : Nat) : gM :=
  let X1 := cpD X (c + 1) 1
  let X2 := updM X1 c 1 (X1 (123 + c) 1)
  let X3 := updM X2 c 2 (X2 (123 + c) 2)
  let X4 := updM X3 c 3 (X3 (123 + c) 3)
  let X5 := updM X4 c 4 (X4 (123 + c) 4)
  let X6 := updM X5 c 5 (gBit (X5 (123 + c) 5))
  X6
set_option maxHeartbeats 4000000 in
set_option maxRecDepth 100000 in
theorem cr_X2_copyFrom (l : Launch) (D : va_G) (cy : Nat → ClassId) (σ : Nat) (τ : Nat) (X : gM) (c : Nat) (hdis : σ + 123 ≤ τ ∨ τ + 123 ≤ σ) (hc : c < 123) (hk : kdS c = 2) : Met l yX2_copyFrom wsX2_copyFrom ({ frames := 1, cells := 0, slots := 0, locals := 21 }) (gP [.ref (σ + c), .ref (τ + c)] D cy (DR D cy σ τ X)) (gQv (DR D cy σ τ (p_X2_copyFrom X c)) (DA σ τ)) 0 0 (DA σ τ) := by
  refine gm_met (cc := cX2_copyFrom) (maxL := 2) (ret := none) [.ref (σ + c), .ref (τ + c)] (by decide) rfl (Nat.le_of_ble_eq_true rfl) ?_
  intro p e s m args below meth c0 ls C hR hl
  obtain ⟨hx, hb, hr, hts, hown, hlocks, hml, hK⟩ := C
  have hl : lv_has ls 2 [(0, .ref (σ + c)), (1, .ref (τ + c))] := hl
  have hS : va_S (DA σ τ) s.heap s.heap [] := va_S.rf
  have lk10 := hts (.fieldLink RX2 10 "MercuryLine$Order" "trip" "LMercuryLine$Trip;") (by decide +kernel)
  have inX2 : ∀ w ∈ u_ws RX2 TX2 6, w ∈ wsX2_copyFrom := by decide +kernel
  have lk20 := hts (.fieldLink RX2 20 "MercuryLine$Order" "period" "I") (by decide +kernel)
  have lk24 := hts (.fieldLink RX2 24 "MercuryLine$Order" "givenIn" "I") (by decide +kernel)
  have lk27 := hts (.fieldLink RX2 27 "MercuryLine$Order" "booked" "I") (by decide +kernel)
  have lk30 := hts (.fieldLink RX2 30 "MercuryLine$Order" "skipped" "I") (by decide +kernel)
  have lk33 := hts (.fieldLink RX2 33 "MercuryLine$Order" "ended" "Z") (by decide +kernel)
  refine lv_aload_n hx hb dX2_copyFrom_0 rfl (lv_at hl 0 rfl) ?_
  refine va_get (D := D) (ci := 2) (v := .ref (σ + (c + 1))) (C := RX2) (T := TX2) (N := 6) hx hb hts inX2 hown hK.1 (DR.mkA hR (c := c) hc (bS_2 hk)) 0 rfl rfl 0 (by decide) lk10 (fun _ h9 => h9) rfl dX2_copyFrom_1 ?_
  refine lv_aload_n hx hb dX2_copyFrom_4 rfl (lv_at hl 1 rfl) ?_
  refine va_get (D := D) (ci := 2) (v := .ref (τ + (c + 1))) (C := RX2) (T := TX2) (N := 6) hx hb hts inX2 hown hK.1 (DR.mkB hR (c := c) hc (bS_2 hk)) 0 rfl rfl 0 (by decide) lk10 (fun _ h9 => h9) rfl dX2_copyFrom_5 ?_
  refine gm_cv (gm_call (As := [.ref (τ + (c + 1))]) (rest := []) (ci := 7) (q := (RX7, TX7, 5)) ⟨hx, hb, hml, hown, hts⟩ hK (c_X7_copyFrom_D l D cy σ τ X (c + 1) hdis (kd_2 c hc hk).1 (kd_2 c hc hk).2) (cwV 1 hts gX2_copyFrom_X7_copyFrom rfl rfl rfl (by decide +kernel) ⟨Nat.le_of_ble_eq_true rfl, Nat.le_of_ble_eq_true rfl⟩) (DR.mkA hR (c := c + 1) (kd_2 c hc hk).1 (bS_7 (kd_2 c hc hk).2)) rfl hR rfl hl.1 rfl (Nat.le_of_ble_eq_true rfl) dX2_copyFrom_8 (Nat.zero_le _) (Nat.zero_le _)) hS (fun _ h => h) (fun H locs hR _ _ hS => ?_)
  obtain ⟨X1, eX1⟩ : ∃ Y : gM, Y = cpD X (c + 1) 1 := ⟨_, rfl⟩
  rw [← eX1] at hR
  refine lv_aload_n hx hb dX2_copyFrom_11 rfl (lv_at hl 0 rfl) ?_
  refine lv_aload_n hx hb dX2_copyFrom_12 rfl (lv_at hl 1 rfl) ?_
  refine va_get (D := D) (ci := 2) (v := .int (X1 (123 + c) 1)) (C := RX2) (T := TX2) (N := 6) hx hb hts inX2 hown hK.1 (DR.mkB hR (c := c) hc (bS_2 hk)) 0 rfl rfl 1 (by decide) lk20 (fun _ h9 => h9) rfl dX2_copyFrom_13 ?_
  refine gm_put (v := .int (X1 (123 + c) 1)) (ty := .int) (ci := 2) (C := RX2) (T := TX2) (N := 6) hx hb hts inX2 tyX2 tyX2_ok nmX2 hown hK.1 hR (injD hdis) hS (a := c) (Nat.lt_trans hc (by decide)) (adD_A (c := c) hc) ((bD_A (c := c) hc).trans (bS_2 hk)) rfl 1 (by decide) lk20 (fun _ h9 => h9) rfl (by decide +kernel) rfl rfl (Nat.le_of_ble_eq_true rfl) (j := 1) (x := X1 (123 + c) 1) (by rw [(bD_A (c := c) hc).trans (bS_2 hk)]; rfl) dX2_copyFrom_16 (fun H locs hR hS => ?_)
  obtain ⟨X2, eX2⟩ : ∃ Y : gM, Y = updM X1 c 1 (X1 (123 + c) 1) := ⟨_, rfl⟩
  rw [← eX2] at hR
  refine lv_aload_n hx hb dX2_copyFrom_19 rfl (lv_at hl 0 rfl) ?_
  refine lv_aload_n hx hb dX2_copyFrom_20 rfl (lv_at hl 1 rfl) ?_
  refine va_get (D := D) (ci := 2) (v := .int (X2 (123 + c) 2)) (C := RX2) (T := TX2) (N := 6) hx hb hts inX2 hown hK.1 (DR.mkB hR (c := c) hc (bS_2 hk)) 0 rfl rfl 2 (by decide) lk24 (fun _ h9 => h9) rfl dX2_copyFrom_21 ?_
  refine gm_put (v := .int (X2 (123 + c) 2)) (ty := .int) (ci := 2) (C := RX2) (T := TX2) (N := 6) hx hb hts inX2 tyX2 tyX2_ok nmX2 hown hK.1 hR (injD hdis) hS (a := c) (Nat.lt_trans hc (by decide)) (adD_A (c := c) hc) ((bD_A (c := c) hc).trans (bS_2 hk)) rfl 2 (by decide) lk24 (fun _ h9 => h9) rfl (by decide +kernel) rfl rfl (Nat.le_of_ble_eq_true rfl) (j := 2) (x := X2 (123 + c) 2) (by rw [(bD_A (c := c) hc).trans (bS_2 hk)]; rfl) dX2_copyFrom_24 (fun H locs hR hS => ?_)
  obtain ⟨X3, eX3⟩ : ∃ Y : gM, Y = updM X2 c 2 (X2 (123 + c) 2) := ⟨_, rfl⟩
  rw [← eX3] at hR
  refine lv_aload_n hx hb dX2_copyFrom_27 rfl (lv_at hl 0 rfl) ?_
  refine lv_aload_n hx hb dX2_copyFrom_28 rfl (lv_at hl 1 rfl) ?_
  refine va_get (D := D) (ci := 2) (v := .int (X3 (123 + c) 3)) (C := RX2) (T := TX2) (N := 6) hx hb hts inX2 hown hK.1 (DR.mkB hR (c := c) hc (bS_2 hk)) 0 rfl rfl 3 (by decide) lk27 (fun _ h9 => h9) rfl dX2_copyFrom_29 ?_
  refine gm_put (v := .int (X3 (123 + c) 3)) (ty := .int) (ci := 2) (C := RX2) (T := TX2) (N := 6) hx hb hts inX2 tyX2 tyX2_ok nmX2 hown hK.1 hR (injD hdis) hS (a := c) (Nat.lt_trans hc (by decide)) (adD_A (c := c) hc) ((bD_A (c := c) hc).trans (bS_2 hk)) rfl 3 (by decide) lk27 (fun _ h9 => h9) rfl (by decide +kernel) rfl rfl (Nat.le_of_ble_eq_true rfl) (j := 3) (x := X3 (123 + c) 3) (by rw [(bD_A (c := c) hc).trans (bS_2 hk)]; rfl) dX2_copyFrom_32 (fun H locs hR hS => ?_)
  obtain ⟨X4, eX4⟩ : ∃ Y : gM, Y = updM X3 c 3 (X3 (123 + c) 3) := ⟨_, rfl⟩
  rw [← eX4] at hR
  refine lv_aload_n hx hb dX2_copyFrom_35 rfl (lv_at hl 0 rfl) ?_
  refine lv_aload_n hx hb dX2_copyFrom_36 rfl (lv_at hl 1 rfl) ?_
  refine va_get (D := D) (ci := 2) (v := .int (X4 (123 + c) 4)) (C := RX2) (T := TX2) (N := 6) hx hb hts inX2 hown hK.1 (DR.mkB hR (c := c) hc (bS_2 hk)) 0 rfl rfl 4 (by decide) lk30 (fun _ h9 => h9) rfl dX2_copyFrom_37 ?_
  refine gm_put (v := .int (X4 (123 + c) 4)) (ty := .int) (ci := 2) (C := RX2) (T := TX2) (N := 6) hx hb hts inX2 tyX2 tyX2_ok nmX2 hown hK.1 hR (injD hdis) hS (a := c) (Nat.lt_trans hc (by decide)) (adD_A (c := c) hc) ((bD_A (c := c) hc).trans (bS_2 hk)) rfl 4 (by decide) lk30 (fun _ h9 => h9) rfl (by decide +kernel) rfl rfl (Nat.le_of_ble_eq_true rfl) (j := 4) (x := X4 (123 + c) 4) (by rw [(bD_A (c := c) hc).trans (bS_2 hk)]; rfl) dX2_copyFrom_40 (fun H locs hR hS => ?_)
  obtain ⟨X5, eX5⟩ : ∃ Y : gM, Y = updM X4 c 4 (X4 (123 + c) 4) := ⟨_, rfl⟩
  rw [← eX5] at hR
  refine lv_aload_n hx hb dX2_copyFrom_43 rfl (lv_at hl 0 rfl) ?_
  refine lv_aload_n hx hb dX2_copyFrom_44 rfl (lv_at hl 1 rfl) ?_
  refine va_get (D := D) (ci := 2) (v := .int (gBit (X5 (123 + c) 5))) (C := RX2) (T := TX2) (N := 6) hx hb hts inX2 hown hK.1 (DR.mkB hR (c := c) hc (bS_2 hk)) 0 rfl rfl 5 (by decide) lk33 (fun _ h9 => h9) rfl dX2_copyFrom_45 ?_
  refine gm_put (v := .int (gBit (X5 (123 + c) 5))) (ty := .boolean) (ci := 2) (C := RX2) (T := TX2) (N := 6) hx hb hts inX2 tyX2 tyX2_ok nmX2 hown hK.1 hR (injD hdis) hS (a := c) (Nat.lt_trans hc (by decide)) (adD_A (c := c) hc) ((bD_A (c := c) hc).trans (bS_2 hk)) rfl 5 (by decide) lk33 (fun _ h9 => h9) rfl (by decide +kernel) (g_bool (gBit_b _)) (by rcases gBit_b ((X5 (123 + c) 5)) with h | h <;> rw [h] <;> rfl) (Nat.le_of_ble_eq_true rfl) (j := 5) (x := gBit (X5 (123 + c) 5)) (by rw [(bD_A (c := c) hc).trans (bS_2 hk)]; simp [upd, gBit_2]) dX2_copyFrom_48 (fun H locs hR hS => ?_)
  obtain ⟨X6, eX6⟩ : ∃ Y : gM, Y = updM X5 c 5 (gBit (X5 (123 + c) 5)) := ⟨_, rfl⟩
  rw [← eX6] at hR
  exact gm_vret hx hb hr hlocks hS (by (try simp only [p_X2_copyFrom, ← eX1, ← eX2, ← eX3, ← eX4, ← eX5, ← eX6]); exact hR) dX2_copyFrom_51
theorem c_X2_copyFrom (l : Launch) (D : va_G) (cy : Nat → ClassId) (σ : Nat) (τ : Nat) (X : gM) (c : Nat) (hdis : σ + 123 ≤ τ ∨ τ + 123 ≤ σ) (hc : c < 123) (hk : kdS c = 2) : Met l yX2_copyFrom wsX2_copyFrom ({ frames := 1, cells := 0, slots := 0, locals := 21 }) (gP [.ref (σ + c), .ref (τ + c)] D cy (DR D cy σ τ X)) (gQv (DR D cy σ τ (cpD X c 2)) (DA σ τ)) 0 0 (DA σ τ) :=
  gMet_v (cr_X2_copyFrom l D cy σ τ X c hdis hc hk) (fun H h => gRep.same h (by
    intro a ha
    by_cases h1 : a = c
    · subst h1
      rw [bD_A hc, bD_A hc, bS_2 hk, bS_2 hk]
      have hz : ¬ (a + 1 ≤ 123 + a ∧ 123 + a < a + 1 + 1) := by omega
      simp [p_X2_copyFrom, cpD, cpyR, updM, upd, hz, gBit_2]
    · by_cases h2 : a = c + 1
      · subst h2
        have q := kd_2 c hc hk
        rw [bD_A q.1, bD_A q.1, bS_7 q.2, bS_7 q.2]
        simp [p_X2_copyFrom, cpD, cpyR, updM, upd]
      · have e : p_X2_copyFrom X c a = cpD X c 2 a := by
          simp only [p_X2_copyFrom, cpD, cpyR, updM, if_neg h1, if_neg h2]
          (repeat' (first | rw [if_neg (by omega)] | rfl))
        rw [e]))
