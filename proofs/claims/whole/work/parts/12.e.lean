/-! what an act leaves: where it is refused, nothing new; where it is done, one record more -/
def Sm (X X' : gM) : Prop := (∀ c j, c < 123 → vw 0 X' c j = vw 0 X c j) ∧ FX X X'
theorem Sm.rf {X : gM} : Sm X X := ⟨fun _ _ _ => rfl, FX.rf⟩
theorem Sm.tr {X X1 X2 : gM} (h : Sm X X1) (g : Sm X1 X2) : Sm X X2 := ⟨fun c j hc => by rw [g.1 c j hc, h.1 c j hc], h.2.tr g.2⟩
theorem Sm.ev {X X' U : gM} (h : Sm X X') (hE : Ev X U) : Ev X' U := by
  obtain ⟨Y, a, b⟩ := hE
  exact ⟨Y, a.fr (a.1.cg h.1 (fun _ _ => rfl)) h.2 FY.rf, b⟩
theorem Sm.iv {X X' : gM} (h : Sm X X') (hI : Iv X) : Iv X' := (h.ev hI.ev).iv
theorem Iv.hq {X : gM} (h : Iv X) : HP X := by
  obtain ⟨Y, hR⟩ := h
  exact hR.2.2.1
/-- the i-th state that is recorded -/
def Hs (X : gM) (i : Nat) : gM := vw (hp X i) X
theorem FX.hq {X X' : gM} (h : FX X X') (i : Nat) : hp X' i = hp X i := by
  show (X' 370 i).toNatClampNeg = (X 370 i).toNatClampNeg
  rw [h.1 370 (by omega)]
theorem FX.hs {X X' : gM} (h : FX X X') (b : HP X) {i : Nat} (hi : i < 4) : Hs X' i = Hs X i := by
  funext c
  show X' (off (hp X' i) + c) = X (off (hp X i) + c)
  rw [h.hq i, h.1 _ (by have := (b i hi).1; rw [off3 this]; omega)]
theorem FX.kp {X X' : gM} (h : FX X X') {c j : Nat} (hc : c < 123) : vw 1 X' c j = vw 1 X c j := by
  show X' (off 1 + c) j = X (off 1 + c) j
  rw [h.1 _ (by rw [off1]; omega)]
/-- X' is X with one record more; the state of now may be another -/
def Rc (X X' : gM) : Prop := ∃ h, h ≤ 4 ∧ X 0 6 = nI h ∧ X' 0 7 = X 0 7 ∧ X' 371 2 = X 371 2 ∧ (∀ c j, c < 123 → vw 1 X' c j = vw 1 X c j) ∧
  ((h < 4 ∧ X' 0 6 = nI (h + 1) ∧ (∀ i, i < h → ∀ c j, c < 123 → Hs X' i c j = Hs X i c j) ∧ (∀ c j, c < 123 → Hs X' h c j = vw 0 X c j)) ∨
    (h = 4 ∧ X' 0 6 = nI 4 ∧ (∀ i, i < 3 → ∀ c j, c < 123 → Hs X' i c j = Hs X (i + 1) c j) ∧ (∀ c j, c < 123 → Hs X' 3 c j = vw 0 X c j)))
def psh (X : gM) (n : Nat) : gM := updM (putS X (hp X n) (vw 0 X)) 0 6 (nI (n + 1))
theorem psh_f {X : gM} {n : Nat} (b : HP X) (hn : n < 4) : psh X n 0 6 = nI (n + 1) ∧ (∀ a, a ≠ 0 → a < 380 → psh X n a = X a) ∧ (∀ j, j ≠ 6 → psh X n 0 j = X 0 j) ∧ (∀ i, i < 4 → i ≠ n → ∀ c j, c < 123 → Hs (psh X n) i c j = Hs X i c j) ∧ (∀ c j, c < 123 → Hs (psh X n) n c j = vw 0 X c j) := by
  have hn3 := b n hn
  have en : off (hp X n) = 11 + 123 * hp X n := off3 hn3.1
  have px : ∀ a, a < 380 → putS X (hp X n) (vw 0 X) a = X a := by
    intro a ha
    unfold putS
    rw [if_neg (by omega)]
  have e370 : ∀ i, hp (psh X n) i = hp X i := fun i => by
    show (psh X n 370 i).toNatClampNeg = (X 370 i).toNatClampNeg
    unfold psh
    rw [updM_n (by decide), px 370 (by decide)]
  refine ⟨updM_ss, fun a h0 ha => ?_, fun j hj => ?_, fun i hi hin c j hc => ?_, fun c j hc => ?_⟩
  · unfold psh
    rw [updM_o h0, px a ha]
  · unfold psh
    rw [updM_sn hj, px 0 (by omega)]
  · have hi3 := b i hi
    have ei : off (hp X i) = 11 + 123 * hp X i := off3 hi3.1
    have ne : hp X i ≠ hp X n := fun z => hin (hi3.2.2 n hn z)
    show psh X n (off (hp (psh X n) i) + c) j = X (off (hp X i) + c) j
    rw [e370]
    unfold psh
    rw [updM_n (by omega)]
    unfold putS
    rw [if_neg (by omega)]
  · show psh X n (off (hp (psh X n) n) + c) j = vw 0 X c j
    rw [e370]
    unfold psh
    rw [updM_n (by omega)]
    unfold putS
    rw [if_pos (by omega), Nat.add_sub_cancel_left]
theorem rec_psh {X Y : gM} (h : Rl X Y) {n : Nat} (hn : n < 4) (a1 : X 0 6 = nI n) : p_X8_recordState X = psh X n := by
  have hw : ∀ n, n < 4 → f_X8_within (nI n) 0 3 = 1 := by decide +kernel
  have e3 : off (hp X n) = 11 + 123 * hp X n := off3 (h.2.2.1 n hn).1
  unfold p_X8_recordState
  rw [a1, if_pos (show nI n < 4 from nI_lt (b := 4) hn (by decide)), hw n hn, if_neg (show ¬ (1 : Int32) = 0 by decide), c1 (by omega)]
  dsimp only
  rw [show putS X (X 370 n).toNatClampNeg (vw 0 X) 0 6 = nI n from ?_, nI_1]
  · rfl
  · show putS X (hp X n) (vw 0 X) 0 6 = nI n
    unfold putS
    rw [if_neg (by omega), a1]
theorem rec_psh4 {X Y : gM} (h : Rl X Y) (a1 : X 0 6 = nI 4) : p_X8_recordState X = psh (xTurn X) 3 := by
  have hw : ∀ n, n < 4 → f_X8_within (nI n) 0 3 = 1 := by decide +kernel
  obtain ⟨t1, t2, t3, t4⟩ := turn_sim h a1
  have e3 : off (hp (xTurn X) 3) = 11 + 123 * hp (xTurn X) 3 := off3 (t1.2.2.1 3 (by omega)).1
  unfold p_X8_recordState
  rw [a1, if_neg (show ¬ nI 4 < 4 by decide +kernel), drop_c]
  dsimp only
  rw [t4, hw 3 (by omega), if_neg (show ¬ (1 : Int32) = 0 by decide), c1 (by omega)]
  rw [show putS (xTurn X) (xTurn X 370 3).toNatClampNeg (vw 0 (xTurn X)) 0 6 = nI 3 from ?_, nI_1]
  · rfl
  · show putS (xTurn X) (hp (xTurn X) 3) (vw 0 (xTurn X)) 0 6 = nI 3
    unfold putS
    rw [if_neg (by omega), t4]
theorem rec_rc {X : gM} (hI : Iv X) : Rc X (p_X8_recordState X) := by
  obtain ⟨Y, hR⟩ := hI
  obtain ⟨n, h4, a1, -, -⟩ := hR.2.1
  by_cases hn : n < 4
  · obtain ⟨q1, q2, q3, q4, q5⟩ := psh_f hR.2.2.1 hn
    rw [rec_psh hR hn a1]
    refine ⟨n, h4, a1, q3 7 (by decide), by rw [q2 371 (by decide) (by decide)], fun c j hc => ?_, Or.inl ⟨hn, q1, fun i hi c j hc => q4 i (by omega) (by omega) c j hc, q5⟩⟩
    show psh X n (off 1 + c) j = X (off 1 + c) j
    rw [q2 _ (by rw [off1]; omega) (by rw [off1]; omega)]
  · have e4 : n = 4 := by omega
    subst e4
    obtain ⟨t1, t2, -, t4⟩ := turn_sim hR a1
    obtain ⟨q1, q2, q3, q4, q5⟩ := psh_f t1.2.2.1 (show 3 < 4 by decide)
    have ux : ∀ a, a ≠ 0 → a ≠ 370 → xTurn X a = X a := fun a h0 h3 => by
      unfold xTurn
      rw [updM_o h3, updM_o h0, updM_o h3, updM_o h3, updM_o h3]
    have p0 : hp (xTurn X) 0 = hp X 1 := by
      unfold hp xTurn
      rw [updM_sn (by decide), updM_n (by decide), updM_sn (by decide), updM_sn (by decide), updM_ss]
    have p1 : hp (xTurn X) 1 = hp X 2 := by
      unfold hp xTurn
      rw [updM_sn (by decide), updM_n (by decide), updM_sn (by decide), updM_ss]
    have p2 : hp (xTurn X) 2 = hp X 3 := by
      unfold hp xTurn
      rw [updM_sn (by decide), updM_n (by decide), updM_ss]
    have pk : ∀ k, k < 3 → hp (xTurn X) k = hp X (k + 1) := by
      intro k hk
      rcases (show k = 0 ∨ k = 1 ∨ k = 2 by omega) with rfl | rfl | rfl
      · exact p0
      · exact p1
      · exact p2
    rw [rec_psh4 hR a1]
    refine ⟨4, h4, a1, by rw [q3 7 (by decide), t2.2 7 (by decide)], by rw [q2 371 (by decide) (by decide), ux _ (by decide) (by decide)], fun c j hc => ?_, Or.inr ⟨rfl, q1, fun i hi c j hc => ?_, fun c j hc => ?_⟩⟩
    · show psh (xTurn X) 3 (off 1 + c) j = X (off 1 + c) j
      rw [q2 _ (by rw [off1]; omega) (by rw [off1]; omega), ux _ (by rw [off1]; omega) (by rw [off1]; omega)]
    · rw [q4 i (by omega) (by omega) c j hc]
      show xTurn X (off (hp (xTurn X) i) + c) j = X (off (hp X (i + 1)) + c) j
      have := (hR.2.2.1 (i + 1) (by omega)).1
      rw [pk i hi, ux _ (by rw [off3 this]; omega) (by rw [off3 this]; omega)]
    · rw [q5 c j hc]
      show xTurn X (off 0 + c) j = X (off 0 + c) j
      rw [ux _ (by rw [off0]; omega) (by rw [off0]; omega)]
theorem I_rec {X : gM} (hI : Iv X) : Iv (p_X8_recordState X) := by
  obtain ⟨Y, hR⟩ := hI
  exact ⟨_, (rec_sim hR).1⟩
theorem Rc.fx {X X1 X2 : gM} (h : Rc X X1) (b : HP X1) (g : FX X1 X2) : Rc X X2 := by
  obtain ⟨n, a1, a2, a3, a4, a5, a6⟩ := h
  refine ⟨n, a1, a2, by rw [g.2.2.1, a3], by rw [g.2.2.2, a4], fun c j hc => by rw [g.kp hc, a5 c j hc], ?_⟩
  rcases a6 with ⟨b1, b2, b3, b4⟩ | ⟨b1, b2, b3, b4⟩
  · exact Or.inl ⟨b1, by rw [g.2.1, b2], fun i hi c j hc => by rw [g.hs b (by omega), b3 i hi c j hc], fun c j hc => by rw [g.hs b (by omega), b4 c j hc]⟩
  · exact Or.inr ⟨b1, by rw [g.2.1, b2], fun i hi c j hc => by rw [g.hs b (by omega), b3 i hi c j hc], fun c j hc => by rw [g.hs b (by omega), b4 c j hc]⟩
theorem Rc.sm {X X1 X2 : gM} (g : Sm X X1) (b : HP X) (h : Rc X1 X2) : Rc X X2 := by
  obtain ⟨n, a1, a2, a3, a4, a5, a6⟩ := h
  refine ⟨n, a1, by rw [← g.2.2.1, a2], by rw [a3, g.2.2.2.1], by rw [a4, g.2.2.2.2], fun c j hc => by rw [a5 c j hc, g.2.kp hc], ?_⟩
  rcases a6 with ⟨b1, b2, b3, b4⟩ | ⟨b1, b2, b3, b4⟩
  · exact Or.inl ⟨b1, b2, fun i hi c j hc => by rw [b3 i hi c j hc, g.2.hs b (by omega)], fun c j hc => by rw [b4 c j hc, g.1 c j hc]⟩
  · exact Or.inr ⟨b1, b2, fun i hi c j hc => by rw [b3 i hi c j hc, g.2.hs b (by omega)], fun c j hc => by rw [b4 c j hc, g.1 c j hc]⟩
theorem rec_fx {X X2 : gM} (hI : Iv X) (g : FX (p_X8_recordState X) X2) : Rc X X2 := (rec_rc hI).fx (I_rec hI).hq g
/-- an act: refused, or done -/
def Ac (X : gM) (r : Int32 × gM) : Prop := (r.1 < 0 ∧ Sm X r.2) ∨ (0 ≤ r.1 ∧ Rc X r.2)
theorem Ac.no {X : gM} {v : Int32} (h : v < 0) : Ac X (v, X) := Or.inl ⟨h, Sm.rf⟩
theorem Ac.sm {X X' : gM} {v : Int32} (h : v < 0) (g : Sm X X') : Ac X (v, X') := Or.inl ⟨h, g⟩
theorem Ac.yes {X X' : gM} {v : Int32} (h : 0 ≤ v) (g : Rc X X') : Ac X (v, X') := Or.inr ⟨h, g⟩
theorem lt0 {v : Int32} (h : v < 0) (h2 : 0 ≤ v) : False := by
  rw [Int32.lt_iff_toInt_lt] at h
  rw [Int32.le_iff_toInt_le] at h2
  omega
theorem Ac.neg {X : gM} {r : Int32 × gM} (h : Ac X r) (hr : r.1 < 0) : Sm X r.2 := by
  rcases h with ⟨-, h⟩ | ⟨h, -⟩
  · exact h
  · exact (lt0 hr h).elim
theorem Ac.pos {X : gM} {r : Int32 × gM} (h : Ac X r) (hr : 0 ≤ r.1) : Rc X r.2 := by
  rcases h with ⟨h, -⟩ | ⟨-, h⟩
  · exact (lt0 h hr).elim
  · exact h
/-- bounds of what a state holds -/
abbrev Kv (x : gM) : Prop := (1 ≤ x 0 8 ∧ x 0 8 ≤ 99) ∧ (0 ≤ x 0 9 ∧ x 0 9 ≤ 50) ∧ (0 ≤ x 0 5 ∧ x 0 5 ≤ 40) ∧ (∀ l, l < 2 → -10 ≤ x (1 + 15 * l) 7 ∧ x (1 + 15 * l) 7 ≤ 10) ∧
  (∀ l, l < 2 → ∀ n, n < 6 → ∀ k, k < 3 → 0 ≤ x (1 + 15 * l + 2 + 1 + 2 * n + 1) k) ∧
  (∀ t, t < 40 → 0 ≤ x (35 + 2 * t) 3 ∧ 0 ≤ x (35 + 2 * t + 1) 1 ∧ x (35 + 2 * t + 1) 1 ≤ 3 ∧ 0 ≤ x (35 + 2 * t + 1) 4 ∧ x (35 + 2 * t + 1) 4 ≤ 9) ∧
  (∀ o, o < 4 → 0 ≤ x (115 + 2 * o) 3 ∧ x (115 + 2 * o) 3 ≤ x 0 5 ∧ 0 ≤ x (115 + 2 * o + 1) 1 ∧ x (115 + 2 * o + 1) 1 ≤ 3 ∧ 0 ≤ x (115 + 2 * o + 1) 4 ∧ x (115 + 2 * o + 1) 4 ≤ 9)
theorem Kv.cg {x x' : gM} (h : Kv x) (hx : ∀ c j, c < 123 → x' c j = x c j) : Kv x' := by
  obtain ⟨a, b, c, d, e, f, g⟩ := h
  refine ⟨by rw [hx _ _ (by decide)]; exact a, by rw [hx _ _ (by decide)]; exact b, by rw [hx _ _ (by decide)]; exact c, fun l hl => by rw [hx _ _ (by omega)]; exact d l hl, fun l hl n hn k hk => by rw [hx _ _ (by omega)]; exact e l hl n hn k hk, fun t ht => ?_, fun o ho => ?_⟩
  · rw [hx _ _ (by omega), hx _ _ (by omega), hx _ _ (by omega)]
    exact f t ht
  · rw [hx _ _ (by omega), hx _ _ (by omega), hx _ _ (by omega), hx _ _ (by omega)]
    exact g o ho
/-- the bounds of one object are those of the other that answers alike -/
theorem Kv.ev {X U : gM} (h : Kv (vw 0 U)) (hE : Ev X U) : Kv (vw 0 X) := by
  obtain ⟨Y, ⟨⟨t1, o1, s1, p1, m1, hs⟩, -⟩, ⟨⟨t2, o2, s2, p2, m2, hs2⟩, -⟩⟩ := hE
  have g : ∀ i c j, LC i c j → vw 0 X c j = vw 0 U c j := fun i c j hl => (hs.1.g hl).trans (hs2.1.g hl).symm
  obtain ⟨a, b, c, d, e, f, q⟩ := h
  refine ⟨by rw [g _ _ _ LK6]; exact a, by rw [g _ _ _ LK7]; exact b, by rw [g _ _ _ LK1]; exact c, fun l hl => by rw [g _ _ _ (LL3 hl)]; exact d l hl, fun l hl n hn k hk => by rw [g _ _ _ (LV hl hn hk)]; exact e l hl n hn k hk, fun t ht => ?_, fun o ho => ?_⟩
  · rw [g _ _ _ (LT5 ht), g _ _ _ (LT1 ht), g _ _ _ (LT14 ht)]
    exact f t ht
  · rw [g _ _ _ (LO2 ho), g _ _ _ LK1, g _ _ _ (LO7 ho), g _ _ _ (LO9 ho)]
    exact q o ho
