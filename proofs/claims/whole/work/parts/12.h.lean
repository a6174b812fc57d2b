/-! tickets and orders that come: the bounds hold; the bounds of all states of an object -/
theorem im {a b A B : Int} (a0 : 0 ≤ a) (b0 : 0 ≤ b) (ha : a ≤ A) (hb : b ≤ B) : 0 ≤ a * b ∧ a * b ≤ A * B := ⟨Int.mul_nonneg a0 b0, Int.mul_le_mul ha hb b0 (Int.le_trans a0 ha)⟩
theorem price_0 {x : gM} {k l : Int32} (h : Kv x) (k0 : 0 ≤ k) (k3 : k ≤ 3) (l0 : 0 ≤ l) (l9 : l ≤ 9) : 0 ≤ f_X3_priceOf x k l := by
  obtain ⟨f1, f2⟩ := h.1
  unfold f_X3_priceOf
  generalize x 0 8 = f at f1 f2
  simp only [Int32.le_iff_toInt_le] at k0 k3 l0 l9 f1 f2
  have z0 : (0 : Int32).toInt = 0 := by decide
  have z1 : (1 : Int32).toInt = 1 := by decide
  have z3 : (3 : Int32).toInt = 3 := by decide
  have z9 : (9 : Int32).toInt = 9 := by decide
  have z25 : (25 : Int32).toInt = 25 := by decide
  have z99 : (99 : Int32).toInt = 99 := by decide
  rw [z0] at k0 l0
  rw [z3] at k3
  rw [z9] at l9
  rw [z1] at f1
  rw [z99] at f2
  obtain ⟨p1, p2⟩ := im k0 l0 k3 l9
  have e1 : (k * l).toInt = k.toInt * l.toInt := by rw [Int32.toInt_mul, Int.bmod_eq_of_le (by omega) (by omega)]
  obtain ⟨q1, q2⟩ := im (A := 27) p1 (Int.le_trans (by decide) f1) (by omega) f2
  have e2 : (k * l * f).toInt = k.toInt * l.toInt * f.toInt := by rw [Int32.toInt_mul, e1, Int.bmod_eq_of_le (by omega) (by omega)]
  split
  · rw [Int32.le_iff_toInt_le, z0, Int32.toInt_add, e2, z25, Int.bmod_eq_of_le (by omega) (by omega)]
    omega
  · rw [Int32.add_zero, Int32.le_iff_toInt_le, z0, e2]
    exact q1
/-- what one ticket more changes -/
theorem issue_o {x : gM} {c a : Nat} {v : Nat → Int32} {a2 a3 : Int32} (h1 : a ≠ c) (h2 : a ≠ c + 1) : p_X5_issue x c v a2 a3 a = x a := by
  simp only [p_X5_issue, p_X7_copyFrom, updM_o h1, updM_o h2]
theorem issue_3 {x : gM} {c : Nat} {v : Nat → Int32} {a2 a3 : Int32} : p_X5_issue x c v a2 a3 c 3 = a2 ∧ p_X5_issue x c v a2 a3 (c + 1) 1 = v 1 ∧ p_X5_issue x c v a2 a3 (c + 1) 4 = v 4 := by
  have hn : c + 1 ≠ c := by omega
  refine ⟨?_, ?_, ?_⟩
  · simp only [p_X5_issue]
    repeat rw [updM_sn (by decide)]
    exact updM_ss
  · simp only [p_X5_issue, p_X7_copyFrom]
    repeat rw [updM_o hn]
    repeat rw [updM_sn (by decide)]
    exact updM_ss
  · simp only [p_X5_issue, p_X7_copyFrom]
    repeat rw [updM_o hn]
    exact updM_ss
theorem K_admit {x : gM} {v : Nat → Int32} (h : Kv x) (ht : x 0 5 < 40) (k0 : 0 ≤ v 1) (k3 : v 1 ≤ 3) (l0 : 0 ≤ v 4) (l9 : v 4 ≤ 9) : Kv (p_X3_admit x v).2 ∧ (p_X3_admit x v).2 0 5 = x 0 5 + 1 ∧ (∀ o, o < 4 → (p_X3_admit x v).2 (115 + 2 * o) 3 = x (115 + 2 * o) 3) := by
  have hp := price_0 h k0 k3 l0 l9
  obtain ⟨a, b, ⟨t1, t2⟩, d, e, f, q⟩ := h
  obtain ⟨T, hT, eT⟩ : ∃ T, T < 40 ∧ x 0 5 = nI T := by
    have h0 : ¬ x 0 5 < 0 := fun z => lt0 z t1
    obtain ⟨T, hT, eT⟩ := nI_of h0
    rw [eT] at ht
    exact ⟨T, (nI_ltI hT (by omega)).mp (show nI T < nI 40 from ht), eT⟩
  have hw : f_X8_within (nI T) 0 39 = 1 := (show ∀ k, k < 40 → f_X8_within (nI k) 0 39 = 1 by decide +kernel) T hT
  unfold p_X3_admit
  rw [eT, hw, if_neg (show ¬ (1 : Int32) = 0 by decide), nI_clamp (n := T) (by omega)]
  dsimp only
  generalize f_X3_priceOf x (v 1) (v 4) = p at hp
  obtain ⟨i3, j1, j4⟩ := issue_3 (x := x) (c := 35 + 2 * T) (v := v) (a2 := p) (a3 := x 0 7)
  have io : ∀ a, a ≠ 35 + 2 * T → a ≠ 35 + 2 * T + 1 → p_X5_issue x (35 + 2 * T) v p (x 0 7) a = x a := fun a h1 h2 => issue_o h1 h2
  generalize p_X5_issue x (35 + 2 * T) v p (x 0 7) = y at i3 j1 j4 io
  have y0 : y 0 = x 0 := io 0 (by omega) (by omega)
  rw [updM_sn (show (5 : Nat) ≠ 10 by decide), y0, eT, nI_1]
  have r5 : updM (updM y 0 10 (y 0 10 + p)) 0 5 (nI (T + 1)) 0 5 = nI (T + 1) := updM_ss
  have r0 : ∀ j, j ≠ 5 → j ≠ 10 → updM (updM y 0 10 (y 0 10 + p)) 0 5 (nI (T + 1)) 0 j = x 0 j := fun j h1 h2 => by rw [updM_sn h1, updM_sn h2, y0]
  have rc : ∀ a, a ≠ 0 → updM (updM y 0 10 (y 0 10 + p)) 0 5 (nI (T + 1)) a = y a := fun a h0 => by rw [updM_o h0, updM_o h0]
  rw [y0] at r5 r0 rc
  generalize updM (updM y 0 10 (x 0 10 + p)) 0 5 (nI (T + 1)) = z at r5 r0 rc
  refine ⟨⟨by rw [r0 8 (by decide) (by decide)]; exact a, by rw [r0 9 (by decide) (by decide)]; exact b, ?_, fun l hl => ?_, fun l hl n hn k hk => ?_, fun t ht => ?_, fun o ho => ?_⟩, r5, fun o ho => ?_⟩
  · rw [r5]
    exact ⟨nI_pos' (by omega), nI_le (a := T + 1) (b := 40) (by omega) (by decide)⟩
  · rw [rc _ (by omega), io _ (by omega) (by omega)]
    exact d l hl
  · rw [rc _ (by omega), io _ (by omega) (by omega)]
    exact e l hl n hn k hk
  · by_cases htt : t = T
    · subst htt
      rw [rc _ (by omega), rc _ (by omega), i3, j1, j4]
      exact ⟨hp, k0, k3, l0, l9⟩
    · rw [rc _ (by omega), rc _ (by omega), io _ (by omega) (by omega), io _ (by omega) (by omega)]
      exact f t ht
  · rw [r5, rc (115 + 2 * o) (by omega), rc (115 + 2 * o + 1) (by omega), io (115 + 2 * o) (by omega) (by omega), io (115 + 2 * o + 1) (by omega) (by omega)]
    obtain ⟨q1, q2, q3⟩ := q o ho
    refine ⟨q1, ?_, q3⟩
    rw [eT] at q2
    have h5 := nI_le (a := T) (b := T + 1) (by omega) (by omega)
    rw [Int32.le_iff_toInt_le] at q2 h5 ⊢
    omega
  · rw [rc _ (by omega), io _ (by omega) (by omega)]
theorem K_follow {x : gM} {k : Nat} (h : Kv x) (hk : k < 4) : Kv (p_X3_followOrder x (115 + 2 * k)) := by
  unfold p_X3_followOrder
  split
  · exact h.kf (KF.u (kd_O k hk).2 rfl (by decide))
  · rename_i ht
    dsimp only
    obtain ⟨o1, o2, o3, o4, o5, o6⟩ := h.2.2.2.2.2.2 k hk
    have ht4 : x 0 5 < 40 := by
      unfold f_X3_hasTickets at ht
      have t2 := h.2.2.1.2
      have t1 := h.2.2.1.1
      split at ht
      · exact absurd rfl ht
      · rename_i h5
        rw [Int32.lt_iff_toInt_lt] at h5 ⊢
        rw [Int32.le_iff_toInt_le] at t2 t1
        have z0 : (0 : Int32).toInt = 0 := by decide
        have z1 : (1 : Int32).toInt = 1 := by decide
        have z40 : (40 : Int32).toInt = 40 := by decide
        rw [Int32.toInt_add, z1, z40, Int.bmod_eq_of_le (by omega) (by omega)] at h5
        omega
    obtain ⟨g1, g2, g3⟩ := K_admit (v := x (115 + 2 * k + 1)) h ht4 o3 o4 o5 o6
    rw [g3 k hk]
    generalize (p_X3_admit x (x (115 + 2 * k + 1))).2 = y at g1 g2 g3
    have hy := g1
    obtain ⟨a, b, c, d, e, f, q⟩ := g1
    have u0 : ∀ a j, a ≠ 115 + 2 * k → updM y (115 + 2 * k) 3 (x (115 + 2 * k) 3 + 1) a j = y a j := fun a j ha => updM_n ha
    refine ⟨by rw [u0 _ _ (by omega)]; exact a, by rw [u0 _ _ (by omega)]; exact b, by rw [u0 _ _ (by omega)]; exact c, fun l hl => by rw [u0 _ _ (by omega)]; exact d l hl, fun l hl n hn j hj => by rw [u0 _ _ (by omega)]; exact e l hl n hn j hj, fun t ht => ?_, fun o ho => ?_⟩
    · rw [u0 _ _ (by omega), u0 _ _ (by omega), u0 _ _ (by omega)]
      exact f t ht
    · rw [u0 0 5 (by omega), u0 (115 + 2 * o + 1) 1 (by omega), u0 (115 + 2 * o + 1) 4 (by omega)]
      by_cases hok : o = k
      · subst hok
        rw [updM_ss, g2]
        obtain ⟨q1, q2, q3⟩ := q o ho
        obtain ⟨t1, t2⟩ := h.2.2.1
        rw [Int32.le_iff_toInt_le] at o1 o2 t1 t2 ⊢
        have z0 : (0 : Int32).toInt = 0 := by decide
        have z1 : (1 : Int32).toInt = 1 := by decide
        have z40 : (40 : Int32).toInt = 40 := by decide
        rw [Int32.lt_iff_toInt_lt] at ht4
        have eb : (x (115 + 2 * o) 3 + 1).toInt = (x (115 + 2 * o) 3).toInt + 1 := by rw [Int32.toInt_add, z1, Int.bmod_eq_of_le (by omega) (by omega)]
        have et : (x 0 5 + 1).toInt = (x 0 5).toInt + 1 := by rw [Int32.toInt_add, z1, Int.bmod_eq_of_le (by omega) (by omega)]
        refine ⟨by rw [eb]; omega, ?_, q3⟩
        rw [Int32.le_iff_toInt_le, eb, et]
        omega
      · rw [u0 (115 + 2 * o) 3 (by omega)]
        exact q o ho
theorem K_orders_l {K : gM → Nat → gM} (hK : ∀ y k, Kv y → Kv (K y k)) : ∀ (n : Nat) (y : gM) (k : Nat), k ≤ 4 → Kv y → Kv (lf_X3_followOrders_2 K n y k) := by
  intro n
  induction n with
  | zero => intro y k _ h; exact hK y k h
  | succ n ih =>
    intro y k h4 h
    simp only [lf_X3_followOrders_2]
    split
    · exact hK y k h
    · split
      · exact hK y k h
      · rename_i hh
        have hk : k < 4 := by
          rcases Nat.lt_or_ge k 4 with q | q
          · exact q
          · exact absurd (nI_le (a := 4) (b := k) q (by omega)) hh
        split
        · exact ih y (k + 1) (by omega) h
        · exact ih _ (k + 1) (by omega) (K_follow h hk)
theorem K_tick {x : gM} (h : Kv x) : Kv (p_X3_passTick x) := by
  unfold p_X3_passTick
  dsimp only
  have h1 : Kv (p_X3_followOrders x) := by
    unfold p_X3_followOrders
    exact K_orders_l (fun _ _ q => q) _ _ _ (by decide) h
  have k1 : kdS 1 = 0 := by decide +kernel
  have k16 : kdS 16 = 0 := by decide +kernel
  exact h1.kf (((((kf_line (by decide) k1).tr (kf_line (by decide) k16)).tr (kf_move k1)).tr (kf_move k16)).tr (KF.u kd0 rfl (by decide)))
theorem K_give {x : gM} {v : Nat → Int32} {a2 : Int32} (h : Kv x) (k0 : 0 ≤ v 1) (k3 : v 1 ≤ 3) (l0 : 0 ≤ v 4) (l9 : v 4 ≤ 9) : Kv (p_X3_giveOrder x v a2).2 := by
  unfold p_X3_giveOrder
  split
  · exact h
  · rename_i hw
    have h4 : (x 0 6).toNatClampNeg < 4 := by
      simp only [w_ne] at hw
      have e0 : (0 : Int32).toInt = 0 := by decide
      have e3 : (3 : Int32).toInt = 3 := by decide
      exact g_vl (n := 4) (vp_in_iff.mpr (by omega))
    dsimp only
    generalize (x 0 6).toNatClampNeg = O at h4
    obtain ⟨a, b, c, d, e, f, q⟩ := h
    have go : ∀ a, a ≠ 115 + 2 * O → a ≠ 115 + 2 * O + 1 → p_X2_give x (115 + 2 * O) v a2 (x 0 7) a = x a := fun a h1 h2 => by simp only [p_X2_give, p_X7_copyFrom, updM_o h1, updM_o h2]
    have hn : 115 + 2 * O + 1 ≠ 115 + 2 * O := by omega
    have g3 : p_X2_give x (115 + 2 * O) v a2 (x 0 7) (115 + 2 * O) 3 = 0 := by
      simp only [p_X2_give]
      repeat rw [updM_sn (by decide)]
      exact updM_ss
    have g1 : p_X2_give x (115 + 2 * O) v a2 (x 0 7) (115 + 2 * O + 1) 1 = v 1 := by
      simp only [p_X2_give, p_X7_copyFrom]
      repeat rw [updM_o hn]
      repeat rw [updM_sn (by decide)]
      exact updM_ss
    have g4 : p_X2_give x (115 + 2 * O) v a2 (x 0 7) (115 + 2 * O + 1) 4 = v 4 := by
      simp only [p_X2_give, p_X7_copyFrom]
      repeat rw [updM_o hn]
      exact updM_ss
    generalize p_X2_give x (115 + 2 * O) v a2 (x 0 7) = y at go g3 g1 g4
    generalize y 0 6 + 1 = w
    have y0 : y 0 = x 0 := go 0 (by omega) (by omega)
    have r0 : ∀ j, j ≠ 6 → updM y 0 6 w 0 j = x 0 j := fun j h1 => by rw [updM_sn h1, y0]
    have rc : ∀ a, a ≠ 0 → updM y 0 6 w a = y a := fun a h0 => updM_o h0
    refine ⟨by rw [r0 8 (by decide)]; exact a, by rw [r0 9 (by decide)]; exact b, by rw [r0 5 (by decide)]; exact c, fun l hl => ?_, fun l hl n hn k hk => ?_, fun t ht => ?_, fun o ho => ?_⟩
    · rw [rc _ (by omega), go _ (by omega) (by omega)]
      exact d l hl
    · rw [rc _ (by omega), go _ (by omega) (by omega)]
      exact e l hl n hn k hk
    · rw [rc _ (by omega), rc _ (by omega), go _ (by omega) (by omega), go _ (by omega) (by omega)]
      exact f t ht
    · rw [r0 5 (by decide)]
      by_cases hoo : o = O
      · subst hoo
        rw [rc _ (by omega), rc _ (by omega), g3, g1, g4]
        exact ⟨by decide, c.1, k0, k3, l0, l9⟩
      · rw [rc _ (by omega), rc _ (by omega), go _ (by omega) (by omega), go _ (by omega) (by omega)]
        exact q o ho
/-- all states of an object, the trial apart -/
def KA (X : gM) : Prop := ∀ k, k < 7 → k ≠ 2 → Kv (vw k X)
theorem KA.put {X Z : gM} {k : Nat} (h : KA X) (hk : k < 7) (hz : Kv Z) : KA (putS X k Z) := by
  intro m hm hm2
  by_cases e : m = k
  · subst e
    refine hz.cg (fun c j hc => ?_)
    show putS X m Z (off m + c) j = Z c j
    unfold putS
    rw [if_pos (by omega), Nat.add_sub_cancel_left]
  · refine (h m hm hm2).cg (fun c j hc => ?_)
    show putS X k Z (off m + c) j = X (off m + c) j
    unfold putS
    rw [if_neg (by have := off_ne (j := m) (k := k) e; omega)]
theorem KA.put2 {X Z : gM} (h : KA X) : KA (putS X 2 Z) := by
  intro m hm hm2
  refine (h m hm hm2).cg (fun c j hc => ?_)
  show putS X 2 Z (off m + c) j = X (off m + c) j
  unfold putS
  rw [if_neg (by have := off_ne (j := m) (k := 2) hm2; omega)]
/-- what lies outside the states -/
theorem KA.out {X X' : gM} (h : KA X) (ho : ∀ a, (1 ≤ a ∧ a < 370) ∨ (380 ≤ a ∧ a < 872) → X' a = X a) : KA X' := by
  intro m hm hm2
  refine (h m hm hm2).cg (fun c j hc => ?_)
  show X' (off m + c) j = X (off m + c) j
  rw [ho _ (by have := off_lt hm; unfold off at this ⊢; split at this <;> rename_i q <;> simp only [q, if_true, if_false] <;> omega)]
theorem KA.now {X : gM} (h : KA X) : Kv (vw 0 X) := h 0 (by decide) (by decide)
theorem KA.upd0 {X : gM} {c j : Nat} {v : Int32} (h : KA X) (hz : Kv (updM (vw 0 X) c j v)) (hc : c < 123) : KA (updM X (off 0 + c) j v) := by
  intro m hm hm2
  by_cases e : m = 0
  · subst e
    exact hz.cg (fun a i ha => vw_upd0)
  · refine (h m hm hm2).cg (fun a i ha => ?_)
    show updM X (off 0 + c) j v (off m + a) i = X (off m + a) i
    exact updM_n (by have := off_ne (j := m) (k := 0) e; rw [off0] at this ⊢; omega)
theorem KA.rec {X : gM} (h : KA X) (hI : Iv X) : KA (p_X8_recordState X) := by
  obtain ⟨Y, hR⟩ := hI
  obtain ⟨n, h4, a1, -, -⟩ := hR.2.1
  have hpsh : ∀ Z n, KA Z → HP Z → n < 4 → KA (psh Z n) := fun Z n hZ b hn => by
    unfold psh
    refine KA.out (hZ.put (b n hn).2.1 hZ.now) (fun a ha => updM_o (by omega))
  by_cases hn : n < 4
  · rw [rec_psh hR hn a1]
    exact hpsh X n h hR.2.2.1 hn
  · have e4 : n = 4 := by omega
    subst e4
    rw [rec_psh4 hR a1]
    refine hpsh _ 3 (h.out (fun a ha => ?_)) (turn_sim hR a1).1.2.2.1 (by decide)
    unfold xTurn
    rw [updM_o (by omega), updM_o (by omega), updM_o (by omega), updM_o (by omega), updM_o (by omega)]
