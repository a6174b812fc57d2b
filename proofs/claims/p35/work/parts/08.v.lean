section ACTS3
variable {X Y : gM} {r : Nat → Int32} {tc oc : Nat} {sl ph mn : Nat → Nat} {l n t k u : Nat}
theorem jO0 {o : Nat} (h : o < 4) : ((194 + (10 * nI o)) + 0 : Int32).toNatClampNeg = 194 + 10 * o + 0 := iO (w := 0) (by omega)
theorem kO0 {o : Nat} (h : o < 4) : vp_in ((194 + (10 * nI o)) + 0) 974 := vO (w := 0) (by omega)
theorem jO1 {o : Nat} (h : o < 4) : ((194 + (10 * nI o)) + 1 : Int32).toNatClampNeg = 194 + 10 * o + 1 := iO (w := 1) (by omega)
theorem kO1 {o : Nat} (h : o < 4) : vp_in ((194 + (10 * nI o)) + 1) 974 := vO (w := 1) (by omega)
theorem jO2 {o : Nat} (h : o < 4) : ((194 + (10 * nI o)) + 2 : Int32).toNatClampNeg = 194 + 10 * o + 2 := iO (w := 2) (by omega)
theorem kO2 {o : Nat} (h : o < 4) : vp_in ((194 + (10 * nI o)) + 2) 974 := vO (w := 2) (by omega)
theorem jO3 {o : Nat} (h : o < 4) : ((194 + (10 * nI o)) + 3 : Int32).toNatClampNeg = 194 + 10 * o + 3 := iO (w := 3) (by omega)
theorem kO3 {o : Nat} (h : o < 4) : vp_in ((194 + (10 * nI o)) + 3) 974 := vO (w := 3) (by omega)
theorem jO4 {o : Nat} (h : o < 4) : ((194 + (10 * nI o)) + 4 : Int32).toNatClampNeg = 194 + 10 * o + 4 := iO (w := 4) (by omega)
theorem kO4 {o : Nat} (h : o < 4) : vp_in ((194 + (10 * nI o)) + 4) 974 := vO (w := 4) (by omega)
theorem jO5 {o : Nat} (h : o < 4) : ((194 + (10 * nI o)) + 5 : Int32).toNatClampNeg = 194 + 10 * o + 5 := iO (w := 5) (by omega)
theorem kO5 {o : Nat} (h : o < 4) : vp_in ((194 + (10 * nI o)) + 5) 974 := vO (w := 5) (by omega)
theorem jO6 {o : Nat} (h : o < 4) : ((194 + (10 * nI o)) + 6 : Int32).toNatClampNeg = 194 + 10 * o + 6 := iO (w := 6) (by omega)
theorem kO6 {o : Nat} (h : o < 4) : vp_in ((194 + (10 * nI o)) + 6) 974 := vO (w := 6) (by omega)
theorem jO7 {o : Nat} (h : o < 4) : ((194 + (10 * nI o)) + 7 : Int32).toNatClampNeg = 194 + 10 * o + 7 := iO (w := 7) (by omega)
theorem kO7 {o : Nat} (h : o < 4) : vp_in ((194 + (10 * nI o)) + 7) 974 := vO (w := 7) (by omega)
theorem jO8 {o : Nat} (h : o < 4) : ((194 + (10 * nI o)) + 8 : Int32).toNatClampNeg = 194 + 10 * o + 8 := iO (w := 8) (by omega)
theorem kO8 {o : Nat} (h : o < 4) : vp_in ((194 + (10 * nI o)) + 8) 974 := vO (w := 8) (by omega)
theorem jO9 {o : Nat} (h : o < 4) : ((194 + (10 * nI o)) + 9 : Int32).toNatClampNeg = 194 + 10 * o + 9 := iO (w := 9) (by omega)
theorem kO9 {o : Nat} (h : o < 4) : vp_in ((194 + (10 * nI o)) + 9) 974 := vO (w := 9) (by omega)
def rOrd (r : Nat → Int32) (o t : Nat) (a2 : Int32) : Nat → Int32 := upd (upd (upd (upd (upd (upd (upd (upd (upd (upd (upd r (194 + 10 * o + 0) a2) (194 + 10 * o + 1) (r 0)) (194 + 10 * o + 2) 0) (194 + 10 * o + 3) 0) (194 + 10 * o + 4) 0) (194 + 10 * o + 5) (r (294 + 17 * t + 0))) (194 + 10 * o + 6) (r (294 + 17 * t + 2))) (194 + 10 * o + 7) (r (294 + 17 * t + 1))) (194 + 10 * o + 8) (r (294 + 17 * t + 3))) (194 + 10 * o + 9) (r (294 + 17 * t + 14))) 2 (nI (o + 1))
theorem order_ss (h : SS X r tc oc sl ph mn) (ho : oc < 4) (ht : t < tc) {p : Nat} (hp1 : 1 ≤ p) (hp : p ≤ 50) : (p_X3_giveOrder X (X (35 + 2 * t + 1)) (nI p)).1 = nI oc ∧ SS (p_X3_giveOrder X (X (35 + 2 * t + 1)) (nI p)).2 (rOrd r oc t (nI p)) tc (oc + 1) sl ph mn := by
  have h40 := h.tc4
  have ht4 : t < 40 := by omega
  have h6 : X 0 6 = nI oc := by rw [h.1.g LK2, h.r2]
  obtain ⟨g1, g2, g3, g14, -⟩ := h.tik ht
  obtain ⟨hPS, hOn, hLg, hInv⟩ := h
  have hw : f_X8_within (nI oc) 0 3 = 1 := (show ∀ k, k < 4 → f_X8_within (nI k) 0 3 = 1 by decide +kernel) oc ho
  have x0 : X (35 + 2 * t + 1) 0 = r (294 + 17 * t + 0) := hPS.g (LT0 ht4)
  have x1 : X (35 + 2 * t + 1) 1 = r (294 + 17 * t + 1) := hPS.g (LT1 ht4)
  have x2 : X (35 + 2 * t + 1) 2 = r (294 + 17 * t + 2) := hPS.g (LT2 ht4)
  have x3 : X (35 + 2 * t + 1) 3 = r (294 + 17 * t + 3) := hPS.g (LT3 ht4)
  have x14 : X (35 + 2 * t + 1) 4 = r (294 + 17 * t + 14) := hPS.g (LT14 ht4)
  have x7 : X 0 7 = r 0 := hPS.g LK0
  have ea : p_X3_giveOrder X (X (35 + 2 * t + 1)) (nI p) = (nI oc, updM (p_X2_give X (115 + 2 * oc) (X (35 + 2 * t + 1)) (nI p) (r 0)) 0 6 (nI (oc + 1))) := by
    unfold p_X3_giveOrder
    rw [h6, hw, if_neg (show ¬ (1 : Int32) = 0 by decide), c1 (by omega), x7]
    dsimp only
    have i6 : p_X2_give X (115 + 2 * oc) (X (35 + 2 * t + 1)) (nI p) (r 0) 0 6 = nI oc := by
      simp only [p_X2_give, p_X7_copyFrom]
      simp (disch := omega) only [updM_n, h6]
    rw [i6, nI_1]
  rw [ea]
  refine ⟨rfl, ?_, ?_, ?_, ?_⟩
  · simp only [p_X2_give, p_X7_copyFrom, rOrd, x0, x1, x2, x3, x14]
    refine PS.set LK2 (by simp (disch := omega) only [pk_un, pk_us]) ?_
    refine PS.set (LO4 ho) (by simp (disch := omega) only [pk_un, pk_us]) ?_
    refine PS.set (LO3 ho) (by simp (disch := omega) only [pk_un, pk_us]) ?_
    refine PS.set (LO2 ho) (by simp (disch := omega) only [pk_un, pk_us]) ?_
    refine PS.set (LO1 ho) (by simp (disch := omega) only [pk_un, pk_us]) ?_
    refine PS.set (LO0 ho) (by simp (disch := omega) only [pk_un, pk_us]) ?_
    refine PS.set (LO9 ho) (by simp (disch := omega) only [pk_un, pk_us]) ?_
    refine PS.set (LO8 ho) (by simp (disch := omega) only [pk_un, pk_us]) ?_
    refine PS.set (LO6 ho) (by simp (disch := omega) only [pk_un, pk_us]) ?_
    refine PS.set (LO7 ho) (by simp (disch := omega) only [pk_un, pk_us]) ?_
    refine PS.set (LO5 ho) (by simp (disch := omega) only [pk_un, pk_us]) ?_
    exact PS.rset (by simp) (PS.rset (by simp) (PS.rset (by simp) (PS.rset (by simp) (PS.rset (by simp) (PS.rset (by simp) (PS.rset (by simp) (PS.rset (by simp) (PS.rset (by simp) (PS.rset (by simp) (PS.rset (by simp) hPS.w0))))))))))
  · intro u hu h1
    simp only [rOrd] at h1 ⊢
    simp only [p_X2_give, p_X7_copyFrom]
    simp (disch := omega) only [pk_un] at h1 ⊢
    rw [updM_n (by omega), updM_sn', updM_sn', updM_sn', updM_sn', updM_sn', updM_sn', updM_sn', updM_sn', updM_sn', updM_sn']
    exact hOn u hu h1
  · refine hLg.same (fun j => ?_) (fun j => ?_) (fun i hi => ?_)
    · simp only [p_X2_give, p_X7_copyFrom]
      simp (disch := omega) only [updM_n]
    · simp only [p_X2_give, p_X7_copyFrom]
      simp (disch := omega) only [updM_n]
    · simp only [rOrd]
      simp (disch := omega) only [pk_un]
  · refine hInv.ordr (o := oc) ?_ (by omega) ho (fun o' h1 h2 => by omega) ?_ ?_
    · simp only [rOrd]
      rw [pk_us]
    · simp only [rOrd, InvO]
      simp (disch := omega) only [pk_us, pk_un]
      exact ⟨⟨p, hp1, hp, rfl⟩, by simp, g1, g2, g3, g14⟩
    · intro i hi n2 hr
      simp only [rOrd]
      rw [pk_un n2, pk_un (by omega), pk_un (by omega), pk_un (by omega), pk_un (by omega), pk_un (by omega), pk_un (by omega), pk_un (by omega), pk_un (by omega), pk_un (by omega), pk_un (by omega)]
theorem s_order (h : Rl X Y) (a1 a2 : Int32) : (p_X8_order X a1 a2).1 = (p_X9_order Y a1 a2).1 ∧ Rl (p_X8_order X a1 a2).2 (p_X9_order Y a1 a2).2 ∧ ok_X9_order Y a1 a2 := by
  obtain ⟨tc, oc, sl, ph, mn, hs⟩ := h.1
  obtain ⟨Y1, e1, h1, R1, o1, -, -⟩ := rec_use h hs
  have h40 := hs.tc4
  have h4 := hs.oc4
  unfold p_X8_order p_X9_order ok_X9_order
  have ar := ticket_arg (Y := Y) hs a1
  rw [sR_id] at ar
  rcases ar with ⟨w1, w2⟩ | ⟨t, ht, rfl, w1, w2⟩
  · rw [w1, w2, if_pos rfl, if_pos rfl]
    exact ⟨rfl, h, trivial⟩
  · have ht4 : t < 40 := by omega
    rw [w1, w2, if_neg (show ¬ (1 : Int32) = 0 by decide), if_neg (show ¬ (1 : Int32) = 0 by decide), e1, in_eq]
    simp only [gOpt]
    by_cases hw : f_X8_within a2 1 50 = 0
    · rw [if_pos hw, if_pos hw, if_pos hw]
      exact ⟨rfl, h, trivial⟩
    · rw [if_neg hw, if_neg hw, if_neg hw]
      obtain ⟨p, p1, p50, rfl⟩ : ∃ p, 1 ≤ p ∧ p ≤ 50 ∧ a2 = nI p := by
        unfold f_X8_within at hw
        by_cases q1 : a2 < 1
        · rw [if_pos q1] at hw
          exact absurd rfl hw
        · rw [if_neg q1] at hw
          by_cases q2 : 50 < a2
          · rw [if_pos q2] at hw
            exact absurd rfl hw
          · have q0 : ¬ a2 < 0 := by
              rw [Int32.lt_iff_toInt_lt] at q1 ⊢
              have e1 : (1 : Int32).toInt = 1 := by decide
              have e0 : (0 : Int32).toInt = 0 := by decide
              omega
            obtain ⟨p, hp, rfl⟩ := nI_of q0
            have q1' : ¬ nI p < nI 1 := q1
            have q2' : ¬ nI 50 < nI p := q2
            rw [nI_ltI hp (by omega)] at q1'
            rw [nI_ltI (by omega) hp] at q2'
            exact ⟨p, by omega, by omega, rfl⟩
      have y2 : Y 1 2 = nI oc := hs.r2
      rw [hs.1.g LK2, y2]
      by_cases ho : oc = 4
      · subst ho
        rw [if_neg (show ¬ nI 4 < 4 by decide +kernel), if_pos (show nI 4 = 4 from rfl), if_pos (show nI 4 = 4 from rfl)]
        exact ⟨rfl, h, trivial⟩
      · have ho4 : oc < 4 := by omega
        have ho' : ¬ nI oc = 4 := fun z => ho (nI_inj (b := 4) (by omega) (by omega) z)
        rw [if_pos (show nI oc < 4 from nI_lt (b := 4) ho4 (by decide)), if_neg ho', if_neg ho']
        dsimp only
        obtain ⟨b1, b2⟩ := order_ss h1 ho4 ht p1 p50
        have z2 : sR Y1 (Y 1) 1 2 = nI oc := y2
        have er : (updM (updM (updM (updM (updM (updM (updM (updM (updM (updM (sR Y1 (Y 1)) 1 (194 + 10 * oc + 0) (nI p)) 1 (194 + 10 * oc + 1) (Y 1 0)) 1 (194 + 10 * oc + 2) 0) 1 (194 + 10 * oc + 3) 0) 1 (194 + 10 * oc + 4) 0) 1 (194 + 10 * oc + 5) (Y 1 (294 + 17 * t + 0))) 1 (194 + 10 * oc + 6) (Y 1 (294 + 17 * t + 2))) 1 (194 + 10 * oc + 7) (Y 1 (294 + 17 * t + 1))) 1 (194 + 10 * oc + 8) (Y 1 (294 + 17 * t + 3))) 1 (194 + 10 * oc + 9) (Y 1 (294 + 17 * t + 14))) = sR Y1 (upd (upd (upd (upd (upd (upd (upd (upd (upd (upd (Y 1) (194 + 10 * oc + 0) (nI p)) (194 + 10 * oc + 1) (Y 1 0)) (194 + 10 * oc + 2) 0) (194 + 10 * oc + 3) 0) (194 + 10 * oc + 4) 0) (194 + 10 * oc + 5) (Y 1 (294 + 17 * t + 0))) (194 + 10 * oc + 6) (Y 1 (294 + 17 * t + 2))) (194 + 10 * oc + 7) (Y 1 (294 + 17 * t + 1))) (194 + 10 * oc + 8) (Y 1 (294 + 17 * t + 3))) (194 + 10 * oc + 9) (Y 1 (294 + 17 * t + 14))) := by
          simp only [sR_u1]
        simp only [z2, jO0 ho4, jO1 ho4, jO2 ho4, jO3 ho4, jO4 ho4, jO5 ho4, jO6 ho4, jO7 ho4, jO8 ho4, jO9 ho4, sR_u1, sR_1, rf_of0 ht4, rf_of1 ht4, rf_of2 ht4, rf_of3 ht4, rf_of14 ht4]
        simp (disch := omega) only [pk_us, pk_un]
        rw [y2, nI_1, nI_pred]
        refine ⟨b1, R1.act b2.se, o1, fun X1 ex => ?_⟩
        subst ex
        rw [z2]
        exact ⟨kO0 ho4, fun X2 _ => ⟨kO1 ho4, fun X3 _ => ⟨kO2 ho4, fun X4 _ => ⟨kO3 ho4, fun X5 _ => ⟨kO4 ho4, fun X6 _ => ⟨ro_of0 ht4, kO5 ho4, fun X7 _ => ⟨ro_of2 ht4, kO6 ho4, fun X8 _ => ⟨ro_of1 ht4, kO7 ho4, fun X9 _ => ⟨ro_of3 ht4, kO8 ho4, fun X10 _ => ⟨ro_of14 ht4, kO9 ho4, trivial⟩⟩⟩⟩⟩⟩⟩⟩⟩⟩
theorem in_13 {a : Int32} {N : Nat} (hN : N < 2147483648) (h : ¬ f_X8_within a 1 (nI N) = 0) : ∃ p, 1 ≤ p ∧ p ≤ N ∧ a = nI p := by
  unfold f_X8_within at h
  by_cases q1 : a < 1
  · rw [if_pos q1] at h
    exact absurd rfl h
  · rw [if_neg q1] at h
    by_cases q2 : nI N < a
    · rw [if_pos q2] at h
      exact absurd rfl h
    · have q0 : ¬ a < 0 := by
        rw [Int32.lt_iff_toInt_lt] at q1 ⊢
        have e1 : (1 : Int32).toInt = 1 := by decide
        have e0 : (0 : Int32).toInt = 0 := by decide
        omega
      obtain ⟨p, hp, rfl⟩ := nI_of q0
      have q1' : ¬ nI p < nI 1 := q1
      rw [nI_ltI hp (by omega)] at q1'
      rw [nI_ltI hN hp] at q2
      exact ⟨p, by omega, by omega, rfl⟩
/-- what is against a trip -/
theorem refuse_sim (h : SS X r tc oc sl ph mn) (v : Nat → Int32) : f_X3_refusalOf X v = f_X9_against (sR Y r) (v 0) (v 1) (v 2) (v 3) (v 4) ∧ ok_X9_against (sR Y r) (v 0) (v 1) (v 2) (v 3) (v 4) ∧ ((f_X3_refusalOf X v = 0 ∧ gTr mn (v 1) (v 2) (v 3) (v 4)) ∨ f_X3_refusalOf X v = (-1) ∨ f_X3_refusalOf X v = (-2)) := by
  obtain ⟨a2, ok2⟩ := station_arg (Y := Y) h (v 2)
  obtain ⟨a3, ok3⟩ := station_arg (Y := Y) h (v 3)
  unfold f_X3_refusalOf f_X9_against ok_X9_against f_X9_isWord
  rw [in_eq, in_eq, in_eq]
  rcases a2 with ⟨w1, w2⟩ | ⟨l, n, hl, hn, ef, w1, w2⟩
  · rw [w1, w2, if_pos rfl, if_pos rfl]
    exact ⟨rfl, ⟨ok2, trivial⟩, Or.inr (Or.inl rfl)⟩
  · rw [w1, w2, if_neg (show ¬ (1 : Int32) = 0 by decide), if_neg (show ¬ (1 : Int32) = 0 by decide)]
    simp only [gOpt]
    rcases a3 with ⟨z1, z2⟩ | ⟨l', n', hl', hn', et, z1, z2⟩
    · rw [z1, z2, if_pos rfl]
      exact ⟨rfl, ⟨ok2, ok3, trivial⟩, Or.inr (Or.inl rfl)⟩
    · rw [z1, z2, if_neg (show ¬ (1 : Int32) = 0 by decide)]
      dsimp only
      unfold f_X7_isGood
      refine ⟨?_, ⟨ok2, ok3, trivial⟩, ?_⟩
      · by_cases q1 : f_X8_within (v 0) 0 65535 = 0
        · rw [if_pos q1, if_pos rfl, if_pos q1]
        rw [if_neg q1, if_neg q1]
        by_cases q2 : f_X8_within (v 1) 1 3 = 0
        · rw [if_pos q2, if_pos rfl, if_pos q2]
        rw [if_neg q2, if_neg q2]
        by_cases q3 : f_X8_within (v 4) 1 9 = 0
        · rw [if_pos q3, if_pos rfl, if_pos q3]
        rw [if_neg q3, if_neg q3]
        by_cases q4 : v 2 = v 3
        · rw [if_pos q4, if_pos rfl, if_pos q4]
        rw [if_neg q4, if_neg (show ¬ (1 : Int32) = 0 by decide), if_neg q4]
      · by_cases q1 : f_X8_within (v 0) 0 65535 = 0
        · rw [if_pos q1, if_pos rfl]
          exact Or.inr (Or.inr rfl)
        rw [if_neg q1]
        by_cases q2 : f_X8_within (v 1) 1 3 = 0
        · rw [if_pos q2, if_pos rfl]
          exact Or.inr (Or.inr rfl)
        rw [if_neg q2]
        by_cases q3 : f_X8_within (v 4) 1 9 = 0
        · rw [if_pos q3, if_pos rfl]
          exact Or.inr (Or.inr rfl)
        rw [if_neg q3]
        by_cases q4 : v 2 = v 3
        · rw [if_pos q4, if_pos rfl]
          exact Or.inr (Or.inr rfl)
        rw [if_neg q4, if_neg (show ¬ (1 : Int32) = 0 by decide)]
        exact Or.inl ⟨rfl, in_13 (N := 3) (by omega) q2, ⟨l, n, hl, hn, ef⟩, ⟨l', n', hl', hn', et⟩, in_13 (N := 9) (by omega) q3⟩
theorem hasT (h : SS X r tc oc sl ph mn) : f_X3_hasTickets X 1 = if tc = 40 then 0 else 1 := by
  have h40 := h.tc4
  unfold f_X3_hasTickets
  rw [h.1.g LK1, h.r1, show nI tc + 1 = nI (tc + 1) from nI_1 tc]
  by_cases ht : tc = 40
  · rw [if_pos ht, if_pos (show (40 : Int32) < nI (tc + 1) by rw [ht]; decide +kernel)]
  · rw [if_neg ht, if_neg (show ¬ (40 : Int32) < nI (tc + 1) from nI_nlt (a := 40) (by omega) (by omega))]
theorem s_book (h : Rl X Y) (a1 a2 a3 a4 a5 : Int32) : (p_X8_book X a1 a2 a3 a4 a5).1 = (p_X9_book Y a1 a2 a3 a4 a5).1 ∧ Rl (p_X8_book X a1 a2 a3 a4 a5).2 (p_X9_book Y a1 a2 a3 a4 a5).2 ∧ ok_X9_book Y a1 a2 a3 a4 a5 := by
  obtain ⟨X5, eX⟩ : ∃ Z, Z = updM (updM (updM (updM (updM X 379 0 a1) 379 1 a2) 379 2 a3) 379 3 a4) 379 4 a5 := ⟨_, rfl⟩
  have xo : ∀ a, a ≠ 379 → X5 a = X a := fun a ha => by rw [eX, updM_o ha, updM_o ha, updM_o ha, updM_o ha, updM_o ha]
  have v0 : X5 379 0 = a1 := by rw [eX, updM_sn (by decide), updM_sn (by decide), updM_sn (by decide), updM_sn (by decide), updM_ss]
  have v1 : X5 379 1 = a2 := by rw [eX, updM_sn (by decide), updM_sn (by decide), updM_sn (by decide), updM_ss]
  have v2 : X5 379 2 = a3 := by rw [eX, updM_sn (by decide), updM_sn (by decide), updM_ss]
  have v3 : X5 379 3 = a4 := by rw [eX, updM_sn (by decide), updM_ss]
  have v4 : X5 379 4 = a5 := by rw [eX, updM_ss]
  have h5 : Rl X5 Y := h.fr (h.1.cg (fun c j hc => congrFun (xo (off 0 + c) (by rw [off0]; omega)) j) (fun _ _ => rfl)) ⟨fun a ha => xo a (by omega), by rw [xo 0 (by decide)], by rw [xo 0 (by decide)], by rw [xo 371 (by decide)]⟩ FY.rf
  obtain ⟨tc, oc, sl, ph, mn, hs⟩ := h5.1
  obtain ⟨Y1, e1, h1, R1, o1, rx, -⟩ := rec_use h5 hs
  have h40 := hs.tc4
  obtain ⟨f1, f2, f3⟩ := refuse_sim (Y := Y) hs (X5 379)
  rw [sR_id, v0, v1, v2, v3, v4] at f1 f2
  rw [v1, v2, v3, v4] at f3
  unfold p_X8_book p_X9_book ok_X9_book
  dsimp only
  rw [← eX, ← f1, hasT hs]
  have y1 : Y 1 1 = nI tc := hs.r1
  rw [y1]
  rcases f3 with ⟨z, hg⟩ | z | z
  · rw [z, if_pos rfl, if_pos (show (0 : Int32) ≤ 0 by decide), if_pos (show (0 : Int32) ≤ 0 by decide)]
    by_cases ht : tc = 40
    · have ht' : nI tc = 40 := by rw [ht]; rfl
      rw [if_pos ht, if_pos rfl, if_pos ht', if_pos ht']
      exact ⟨rfl, h5, f2, trivial⟩
    · have ht' : ¬ nI tc = 40 := fun z => ht (nI_inj (b := 40) (by omega) (by omega) z)
      rw [if_neg ht, if_neg (show ¬ (1 : Int32) = 0 by decide), if_neg ht', if_neg ht', e1]
      have e379 : p_X8_recordState X5 379 = X5 379 := rx.1 379 (by decide) (by decide) (by decide)
      rw [e379]
      obtain ⟨b1, b2, -⟩ := admit_sim h1 (show tc < 40 by omega) (X5 379) (by rw [v1, v2, v3, v4]; exact hg)
      rw [v0, v1, v2, v3, v4] at b2
      obtain ⟨m1, m2⟩ := rp_comes (Y := Y1) (a1 := a1) (a2 := a2) (a3 := a3) (a4 := a4) (a5 := a5) (show tc < 40 by omega) y1
      rw [m1]
      dsimp only
      refine ⟨b1, R1.act b2.se, f2, o1, fun X1 ex => ?_⟩
      subst ex
      exact ⟨m2, trivial⟩
  · rw [z, if_neg (show ¬ (-1 : Int32) = 0 by decide), if_neg (show ¬ (0 : Int32) ≤ -1 by decide), if_neg (show ¬ (0 : Int32) ≤ -1 by decide)]
    exact ⟨rfl, h5, f2, trivial⟩
  · rw [z, if_neg (show ¬ (-2 : Int32) = 0 by decide), if_neg (show ¬ (0 : Int32) ≤ -2 by decide), if_neg (show ¬ (0 : Int32) ≤ -2 by decide)]
    exact ⟨rfl, h5, f2, trivial⟩
end ACTS3
