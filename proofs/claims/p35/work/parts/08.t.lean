/-! acts on the state of now: both sides -/
theorem fy_sR2 {Y : gM} {r r' : Nat → Int32} : FY (sR Y r) (sR Y r') := ⟨rfl, rfl, rfl, rfl, rfl, rfl⟩
theorem SS.se {X : gM} {r : Nat → Int32} {tc oc : Nat} {sl ph mn : Nat → Nat} (h : SS X r tc oc sl ph mn) : SE X r := ⟨tc, oc, sl, ph, mn, h⟩
theorem Rl.act {X Y Z : gM} {r r' : Nat → Int32} (h : Rl X (sR Y r)) (hs : SE Z r') : Rl (putS X 0 Z) (sR Y r') := h.fr (hs.cg (fun _ _ hc => vw_put0 hc) (fun _ _ => rfl)) FX.put0 fy_sR2
theorem vw_upd0 {X : gM} {c j : Nat} {v : Int32} {c' j' : Nat} : vw 0 (updM X (off 0 + c) j v) c' j' = updM (vw 0 X) c j v c' j' := by
  show updM X (off 0 + c) j v (off 0 + c') j' = _
  by_cases h : c' = c
  · subst h
    by_cases h2 : j' = j
    · subst h2
      rw [updM_ss, updM_ss]
    · rw [updM_sn h2, updM_sn h2]
      rfl
  · rw [updM_n (by omega), updM_n h]
    rfl
theorem Rl.actU {X Y : gM} {r r' : Nat → Int32} {c j : Nat} {v : Int32} (h : Rl X (sR Y r)) (hc : c < 123) (hs : SE (updM (vw 0 X) c j v) r') : Rl (updM X (off 0 + c) j v) (sR Y r') := h.fr (hs.cg (fun _ _ _ => vw_upd0) (fun _ _ => rfl)) (FX.upd0 hc) fy_sR2
theorem rec_use {X Y : gM} {tc oc : Nat} {sl ph mn : Nat → Nat} (h : Rl X Y) (hs : SS (vw 0 X) (Y 1) tc oc sl ph mn) : ∃ Y1, p_X9_records Y = sR Y1 (Y 1) ∧ SS (vw 0 (p_X8_recordState X)) (Y 1) tc oc sl ph mn ∧ Rl (p_X8_recordState X) (sR Y1 (Y 1)) ∧ ok_X9_records Y ∧ RX X (p_X8_recordState X) ∧ RY Y (sR Y1 (Y 1)) := by
  obtain ⟨a, b, c, d⟩ := rec_sim h
  have e : sR (p_X9_records Y) (Y 1) = p_X9_records Y := by
    have := sR_id (Y := p_X9_records Y)
    rwa [c.1 1 (by decide) (by decide)] at this
  refine ⟨p_X9_records Y, e.symm, hs.cg (fun q j hq => ?_) (fun _ _ => rfl), by rw [e]; exact a, d, b, by rw [e]; exact c⟩
  exact congrFun (b.1 (off 0 + q) (by rw [off0]; omega) (by rw [off0]; omega) (by rw [off0]; omega)) j
theorem Inv.ordr {r r' : Nat → Int32} {tc oc oc' o : Nat} {sl ph mn : Nat → Nat} (h : Inv r tc oc sl ph mn) (h2 : r' 2 = nI oc') (h4 : oc' ≤ 4) (ho : o < 4) (hoc : ∀ o', o' < oc' → o' ≠ o → o' < oc) (hO : InvO r' mn o) (hs : ∀ i, zr i = true → i ≠ 2 → (i < 194 + 10 * o ∨ 194 + 10 * o + 10 ≤ i) → r' i = r i) : Inv r' tc oc' sl ph mn := by
  obtain ⟨⟨a1, a2⟩, ⟨b1, b2⟩, c, d, e, f, g, kk⟩ := h
  have m6 : ∀ l, l < 2 → mn l ≤ 6 := fun l hl => (c l hl).2.2.2
  have s24 : ∀ l, l < 2 → sl l ≤ 24 := fun l hl => (c l hl).1.2.2
  refine ⟨⟨by rw [hs 1 (by decide +kernel) (by omega) (by omega), a1], a2⟩, ⟨h2, h4⟩, ?_, ?_, ?_, ?_, ?_, ?_⟩
  · intro l hl
    unfold InvL
    rw [hs _ (zL0 hl) (by omega) (by omega), hs _ (zL1 hl) (by omega) (by omega), hs _ (zL4 hl) (by omega) (by omega)]
    exact c l hl
  · intro l n hl hn
    have h6 : n < 6 := Nat.lt_of_lt_of_le hn (m6 l hl)
    unfold InvS
    rw [hs _ (zS0 hl h6) (by omega) (by omega), hs _ (zS5 hl h6) (by omega) (by omega)]
    exact d l n hl hn
  · intro l n q hl w2 w3
    rw [hs _ (zV hl w2 w3) (by omega) (by omega)]
    exact e l n q hl w2 w3
  · intro o' ho'
    by_cases ho2 : o' = o
    · subst ho2
      exact hO
    · have h44 := hoc o' ho' ho2
      have h4' : o' < 4 := by omega
      unfold InvO
      rw [hs _ (zO0 h4') (by omega) (by omega), hs _ (zO4 h4') (by omega) (by omega), hs _ (zO6 h4') (by omega) (by omega), hs _ (zO7 h4') (by omega) (by omega), hs _ (zO8 h4') (by omega) (by omega), hs _ (zO9 h4') (by omega) (by omega)]
      exact f o' h44
  · intro u hu
    have h4' : u < 40 := by omega
    have q := g u hu
    unfold InvT at q ⊢
    rw [hs _ (zT1 h4') (by omega) (by omega), hs _ (zT2 h4') (by omega) (by omega), hs _ (zT3 h4') (by omega) (by omega), hs _ (zT14 h4') (by omega) (by omega), hs _ (zT6 h4') (by omega) (by omega), hs _ (zT4 h4') (by omega) (by omega), hs _ (zT7 h4') (by omega) (by omega), hs _ (zT8 h4') (by omega) (by omega)]
    obtain ⟨q1, q2, q3, q4, s, q5, q6, q7, q8, q9⟩ := q
    refine ⟨q1, q2, q3, q4, s, q5, q6, q7, fun hz => ?_, q9⟩
    obtain ⟨l, j, w1, w2, w3, w4, w5⟩ := q8 hz
    have := s24 l w1
    exact ⟨l, j, w1, w2, w3, w4, by rw [hs _ (zE w1 (by omega)) (by omega) (by omega), w5]⟩
  · intro l j hl hj
    unfold InvE
    rw [hs _ (zE hl hj) (by omega) (by omega)]
    rcases kk l j hl hj with q | ⟨u, q1, q2, q3, q4, q5⟩
    · exact Or.inl q
    · have h4' : u < 40 := by omega
      exact Or.inr ⟨u, by omega, q2, by rw [hs _ (zT6 h4') (by omega) (by omega), q3], by rw [hs _ (zT7 h4') (by omega) (by omega), q4], by rw [hs _ (zT8 h4') (by omega) (by omega), q5]⟩
/-- a word that waits, or is in a hall, ends -/
theorem Inv.quit {r r' : Nat → Int32} {tc oc : Nat} {sl ph mn : Nat → Nat} (h : Inv r tc oc sl ph mn) {t : Nat} (ht : t < tc) (h0 : r (294 + 17 * t + 6) ≠ 1) (h6 : r' (294 + 17 * t + 6) = 8) (hs : ∀ i, zr i = true → i ≠ 294 + 17 * t + 6 → i ≠ 294 + 17 * t + 7 → i ≠ 294 + 17 * t + 8 → r' i = r i) : Inv r' tc oc sl ph mn := by
  obtain ⟨⟨a1, a2⟩, ⟨b1, b2⟩, c, d, e, f, g, kk⟩ := h
  have m6 : ∀ l, l < 2 → mn l ≤ 6 := fun l hl => (c l hl).2.2.2
  have s24 : ∀ l, l < 2 → sl l ≤ 24 := fun l hl => (c l hl).1.2.2
  refine ⟨⟨by rw [hs 1 (by decide +kernel) (by omega) (by omega) (by omega), a1], a2⟩, ⟨by rw [hs 2 (by decide +kernel) (by omega) (by omega) (by omega), b1], b2⟩, ?_, ?_, ?_, ?_, ?_, ?_⟩
  · intro l hl
    unfold InvL
    rw [hs _ (zL0 hl) (by omega) (by omega) (by omega), hs _ (zL1 hl) (by omega) (by omega) (by omega), hs _ (zL4 hl) (by omega) (by omega) (by omega)]
    exact c l hl
  · intro l n hl hn
    have h6' : n < 6 := Nat.lt_of_lt_of_le hn (m6 l hl)
    unfold InvS
    rw [hs _ (zS0 hl h6') (by omega) (by omega) (by omega), hs _ (zS5 hl h6') (by omega) (by omega) (by omega)]
    exact d l n hl hn
  · intro l n q hl w2 w3
    rw [hs _ (zV hl w2 w3) (by omega) (by omega) (by omega)]
    exact e l n q hl w2 w3
  · intro o ho
    have h4 : o < 4 := Nat.lt_of_lt_of_le ho b2
    unfold InvO
    rw [hs _ (zO0 h4) (by omega) (by omega) (by omega), hs _ (zO4 h4) (by omega) (by omega) (by omega), hs _ (zO6 h4) (by omega) (by omega) (by omega), hs _ (zO7 h4) (by omega) (by omega) (by omega), hs _ (zO8 h4) (by omega) (by omega) (by omega), hs _ (zO9 h4) (by omega) (by omega) (by omega)]
    exact f o ho
  · intro u hu
    have h4 : u < 40 := Nat.lt_of_lt_of_le hu a2
    have q := g u hu
    unfold InvT at q ⊢
    rw [hs _ (zT1 h4) (by omega) (by omega) (by omega), hs _ (zT2 h4) (by omega) (by omega) (by omega), hs _ (zT3 h4) (by omega) (by omega) (by omega), hs _ (zT14 h4) (by omega) (by omega) (by omega), hs _ (zT4 h4) (by omega) (by omega) (by omega)]
    obtain ⟨q1, q2, q3, q4, s, q5, q6, q7, q8, q9⟩ := q
    by_cases hut : u = t
    · subst hut
      exact ⟨q1, q2, q3, q4, 8, by omega, h6, fun z => absurd z (by decide), fun z => absurd z (by decide), fun z => absurd z (by decide)⟩
    · rw [hs _ (zT6 h4) (by omega) (by omega) (by omega), hs _ (zT7 h4) (by omega) (by omega) (by omega), hs _ (zT8 h4) (by omega) (by omega) (by omega)]
      refine ⟨q1, q2, q3, q4, s, q5, q6, q7, fun hz => ?_, q9⟩
      obtain ⟨l, j, w1, w2, w3, w4, w5⟩ := q8 hz
      have := s24 l w1
      exact ⟨l, j, w1, w2, w3, w4, by rw [hs _ (zE w1 (by omega)) (by omega) (by omega) (by omega), w5]⟩
  · intro l j hl hj
    unfold InvE
    rw [hs _ (zE hl hj) (by omega) (by omega) (by omega)]
    rcases kk l j hl hj with q | ⟨u, q1, q2, q3, q4, q5⟩
    · exact Or.inl q
    · have h4 : u < 40 := Nat.lt_of_lt_of_le q1 a2
      have hut : u ≠ t := by
        rintro rfl
        exact h0 q3
      exact Or.inr ⟨u, q1, q2, by rw [hs _ (zT6 h4) (by omega) (by omega) (by omega), q3], by rw [hs _ (zT7 h4) (by omega) (by omega) (by omega), q4], by rw [hs _ (zT8 h4) (by omega) (by omega) (by omega), q5]⟩
section ACTS
variable {X Y : gM} {r : Nat → Int32} {tc oc : Nat} {sl ph mn : Nat → Nat} {l n t k u : Nat}
theorem i32_sub0 {a b : Int32} : a - b = 0 ↔ a = b := by
  rw [← Int32.sub_self b]
  exact Int32.sub_left_inj b
theorem s_setHeat (h : Rl X Y) (a1 a2 : Int32) : (p_X8_setHeat X a1 a2).1 = (p_X9_setHeat Y a1 a2).1 ∧ Rl (p_X8_setHeat X a1 a2).2 (p_X9_setHeat Y a1 a2).2 ∧ ok_X9_setHeat Y a1 a2 := by
  obtain ⟨tc, oc, sl, ph, mn, hs⟩ := h.1
  obtain ⟨Y1, e1, h1, R1, o1, -, -⟩ := rec_use h hs
  unfold p_X8_setHeat p_X9_setHeat ok_X9_setHeat
  rcases line_arg a1 with ⟨w1, w2⟩ | ⟨l, hl, rfl, w1, w2⟩
  · rw [w1, w2, if_pos rfl, if_pos rfl, if_pos rfl]
    exact ⟨rfl, h, trivial⟩
  · have hr : f_X9_ofLine Y (nI l) 3 = Y 1 (10 + 8 * l + 3) := rf_line3 hl
    rw [w1, w2, if_neg (show ¬ (1 : Int32) = 0 by decide), if_neg (show ¬ (1 : Int32) = 0 by decide), if_neg (show ¬ (1 : Int32) = 0 by decide), lineOf_n hl, in_eq, hr, hs.1.g (LL3 hl)]
    by_cases hw : f_X8_within a2 (-10) 10 = 0
    · rw [if_pos hw, if_pos hw, if_pos hw]
      exact ⟨rfl, h, trivial⟩
    · rw [if_neg hw, if_neg hw, if_neg hw]
      by_cases he : Y 1 (10 + 8 * l + 3) = a2
      · have he' : a2 - Y 1 (10 + 8 * l + 3) = 0 := i32_sub0.mpr he.symm
        rw [if_pos he, if_pos he', if_pos he']
        exact ⟨rfl, h, ro_line3 hl, trivial⟩
      · have he' : ¬ a2 - Y 1 (10 + 8 * l + 3) = 0 := fun z => he (i32_sub0.mp z).symm
        rw [if_neg he, if_neg he', if_neg he', e1]
        dsimp only
        rw [ri_line3 hl, sR_u1]
        have hS := h1.setO (v := a2) (LL3 hl) (yL3 hl) (by omega) (by omega) (by decide)
        have hR := R1.actU (by omega) hS.se
        refine ⟨?_, ?_, ro_line3 hl, o1, fun X1 _ => ⟨rv_line3 hl, trivial⟩⟩
        · split
          · rfl
          · show 0 - _ = _
            rw [Int32.sub_eq_add_neg, Int32.zero_add]
        · split
          · exact hR
          · exact hR
theorem s_sets (h : Rl X Y) {w j : Nat} (hl : LC w 0 j) (hz : zr w = false) (hw : w < 9) (hj : j ≠ 13) (a : Int32) : (∀ x, vw 0 X 0 j = x → Y 1 w = x) ∧ ∃ Y1, p_X9_records Y = sR Y1 (Y 1) ∧ Rl (updM (p_X8_recordState X) (off 0 + 0) j a) (sR Y1 (upd (Y 1) w a)) ∧ ok_X9_records Y := by
  obtain ⟨tc, oc, sl, ph, mn, hs⟩ := h.1
  obtain ⟨Y1, e1, h1, R1, o1, -, -⟩ := rec_use h hs
  refine ⟨fun x hx => by rw [← hx, hs.1.g hl], Y1, e1, R1.actU (by omega) (h1.setO (v := a) hl hz (by omega) (by omega) hj).se, o1⟩
theorem s_setFare (h : Rl X Y) (a1 : Int32) : (p_X8_setFare X a1).1 = (p_X9_setFare Y a1).1 ∧ Rl (p_X8_setFare X a1).2 (p_X9_setFare Y a1).2 ∧ ok_X9_setFare Y a1 := by
  obtain ⟨g, Y1, e1, R1, o1⟩ := s_sets h LK6 yK6 (by decide) (by decide) a1
  have g6 : vw 0 X 0 8 = Y 1 6 := (g _ rfl).symm
  have e6 : (6 : Int32).toNatClampNeg = 6 := by decide +kernel
  unfold p_X8_setFare p_X9_setFare ok_X9_setFare p_X9_sets ok_X9_sets
  rw [in_eq, g6, e6]
  by_cases hw : f_X8_within a1 1 99 = 0
  · rw [if_pos hw, if_pos hw, if_pos hw]
    exact ⟨rfl, h, trivial⟩
  · rw [if_neg hw, if_neg hw, if_neg hw]
    dsimp only
    by_cases he : Y 1 6 = a1
    · rw [if_pos he, if_pos he, if_pos he]
      exact ⟨rfl, h, ⟨vp_in_nI (n := 6) (by omega) (by decide), trivial⟩, trivial⟩
    · rw [if_neg he, if_neg he, if_neg he, e1, sR_u1]
      exact ⟨rfl, R1, ⟨vp_in_nI (n := 6) (by omega) (by decide), o1, fun X1 _ => ⟨vp_in_nI (n := 6) (by omega) (by decide), trivial⟩⟩, trivial⟩
theorem s_setPatience (h : Rl X Y) (a1 : Int32) : (p_X8_setPatience X a1).1 = (p_X9_setPatience Y a1).1 ∧ Rl (p_X8_setPatience X a1).2 (p_X9_setPatience Y a1).2 ∧ ok_X9_setPatience Y a1 := by
  obtain ⟨g, Y1, e1, R1, o1⟩ := s_sets h LK7 yK7 (by decide) (by decide) a1
  have g6 : vw 0 X 0 9 = Y 1 7 := (g _ rfl).symm
  have e6 : (7 : Int32).toNatClampNeg = 7 := by decide +kernel
  unfold p_X8_setPatience p_X9_setPatience ok_X9_setPatience p_X9_sets ok_X9_sets
  rw [in_eq, g6, e6]
  by_cases hw : f_X8_within a1 0 50 = 0
  · rw [if_pos hw, if_pos hw, if_pos hw]
    exact ⟨rfl, h, trivial⟩
  · rw [if_neg hw, if_neg hw, if_neg hw]
    dsimp only
    by_cases he : Y 1 7 = a1
    · rw [if_pos he, if_pos he, if_pos he]
      exact ⟨rfl, h, ⟨vp_in_nI (n := 7) (by omega) (by decide), trivial⟩, trivial⟩
    · rw [if_neg he, if_neg he, if_neg he, e1, sR_u1]
      exact ⟨rfl, R1, ⟨vp_in_nI (n := 7) (by omega) (by decide), o1, fun X1 _ => ⟨vp_in_nI (n := 7) (by omega) (by decide), trivial⟩⟩, trivial⟩
theorem iO4 {o : Nat} (h : o < 4) : ((194 + (10 * nI o)) + 4 : Int32).toNatClampNeg = 194 + 10 * o + 4 := iO (w := 4) (by omega)
theorem iO2 {o : Nat} (h : o < 4) : ((194 + (10 * nI o)) + 2 : Int32).toNatClampNeg = 194 + 10 * o + 2 := iO (w := 2) (by omega)
theorem s_endOrder (h : Rl X Y) (a1 : Int32) : (p_X8_endOrder X a1).1 = (p_X9_endOrder Y a1).1 ∧ Rl (p_X8_endOrder X a1).2 (p_X9_endOrder Y a1).2 ∧ ok_X9_endOrder Y a1 := by
  obtain ⟨tc, oc, sl, ph, mn, hs⟩ := h.1
  obtain ⟨Y1, e1, h1, R1, o1, -, -⟩ := rec_use h hs
  have h4 := hs.oc4
  unfold p_X8_endOrder p_X9_endOrder ok_X9_endOrder
  have ar := order_arg (Y := Y) hs a1
  rw [sR_id] at ar
  rcases ar with ⟨w1, w2⟩ | ⟨o, ho, rfl, w1, w2⟩
  · rw [w1, w2, if_pos rfl, if_pos rfl]
    exact ⟨rfl, h, trivial⟩
  · have ho4 : o < 4 := by omega
    obtain ⟨q0, eo, q7, q6, q8, q9⟩ := hs.ord ho
    rw [w1, w2, if_neg (show ¬ (1 : Int32) = 0 by decide), if_neg (show ¬ (1 : Int32) = 0 by decide), iO4 ho4, iO2 ho4]
    simp only [gOpt]
    rw [hs.1.g (LO4 ho4), gBit_01 eo]
    have v4 : vp_in ((194 + (10 * nI o)) + 4) 974 := vO (w := 4) (by omega)
    have v2 : vp_in ((194 + (10 * nI o)) + 2) 974 := vO (w := 2) (by omega)
    rcases eo with z | z
    · rw [z, if_pos rfl, if_neg (show ¬ (0 : Int32) = 1 by decide), if_neg (show ¬ (0 : Int32) = 1 by decide), e1]
      dsimp only
      rw [sR_u1, sR_1]
      obtain ⟨hPS, hOn, hLg, hInv⟩ := h1
      have hS : SS (updM (vw 0 (p_X8_recordState X)) (115 + 2 * o) 5 1) (upd (Y 1) (194 + 10 * o + 4) 1) tc oc sl ph mn := by
        refine ⟨PS.set (LO4 ho4) pk_us (PS.rset (by simp) hPS.w0), fun u hu h1 => ?_, hLg.same (fun j => updM_n (by omega)) (fun j => updM_n (by omega)) (fun i hi => pk_un (by omega)), hInv.ordr (o := o) (by rw [pk_un (by omega)]; exact hs.r2) h4 ho4 (fun o' ho' _ => ho') ⟨?_, Or.inr pk_us, ?_, ?_, ?_, ?_⟩ (fun i _ _ hi => pk_un (by omega))⟩
        · rw [updM_sn', pk_un (by omega), pk_un (by omega)]
          rw [pk_un (by omega)] at h1
          exact hOn u hu h1
        · rw [pk_un (by omega)]
          exact q0
        · rw [pk_un (by omega)]
          exact q7
        · rw [pk_un (by omega)]
          exact q6
        · rw [pk_un (by omega)]
          exact q8
        · rw [pk_un (by omega)]
          exact q9
      refine ⟨?_, R1.actU (by omega) hS.se, v4, o1, fun X1 _ => ⟨v4, fun X2 _ => ⟨v2, trivial⟩⟩⟩
      rw [vw_upd0]
      exact hS.1.g (LO2 ho4)
    · rw [z, if_neg (show ¬ (1 : Int32) = 0 by decide), if_pos rfl, if_pos rfl]
      exact ⟨rfl, h, v4, trivial⟩
end ACTS
