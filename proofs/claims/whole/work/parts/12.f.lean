/-! every act is refused or done -/
theorem i_sub {a b : Int32} (h1 : -2147483648 ≤ a.toInt - b.toInt) (h2 : a.toInt - b.toInt < 2147483648) : (a - b).toInt = a.toInt - b.toInt := by
  rw [Int32.toInt_sub, Int.bmod_eq_of_le (by omega) (by omega)]
theorem tx_10 : (10 : Int32).toInt = 10 := by decide
theorem tx_m10 : (-10 : Int32).toInt = -10 := by decide
theorem tx_z : (0 : Int32).toInt = 0 := by decide
section ACTS
variable {X : gM}
theorem act_build (hI : Iv X) (a1 a2 : Int32) : Ac X (p_X8_build X a1 a2) := by
  obtain ⟨Y, hR⟩ := id hI
  obtain ⟨tc, oc, sl, ph, mn, hs⟩ := hR.1
  unfold p_X8_build
  rcases line_arg a1 with ⟨e1, -⟩ | ⟨l, hl, rfl, e1, -⟩
  · rw [e1, if_pos rfl]
    exact Ac.no (by decide)
  · rw [e1, if_neg (show ¬ (1 : Int32) = 0 by decide), lineOf_n hl]
    split
    · exact Ac.no (by decide)
    · split
      · exact Ac.no (by decide)
      · split
        · split
          · exact Ac.no (by decide)
          · dsimp only
            have hL := (hs.lin hl).1
            refine Ac.yes ?_ (rec_fx hI FX.put0)
            rw [hs.1.g (LL0 hl), hL.1]
            exact nI_pos' (by omega)
        · exact Ac.no (by decide)
theorem act_addStation (hI : Iv X) (a1 a2 : Int32) : Ac X (p_X8_addStation X a1 a2) := by
  obtain ⟨Y, hR⟩ := id hI
  obtain ⟨tc, oc, sl, ph, mn, hs⟩ := hR.1
  obtain ⟨Y1, -, h1, -, -, -, -⟩ := rec_use hR hs
  unfold p_X8_addStation
  rcases line_arg a1 with ⟨e1, -⟩ | ⟨l, hl, rfl, e1, -⟩
  · rw [e1, if_pos rfl]
    exact Ac.no (by decide)
  · rw [e1, if_neg (show ¬ (1 : Int32) = 0 by decide), lineOf_n hl]
    split
    · exact Ac.no (by decide)
    · split
      · split
        · dsimp only
          refine Ac.yes ?_ (rec_fx hI FX.put0)
          have hM := (h1.lin hl).2.2
          have hm6 := hM.2
          unfold p_X0_openStation
          split
          · rw [h1.1.g (LL4 hl), hM.1]
            exact nI_pos' (by omega)
          · dsimp only
            rw [h1.1.g (LL4 hl), hM.1]
            exact nI_pos' (by omega)
        · exact Ac.no (by decide)
      · exact Ac.no (by decide)
theorem act_setHeat (hI : Iv X) (hK : Kv (vw 0 X)) (a1 a2 : Int32) : Ac X (p_X8_setHeat X a1 a2) := by
  unfold p_X8_setHeat
  rcases line_arg a1 with ⟨e1, -⟩ | ⟨l, hl, rfl, e1, -⟩
  · rw [e1, if_pos rfl]
    exact Ac.no (by decide)
  · rw [e1, if_neg (show ¬ (1 : Int32) = 0 by decide), lineOf_n hl]
    by_cases hw : f_X8_within a2 (-10) 10 = 0
    · rw [if_pos hw]
      exact Ac.no (by decide)
    · rw [if_neg hw]
      split
      · exact Ac.no (by decide)
      · dsimp only
        refine Ac.yes ?_ (rec_fx hI (FX.upd0 (by omega)))
        obtain ⟨b1, b2⟩ := hK.2.2.2.1 l hl
        simp only [w_ne, tx_10, tx_m10] at hw
        simp only [Int32.le_iff_toInt_le, tx_10, tx_m10] at b1 b2
        generalize vw 0 X (1 + 15 * l) 7 = h at b1 b2 ⊢
        have e := i_sub (a := a2) (b := h) (by omega) (by omega)
        split
        · assumption
        · rename_i hn
          rw [Int32.le_iff_toInt_le, tx_z] at hn ⊢
          rw [i_sub (by rw [tx_z]; omega) (by rw [tx_z]; omega), tx_z]
          omega
theorem act_setFare (hI : Iv X) (hK : Kv (vw 0 X)) (a1 : Int32) : Ac X (p_X8_setFare X a1) := by
  unfold p_X8_setFare
  split
  · exact Ac.no (by decide)
  · split
    · exact Ac.no (by decide)
    · dsimp only
      refine Ac.yes ?_ (rec_fx hI (FX.upd0 (by omega)))
      have b := hK.1.1
      rw [Int32.le_iff_toInt_le] at b ⊢
      rw [show (1 : Int32).toInt = 1 from by decide] at b
      rw [tx_z]
      omega
theorem act_setPatience (hI : Iv X) (hK : Kv (vw 0 X)) (a1 : Int32) : Ac X (p_X8_setPatience X a1) := by
  unfold p_X8_setPatience
  split
  · exact Ac.no (by decide)
  · split
    · exact Ac.no (by decide)
    · dsimp only
      exact Ac.yes hK.2.1.1 (rec_fx hI (FX.upd0 (by omega)))
theorem act_drain (hI : Iv X) (a1 : Int32) : Ac X (p_X8_drain X a1) := by
  obtain ⟨Y, hR⟩ := id hI
  obtain ⟨tc, oc, sl, ph, mn, hs⟩ := hR.1
  unfold p_X8_drain
  rcases line_arg a1 with ⟨e1, -⟩ | ⟨l, hl, rfl, e1, -⟩
  · rw [e1, if_pos rfl]
    exact Ac.no (by decide)
  · rw [e1, if_neg (show ¬ (1 : Int32) = 0 by decide), lineOf_n hl]
    split
    · exact Ac.no (by decide)
    · dsimp only
      refine Ac.yes ?_ (rec_fx hI FX.put0)
      rw [X_riderCount (r := Y 1) l (1 + 15 * l) (fun k hk => hs.1.g (LE hl hk))]
      have := cn_le (bSe (Y 1) l) 24
      exact nI_pos' (by omega)
theorem refusal_neg {x : gM} {v : Nat → Int32} (h : ¬ f_X3_refusalOf x v = 0) : f_X3_refusalOf x v < 0 := by
  unfold f_X3_refusalOf at h ⊢
  rcases e1 : f_X3_stationOf x (v 2) with _ | q
  · simp only [gOpt]
    decide
  · rw [e1] at h
    rcases e2 : f_X3_stationOf x (v 3) with _ | q2
    · simp only [gOpt]
      decide
    · rw [e2] at h
      simp only [gOpt] at h ⊢
      split
      · decide
      · rename_i h2
        rw [if_neg h2] at h
        exact absurd rfl h
theorem FX.upd379 {j : Nat} {v : Int32} : FX X (updM X 379 j v) := ⟨fun a ha => updM_o (by omega), updM_n (by decide), updM_n (by decide), updM_n (by decide)⟩
theorem Sm.upd379 {j : Nat} {v : Int32} : Sm X (updM X 379 j v) := ⟨fun c k hc => by
  show updM X 379 j v (off 0 + c) k = X (off 0 + c) k
  rw [updM_n (by rw [off0]; omega)], FX.upd379⟩
theorem act_book (hI : Iv X) (a1 a2 a3 a4 a5 : Int32) : Ac X (p_X8_book X a1 a2 a3 a4 a5) := by
  unfold p_X8_book
  dsimp only
  obtain ⟨X5, e5⟩ : ∃ Z, Z = updM (updM (updM (updM (updM X 379 0 a1) 379 1 a2) 379 2 a3) 379 3 a4) 379 4 a5 := ⟨_, rfl⟩
  have hS : Sm X X5 := by
    rw [e5]
    exact ((((Sm.upd379).tr Sm.upd379).tr Sm.upd379).tr Sm.upd379).tr Sm.upd379
  rw [← e5]
  have hI5 := hS.iv hI
  obtain ⟨Y, hR⟩ := id hI5
  obtain ⟨tc, oc, sl, ph, mn, hs⟩ := hR.1
  obtain ⟨Y1, -, h1, -, -, -, -⟩ := rec_use hR hs
  have h40 := hs.tc4
  by_cases hr : f_X3_refusalOf (vw 0 X5) (X5 379) = 0
  · rw [if_pos hr]
    by_cases ht : f_X3_hasTickets (vw 0 X5) 1 = 0
    · rw [if_pos ht]
      exact Ac.sm (by decide) hS
    · rw [if_neg ht]
      refine Ac.yes ?_ (Rc.sm hS hI.hq (rec_fx hI5 FX.put0))
      have e : vw 0 (p_X8_recordState X5) 0 5 = nI tc := by rw [h1.1.g LK1, h1.r1]
      have e2 : vw 0 X5 0 5 = nI tc := by rw [hs.1.g LK1, hs.r1]
      have ht4 : tc < 40 := by
        unfold f_X3_hasTickets at ht
        rw [e2, nI_1] at ht
        rcases Nat.lt_or_ge tc 40 with q | q
        · exact q
        · have q : tc = 40 := by omega
          subst q
          exact absurd (by decide +kernel) ht
      have hw : f_X8_within (nI tc) 0 39 = 1 := (show ∀ k, k < 40 → f_X8_within (nI k) 0 39 = 1 by decide +kernel) tc ht4
      unfold p_X3_admit
      rw [e, hw, if_neg (show ¬ (1 : Int32) = 0 by decide)]
      dsimp only
      exact nI_pos' (by omega)
  · rw [if_neg hr]
    exact Ac.sm (refusal_neg hr) hS
theorem act_cancel (hI : Iv X) (hK : Kv (vw 0 X)) (a1 : Int32) : Ac X (p_X8_cancel X a1) := by
  obtain ⟨Y, hR⟩ := id hI
  obtain ⟨tc, oc, sl, ph, mn, hs⟩ := hR.1
  have h40 := hs.tc4
  unfold p_X8_cancel
  rcases ticket_arg (Y := Y) hs a1 with ⟨e1, -⟩ | ⟨t, ht, rfl, e1, -⟩
  · rw [e1]
    exact Ac.no (by decide)
  · rw [e1]
    simp only [gOpt]
    split
    · refine Ac.yes ?_ (rec_fx hI FX.put0)
      have b := (hK.2.2.2.2.2.1 t (by omega)).1
      have e : vw 0 (p_X8_recordState X) (35 + 2 * t) 3 = vw 0 X (35 + 2 * t) 3 := by
        show p_X8_recordState X (off 0 + (35 + 2 * t)) 3 = X (off 0 + (35 + 2 * t)) 3
        rw [(rec_sim hR).2.1.1 _ (by rw [off0]; omega) (by rw [off0]; omega) (by rw [off0]; omega)]
      unfold p_X3_withdraw
      split
      · dsimp only
        rw [e]
        generalize vw 0 X (35 + 2 * t) 3 = p at b
        rw [Int32.le_iff_toInt_le, tx_z] at b ⊢
        rw [Int32.toInt_div, show (2 : Int32).toInt = 2 from by decide]
        have h3 := Int32.toInt_lt p
        have h4 : 0 ≤ Int.tdiv p.toInt 2 := Int.tdiv_nonneg b (by decide)
        have h5 : Int.tdiv p.toInt 2 ≤ p.toInt := Int.tdiv_le_self _ b
        rw [Int.bmod_eq_of_le (by omega) (by omega)]
        exact h4
      · dsimp only
        rw [e]
        exact b
    · exact Ac.no (by decide)
theorem act_call (hI : Iv X) (a1 a2 : Int32) : Ac X (p_X8_call X a1 a2) := by
  obtain ⟨Y, hR⟩ := id hI
  obtain ⟨tc, oc, sl, ph, mn, hs⟩ := hR.1
  obtain ⟨Y1, -, h1, -, -, -, -⟩ := rec_use hR hs
  unfold p_X8_call
  rcases (station_arg (Y := Y) hs a1).1 with ⟨e1, -⟩ | ⟨l, n, hl, hn, rfl, e1, -⟩
  · rw [e1]
    exact Ac.no (by decide)
  · have hn6 : n < 6 := Nat.lt_of_lt_of_le hn (hs.mn6 hl)
    rw [e1]
    simp only [gOpt]
    split
    · exact Ac.no (by decide)
    · split
      · rename_i h3
        refine Ac.yes ?_ (rec_fx hI FX.put0)
        obtain ⟨-, q, q3, e5⟩ := hs.sta hl hn
        obtain ⟨-, q', q3', e5'⟩ := h1.sta hl hn
        have eq : q' = q := nI_inj (by omega) (by omega) (e5'.symm.trans e5)
        subst eq
        rw [hs.1.g (LS5 hl hn6), e5] at h3
        have hq : q' < 3 := (nI_ltI (by omega) (by omega)).mp (show nI q' < nI 3 from h3)
        have hw : f_X8_within (nI q') 0 2 = 1 := (show ∀ k, k < 3 → f_X8_within (nI k) 0 2 = 1 by decide +kernel) q' hq
        unfold p_X4_addCall
        rw [h1.1.g (LS5 hl hn6), e5', hw, if_neg (show ¬ (1 : Int32) = 0 by decide)]
        dsimp only
        rw [updM_ss, updM_n (by omega), h1.1.g (LS5 hl hn6), e5', nI_1]
        exact nI_pos' (by omega)
      · exact Ac.no (by decide)
theorem act_callBack (hI : Iv X) (hK : Kv (vw 0 X)) (a1 : Int32) : Ac X (p_X8_callBack X a1) := by
  obtain ⟨Y, hR⟩ := id hI
  obtain ⟨tc, oc, sl, ph, mn, hs⟩ := hR.1
  unfold p_X8_callBack
  rcases (station_arg (Y := Y) hs a1).1 with ⟨e1, -⟩ | ⟨l, n, hl, hn, rfl, e1, -⟩
  · rw [e1]
    exact Ac.no (by decide)
  · have hn6 : n < 6 := Nat.lt_of_lt_of_le hn (hs.mn6 hl)
    rw [e1]
    simp only [gOpt]
    obtain ⟨-, q, q3, e5⟩ := hs.sta hl hn
    split
    · exact Ac.no (by decide)
    · rename_i h5
      refine Ac.yes ?_ (rec_fx hI FX.put0)
      rcases c_at (Z := vw 0 X) (c := 1 + 15 * l + 2 + 1 + 2 * n) (by rw [hs.1.g (LS5 hl hn6), e5]) q3 (a := 0) (by decide) with ⟨-, e⟩ | ⟨k, k1, k2, e⟩
      · exact absurd e h5
      · rw [e]
        exact hK.2.2.2.2.1 l hl n hn6 k (by omega)
theorem act_order (hI : Iv X) (a1 a2 : Int32) : Ac X (p_X8_order X a1 a2) := by
  obtain ⟨Y, hR⟩ := id hI
  obtain ⟨tc, oc, sl, ph, mn, hs⟩ := hR.1
  obtain ⟨Y1, -, h1, -, -, -, -⟩ := rec_use hR hs
  have h4 := hs.oc4
  unfold p_X8_order
  rcases ticket_arg (Y := Y) hs a1 with ⟨e1, -⟩ | ⟨t, ht, rfl, e1, -⟩
  · rw [e1]
    exact Ac.no (by decide)
  · rw [e1]
    simp only [gOpt]
    split
    · exact Ac.no (by decide)
    · split
      · rename_i h3
        refine Ac.yes ?_ (rec_fx hI FX.put0)
        rw [hs.1.g LK2, hs.r2] at h3
        have ho : oc < 4 := (nI_ltI (by omega) (by omega)).mp (show nI oc < nI 4 from h3)
        have hw : f_X8_within (nI oc) 0 3 = 1 := (show ∀ k, k < 4 → f_X8_within (nI k) 0 3 = 1 by decide +kernel) oc ho
        unfold p_X3_giveOrder
        rw [h1.1.g LK2, h1.r2, hw, if_neg (show ¬ (1 : Int32) = 0 by decide)]
        dsimp only
        exact nI_pos' (by omega)
      · exact Ac.no (by decide)
theorem act_endOrder (hI : Iv X) (hK : Kv (vw 0 X)) (a1 : Int32) : Ac X (p_X8_endOrder X a1) := by
  obtain ⟨Y, hR⟩ := id hI
  obtain ⟨tc, oc, sl, ph, mn, hs⟩ := hR.1
  have h4 := hs.oc4
  unfold p_X8_endOrder
  rcases order_arg (Y := Y) hs a1 with ⟨e1, -⟩ | ⟨o, ho, rfl, e1, -⟩
  · rw [e1]
    exact Ac.no (by decide)
  · rw [e1]
    simp only [gOpt]
    split
    · refine Ac.yes ?_ (rec_fx hI (FX.upd0 (by omega)))
      have b := (hK.2.2.2.2.2.2 o (by omega)).1
      rw [vw_upd0, updM_sn (by decide)]
      have e : vw 0 (p_X8_recordState X) (115 + 2 * o) 3 = vw 0 X (115 + 2 * o) 3 := by
        show p_X8_recordState X (off 0 + (115 + 2 * o)) 3 = X (off 0 + (115 + 2 * o)) 3
        rw [(rec_sim hR).2.1.1 _ (by rw [off0]; omega) (by rw [off0]; omega) (by rw [off0]; omega)]
      rw [e]
      exact b
    · exact Ac.no (by decide)
theorem tick_fx {y : Int32} {K : gM → Nat → Int32 × gM} {N : Nat} (hN : N < 1000) {v : gM → Int32} (hK : ∀ Z k, K Z k = (v Z, Z)) : ∀ d i f (Z : gM), i + d = N → d < f → FX Z (lf_X8_tick_28 (nI N) y K f Z i).2 := by
  intro d
  induction d with
  | zero =>
    intro i f Z hi hf
    obtain ⟨g, rfl⟩ : ∃ g, f = g + 1 := ⟨f - 1, by omega⟩
    have e : i = N := by omega
    subst e
    have hle : nI i ≤ nI i := nI_le (Nat.le_refl _) (by omega)
    simp only [lf_X8_tick_28, if_pos hle, hK]
    exact FX.rf
  | succ d ih =>
    intro i f Z hi hf
    obtain ⟨g, rfl⟩ : ∃ g, f = g + 1 := ⟨f - 1, by omega⟩
    have hle : ¬ nI N ≤ nI i := nI_ge (by omega) (by omega)
    simp only [lf_X8_tick_28, if_neg hle]
    exact FX.put0.tr (ih (i + 1) g _ (by omega) (by omega))
theorem act_tick (hI : Iv X) (a1 : Int32) : Ac X (p_X8_tick X a1) := by
  obtain ⟨Y, hR⟩ := id hI
  obtain ⟨tc, oc, sl, ph, mn, hs⟩ := hR.1
  obtain ⟨Y1, e1, h1, R1, o1, -, -⟩ := rec_use hR hs
  by_cases hw : f_X8_within a1 1 60 = 0
  · unfold p_X8_tick
    rw [if_pos hw]
    exact Ac.no (by decide)
  · obtain ⟨N, N1, N60, rfl⟩ := in_13 (N := 60) (by omega) hw
    refine Or.inr ⟨?_, ?_⟩
    · have h40 := hs.tc4
      unfold p_X8_tick
      rw [if_neg hw]
      dsimp only
      have R2 : Rl (p_X8_recordState X) (sR (updM Y1 0 8 0) (Y 1)) := R1.fr h1.se FX.rf fy_a8
      obtain ⟨Z', r', tc', ph', v, q1, -, q3, -, ⟨D, d1, -⟩, -⟩ := tick_loop (N := N) (by omega) (y2 := f_X3_countIn (vw 0 (p_X8_recordState X)) 3) (K := fun X2 _ => ((f_X3_countIn (vw 0 X2) 3) - (f_X3_countIn (vw 0 (p_X8_recordState X)) 3), X2)) (K' := fun X3 _ => (X3 0 8, X3)) N 0 2147483648 2147483648 (p_X8_recordState X) (updM Y1 0 8 0) (Y 1) tc ph (by omega) (by omega) (by omega) h1 R2
      rw [q1]
      have h40' := q3.tc4
      dsimp only
      rw [X_countIn (r := r') 3 (by rw [q3.1.g LK1, q3.r1]) h40' (fun t ht => q3.1.g (LT6 (by omega))), X_countIn (r := Y 1) 3 (by rw [h1.1.g LK1, h1.r1]) h40 (fun t ht => h1.1.g (LT6 (by omega))), d1, Nat.add_comm, ← nI_add, Int32.add_sub_cancel]
      have := cn_le (bSt r' 3) tc'
      exact nI_pos' (by omega)
    · unfold p_X8_tick
      rw [if_neg hw]
      dsimp only
      exact rec_fx hI (tick_fx (N := N) (by omega) (v := fun Z => f_X3_countIn (vw 0 Z) 3 - f_X3_countIn (vw 0 (p_X8_recordState X)) 3) (fun _ _ => rfl) N 0 2147483648 _ (by omega) (by omega))
end ACTS
