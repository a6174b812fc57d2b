section ACTS2
variable {X Y : gM} {r : Nat → Int32} {tc oc : Nat} {sl ph mn : Nat → Nat} {l n t k u : Nat}
theorem SS.addCall (h : SS X r tc oc sl ph mn) (hl : l < 2) (hn : n < mn l) {q w : Nat} (hq : q < 3) (hw : w < 2147483648) (h5 : r (74 + 10 * (6 * l + n) + 5) = nI q) : SS (updM (updM X (1 + 15 * l + 2 + 1 + 2 * n + 1) q (nI w)) (1 + 15 * l + 2 + 1 + 2 * n) 4 (nI (q + 1))) (upd (upd r (74 + 10 * (6 * l + n) + 6 + q) (nI w)) (74 + 10 * (6 * l + n) + 5) (nI (q + 1))) tc oc sl ph mn := by
  have hn6 : n < 6 := Nat.lt_of_lt_of_le hn (h.mn6 hl)
  have h40 := h.tc4
  obtain ⟨hPS, hOn, hLg, hInv⟩ := h
  refine ⟨PS.set (LS5 hl hn6) pk_us (PS.set (LV hl hn6 hq) (by rw [pk_un (by omega), pk_us]) (PS.rset (by simp) (PS.rset (by simp) hPS.w0))), fun u hu h1 => ?_, hLg.same (fun j => by rw [updM_n (by omega), updM_n (by omega)]) (fun j => by rw [updM_n (by omega), updM_n (by omega)]) (fun i hi => by rw [pk_un (by omega), pk_un (by omega)]), hInv.call hl hn (q' := q + 1) pk_us (by omega) (fun k hk => ?_) (fun i _ hi => by rw [pk_un (by omega), pk_un (by omega)])⟩
  · rw [updM_n (by omega), updM_n (by omega), pk_un (by omega), pk_un (by omega), pk_un (by omega), pk_un (by omega)]
    rw [pk_un (by omega), pk_un (by omega)] at h1
    exact hOn u hu h1
  · rw [pk_un (by omega)]
    by_cases hkq : k = q
    · subst hkq
      rw [pk_us]
      exact nI_n5 hw
    · rw [pk_un (by omega)]
      exact (hInv.2.2.2.2.1 l n k hl hn6 hk).1
theorem s_call (h : Rl X Y) (a1 a2 : Int32) : (p_X8_call X a1 a2).1 = (p_X9_call Y a1 a2).1 ∧ Rl (p_X8_call X a1 a2).2 (p_X9_call Y a1 a2).2 ∧ ok_X9_call Y a1 a2 := by
  obtain ⟨tc, oc, sl, ph, mn, hs⟩ := h.1
  obtain ⟨Y1, e1, h1, R1, o1, -, -⟩ := rec_use h hs
  unfold p_X8_call p_X9_call ok_X9_call
  obtain ⟨ar, ok⟩ := station_arg (Y := Y) hs a1
  rw [sR_id] at ar ok
  rcases ar with ⟨w1, w2⟩ | ⟨l, n, hl, hn, rfl, w1, w2⟩
  · rw [w1, w2, if_pos rfl, if_pos rfl]
    exact ⟨rfl, h, ok, trivial⟩
  · have hn6 : n < 6 := Nat.lt_of_lt_of_le hn (hs.mn6 hl)
    have hA : 74 + 10 * (6 * l + n) < 194 := by omega
    obtain ⟨-, q, q3, e5⟩ := hs.sta hl hn
    rw [w1, w2, if_neg (show ¬ (1 : Int32) = 0 by decide), if_neg (show ¬ (1 : Int32) = 0 by decide), st_at hl hn6, iS5 (by omega), e5, e1]
    simp only [gOpt]
    unfold f_X9_isWord
    rw [in_eq]
    rcases in_arg (N := 65535) (by omega) a2 with z | ⟨z, w, hw, rfl⟩
    · have z' : f_X8_within a2 0 65535 = 0 := z
      rw [z', if_pos rfl, if_pos rfl, if_pos rfl]
      exact ⟨rfl, h, ok, trivial⟩
    · have z' : f_X8_within (nI w) 0 65535 = 1 := z
      rw [z', if_neg (show ¬ (1 : Int32) = 0 by decide), if_neg (show ¬ (1 : Int32) = 0 by decide), if_neg (show ¬ (1 : Int32) = 0 by decide), hs.1.g (LS5 hl hn6), e5]
      have v5' : vp_in (nI (74 + 10 * (6 * l + n)) + 5) 974 := vS5 (by omega)
      by_cases hq : q = 3
      · subst hq
        rw [if_neg (show ¬ nI 3 < 3 by decide +kernel), if_pos (show nI 3 = 3 from rfl), if_pos (show nI 3 = 3 from rfl)]
        exact ⟨rfl, h, ok, v5', trivial⟩
      · have hq3 : q < 3 := by omega
        have hq' : ¬ nI q = 3 := fun z => hq (nI_inj (b := 3) (by omega) (by omega) z)
        rw [if_pos (show nI q < 3 from nI_lt (b := 3) hq3 (by decide)), if_neg hq', if_neg hq']
        dsimp only
        have hS := h1.addCall hl hn hq3 (show w < 2147483648 by omega) e5
        have x4 : vw 0 (p_X8_recordState X) (1 + 15 * l + 2 + 1 + 2 * n) 4 = nI q := by rw [h1.1.g (LS5 hl hn6), e5]
        have ea : p_X4_addCall (vw 0 (p_X8_recordState X)) (1 + 15 * l + 2 + 1 + 2 * n) (nI w) = (nI (q + 1), updM (updM (vw 0 (p_X8_recordState X)) (1 + 15 * l + 2 + 1 + 2 * n + 1) q (nI w)) (1 + 15 * l + 2 + 1 + 2 * n) 4 (nI (q + 1))) := by
          have hw2 : f_X8_within (nI q) 0 2 = 1 := (show ∀ q, q < 3 → f_X8_within (nI q) 0 2 = 1 by decide +kernel) q hq3
          unfold p_X4_addCall
          rw [x4, hw2, if_neg (show ¬ (1 : Int32) = 0 by decide), c1 (by omega)]
          dsimp only
          rw [updM_ss, updM_n (show 1 + 15 * l + 2 + 1 + 2 * n ≠ 1 + 15 * l + 2 + 1 + 2 * n + 1 by omega), x4, nI_1]
        have y5 : sR Y1 (Y 1) 1 (74 + 10 * (6 * l + n) + 5) = nI q := e5
        rw [ea, y5, i6k (by omega), sR_u1, sR_1, pk_un (by omega), e5, nI_1, sR_u1, sR_1, pk_us]
        refine ⟨rfl, R1.act hS.se, ok, v5', o1, fun X1 ex => ?_⟩
        subst ex
        rw [y5]
        exact ⟨v5', v6k (by omega), fun X2 _ => ⟨v5', v5', fun X3 _ => ⟨v5', trivial⟩⟩⟩
theorem s_callBack (h : Rl X Y) (a1 : Int32) : (p_X8_callBack X a1).1 = (p_X9_callBack Y a1).1 ∧ Rl (p_X8_callBack X a1).2 (p_X9_callBack Y a1).2 ∧ ok_X9_callBack Y a1 := by
  obtain ⟨tc, oc, sl, ph, mn, hs⟩ := h.1
  obtain ⟨Y1, e1, h1, R1, o1, -, -⟩ := rec_use h hs
  unfold p_X8_callBack p_X9_callBack ok_X9_callBack
  obtain ⟨ar, ok⟩ := station_arg (Y := Y) hs a1
  rw [sR_id] at ar ok
  rcases ar with ⟨w1, w2⟩ | ⟨l, n, hl, hn, rfl, w1, w2⟩
  · rw [w1, w2, if_pos rfl, if_pos rfl]
    exact ⟨rfl, h, ok, trivial⟩
  · have hn6 : n < 6 := Nat.lt_of_lt_of_le hn (hs.mn6 hl)
    have hA : 74 + 10 * (6 * l + n) < 194 := by omega
    obtain ⟨-, q, q3, e5⟩ := hs.sta hl hn
    have v5' : vp_in (nI (74 + 10 * (6 * l + n)) + 5) 974 := vS5 (by omega)
    rw [w1, w2, if_neg (show ¬ (1 : Int32) = 0 by decide), if_neg (show ¬ (1 : Int32) = 0 by decide), st_at hl hn6, iS5 (by omega), e5, e1]
    simp only [gOpt]
    have x4 : vw 0 X (1 + 15 * l + 2 + 1 + 2 * n) 4 = nI q := by rw [hs.1.g (LS5 hl hn6), e5]
    rcases c_at (Z := vw 0 X) (c := 1 + 15 * l + 2 + 1 + 2 * n) x4 q3 (a := 0) (by decide) with ⟨z1, z2⟩ | ⟨k, hk, ek, z2⟩
    · have hq : q = 0 := by
        have : nI q ≤ nI 0 := z1
        rw [nI_leI (by omega) (by omega)] at this
        omega
      subst hq
      rw [z2, if_pos rfl, if_pos (show nI 0 = 0 from rfl), if_pos (show nI 0 = 0 from rfl)]
      exact ⟨rfl, h, ok, v5', trivial⟩
    · have hk0 : k = 0 := (nI_inj (a := 0) (by omega) (by omega) ek).symm
      subst hk0
      have hv : vw 0 X (1 + 15 * l + 2 + 1 + 2 * n + 1) 0 = Y 1 (74 + 10 * (6 * l + n) + 6 + 0) := hs.1.g (LV hl hn6 (by omega))
      have hne := (hs.2.2.2.2.2.2.2.1 l n 0 hl hn6 (by omega)).1
      have hq0 : ¬ nI q = 0 := nI_ne0 (by omega) (by omega)
      rw [z2, hv, if_neg hne, if_neg hq0, if_neg hq0]
      dsimp only
      rw [X_remove q3 hk (by rw [h1.1.g (LS5 hl hn6), e5])]
      obtain ⟨d1, d2⟩ := R_drop (Y := Y1) hl hn6 q3 hk e5
      have d1' : p_X9_dropCall (sR Y1 (Y 1)) (nI (10 * l + n)) 0 = sR Y1 (rDrop (Y 1) (74 + 10 * (6 * l + n)) 0 q) := d1
      have d2' : ok_X9_dropCall (sR Y1 (Y 1)) (nI (10 * l + n)) 0 := d2
      have hS := h1.drop (j := 0) (q := q) hl hn hk q3
      rw [d1', iS6 (by omega)]
      refine ⟨rfl, R1.act hS.se, ok, v5', o1, fun X1 ex => ?_⟩
      subst ex
      exact ⟨vS6 (by omega), d2', trivial⟩
theorem s_cancel (h : Rl X Y) (a1 : Int32) : (p_X8_cancel X a1).1 = (p_X9_cancel Y a1).1 ∧ Rl (p_X8_cancel X a1).2 (p_X9_cancel Y a1).2 ∧ ok_X9_cancel Y a1 := by
  obtain ⟨tc, oc, sl, ph, mn, hs⟩ := h.1
  obtain ⟨Y1, e1, h1, R1, o1, -, -⟩ := rec_use h hs
  have h40 := hs.tc4
  unfold p_X8_cancel p_X9_cancel ok_X9_cancel
  have ar := ticket_arg (Y := Y) hs a1
  rw [sR_id] at ar
  rcases ar with ⟨w1, w2⟩ | ⟨t, ht, rfl, w1, w2⟩
  · rw [w1, w2, if_pos rfl, if_pos rfl]
    exact ⟨rfl, h, trivial⟩
  · have ht4 : t < 40 := by omega
    obtain ⟨_, _, _, _, s, s8, es, hq, hride, _⟩ := hs.tik ht
    have v6 : f_X9_of Y (nI t) 6 = nI s := by rw [rf_of6 ht4, es]
    have v61 : f_X9_of (sR Y1 (Y 1)) (nI t) 6 = nI s := by rw [rf_of6 ht4, sR_1, es]
    have v51 : f_X9_of (sR Y1 (Y 1)) (nI t) 5 = Y 1 (294 + 17 * t + 5) := by rw [rf_of5 ht4, sR_1]
    have x4 : vw 0 X (35 + 2 * t) 4 = nI s := by rw [hs.1.g (LT6 ht4), es]
    rw [w1, w2, if_neg (show ¬ (1 : Int32) = 0 by decide), if_neg (show ¬ (1 : Int32) = 0 by decide), v6, e1]
    simp only [gOpt]
    unfold f_X5_hasEnded
    rw [x4]
    by_cases hs3 : s < 3
    · have hs3' : nI s < 3 := nI_lt (b := 3) hs3 (by decide)
      rw [if_pos hs3', if_pos rfl, if_pos hs3', if_pos hs3', v61, v51]
      have z4 : vw 0 (p_X8_recordState X) (35 + 2 * t) 4 = nI s := by rw [h1.1.g (LT6 ht4), es]
      have z3 : vw 0 (p_X8_recordState X) (35 + 2 * t) 3 = Y 1 (294 + 17 * t + 5) := h1.1.g (LT5 ht4)
      have z12 : vw 0 (p_X8_recordState X) 0 12 = Y 1 5 := h1.1.g LK5
      have z11 : vw 0 (p_X8_recordState X) 0 11 = Y 1 4 := h1.1.g LK4
      have z7 : vw 0 (p_X8_recordState X) 0 7 = Y 1 0 := h1.1.g LK0
      unfold p_X3_withdraw
      rw [z4, z3]
      obtain ⟨hPS, hOn, hLg, hInv⟩ := h1
      generalize vw 0 (p_X8_recordState X) = Z at *
      by_cases hs1 : s = 1
      · subst hs1
        obtain ⟨l, k, hl, hk, f7, f8, fe⟩ := hride rfl
        have hk24 : k < 24 := Nat.lt_of_lt_of_le hk (hs.lin hl).1.2.2
        have f6 : Y 1 (294 + 17 * t + 6) = 1 := es
        have z5 : Z (35 + 2 * t) 5 = nI l := by rw [hPS.g (LT7 ht4), f7]
        have z6 : Z (35 + 2 * t) 6 = nI k := by rw [hPS.g (LT8 ht4), f8]
        rw [if_pos (show nI 1 = 1 from rfl), if_pos (show nI 1 = 1 from rfl), z5, z6, lineOf_n hl, setR_c hk24]
        obtain ⟨b1, b2⟩ := rp_ends (Y := Y1) (r := Y 1) (z := 8) (st := (-5)) (m := Y 1 (294 + 17 * t + 5) / 2) ht4 hl hk24 f6 f7 f8
        dsimp only
        rw [b1]
        have hS : SS (p_X5_finish (updM (updM (updM Z (1 + 15 * l + 1) k (-5)) 0 12 (updM Z (1 + 15 * l + 1) k (-5) 0 12 + Y 1 (294 + 17 * t + 5) / 2)) 0 11 (updM (updM Z (1 + 15 * l + 1) k (-5)) 0 12 (updM Z (1 + 15 * l + 1) k (-5) 0 12 + Y 1 (294 + 17 * t + 5) / 2) 0 11 + (updM (updM Z (1 + 15 * l + 1) k (-5)) 0 12 (updM Z (1 + 15 * l + 1) k (-5) 0 12 + Y 1 (294 + 17 * t + 5) / 2) (35 + 2 * t) 3 - Y 1 (294 + 17 * t + 5) / 2))) (35 + 2 * t) 8 (-5) (updM (updM (updM Z (1 + 15 * l + 1) k (-5)) 0 12 (updM Z (1 + 15 * l + 1) k (-5) 0 12 + Y 1 (294 + 17 * t + 5) / 2)) 0 11 (updM (updM Z (1 + 15 * l + 1) k (-5)) 0 12 (updM Z (1 + 15 * l + 1) k (-5) 0 12 + Y 1 (294 + 17 * t + 5) / 2) 0 11 + (updM (updM Z (1 + 15 * l + 1) k (-5)) 0 12 (updM Z (1 + 15 * l + 1) k (-5) 0 12 + Y 1 (294 + 17 * t + 5) / 2) (35 + 2 * t) 3 - Y 1 (294 + 17 * t + 5) / 2)) 0 7)) (rEndC (rRise (Y 1) t l k) t 8 (-5) (Y 1 (294 + 17 * t + 5) / 2) (Y 1)) tc oc sl ph mn := by
          have hc : 1 + 15 * l + 1 < 33 := by omega
          simp (disch := omega) only [updM_ss, updM_sn, updM_n, z12, z11, z7, z3]
          simp only [p_X5_finish]
          refine ⟨?_, ?_, ?_, ?_⟩
          · unfold rEndC rRise
            refine PS.set (LT12 ht4) (by simp (disch := omega) only [pk_us, pk_un]) ?_
            refine PS.set (LT11 ht4) (by simp (disch := omega) only [pk_us, pk_un]) ?_
            refine PS.set (LT8 ht4) (by simp (disch := omega) only [pk_us, pk_un]) ?_
            refine PS.set (LT7 ht4) (by simp (disch := omega) only [pk_us, pk_un]) ?_
            refine PS.set (LT6 ht4) (by simp (disch := omega) only [pk_us, pk_un]) ?_
            refine PS.set LK4 (by simp (disch := omega) only [pk_us, pk_un]) ?_
            refine PS.set LK5 (by simp (disch := omega) only [pk_us, pk_un]) ?_
            refine PS.set (LE hl hk24) (by simp (disch := omega) only [pk_us, pk_un]) ?_
            refine PS.rset (by simp) (PS.rset (by simp) (PS.rset (by simp) (PS.rset (by simp) (PS.rset (by simp) (PS.rset (by simp) (PS.rset (by simp) (PS.rset (by simp) hPS.w0)))))))
          · intro u hu h1
            have hut : u ≠ t := by
              rintro rfl
              simp (disch := omega) only [rEndC, rRise, pk_us, pk_un] at h1
              exact absurd h1 (by decide)
            simp (disch := omega) only [rEndC, rRise, pk_us, pk_un, updM_n] at h1 ⊢
            exact hOn u hu h1
          · refine hLg.same (fun j => ?_) (fun j => ?_) (fun i hi => ?_)
            · simp (disch := omega) only [updM_n]
            · simp (disch := omega) only [updM_n]
            · simp (disch := omega) only [rEndC, rRise, pk_un]
          · refine Inv.leave hInv ht hl hk24 fe (z := 8) ?_ ?_ (by decide) (by decide) (fun z => absurd z (by decide)) (by decide) (Or.inr (by decide)) ?_
            · simp (disch := omega) only [rEndC, rRise, pk_us, pk_un]
            · simp (disch := omega) only [rEndC, rRise, pk_us, pk_un]
              rfl
            · intro i hi n1 n2 n3 n4 _
              simp only [rEndC, rRise, pk_un n1, pk_un n2, pk_un n3, pk_un n4, pk_un (nz hi (yT11 ht4)), pk_un (nz hi (yT12 ht4)), pk_un (nz hi yK4), pk_un (nz hi yK5)]
        refine ⟨rfl, R1.act hS.se, ro_of6 ht4, o1, fun X1 ex => ?_⟩
        subst ex
        rw [v61, if_pos (show nI 1 = 1 from rfl), v51]
        exact ⟨ro_of6 ht4, ro_of5 ht4, b2, trivial⟩
      · have hs1' : ¬ nI s = 1 := fun z => hs1 (nI_inj (b := 1) (by omega) (by omega) z)
        have f6 : Y 1 (294 + 17 * t + 6) ≠ 1 := by rw [es]; exact hs1'
        rw [if_neg hs1', if_neg hs1']
        obtain ⟨b1, b2⟩ := rp_ends0 (Y := Y1) (r := Y 1) (z := 8) (st := (-5)) (m := Y 1 (294 + 17 * t + 5)) ht4 f6
        dsimp only
        rw [b1]
        have hS : SS (p_X5_finish (updM (updM Z 0 12 (Z 0 12 + Y 1 (294 + 17 * t + 5))) 0 11 (updM Z 0 12 (Z 0 12 + Y 1 (294 + 17 * t + 5)) 0 11 + (updM Z 0 12 (Z 0 12 + Y 1 (294 + 17 * t + 5)) (35 + 2 * t) 3 - Y 1 (294 + 17 * t + 5)))) (35 + 2 * t) 8 (-5) (updM (updM Z 0 12 (Z 0 12 + Y 1 (294 + 17 * t + 5))) 0 11 (updM Z 0 12 (Z 0 12 + Y 1 (294 + 17 * t + 5)) 0 11 + (updM Z 0 12 (Z 0 12 + Y 1 (294 + 17 * t + 5)) (35 + 2 * t) 3 - Y 1 (294 + 17 * t + 5))) 0 7)) (rEndC (rRise0 (Y 1) t) t 8 (-5) (Y 1 (294 + 17 * t + 5)) (Y 1)) tc oc sl ph mn := by
          simp (disch := omega) only [updM_ss, updM_sn, updM_n, z12, z11, z7, z3]
          simp only [p_X5_finish]
          refine ⟨?_, ?_, ?_, ?_⟩
          · unfold rEndC rRise0
            refine PS.set (LT12 ht4) (by simp (disch := omega) only [pk_us, pk_un]) ?_
            refine PS.set (LT11 ht4) (by simp (disch := omega) only [pk_us, pk_un]) ?_
            refine PS.set (LT8 ht4) (by simp (disch := omega) only [pk_us, pk_un]) ?_
            refine PS.set (LT7 ht4) (by simp (disch := omega) only [pk_us, pk_un]) ?_
            refine PS.set (LT6 ht4) (by simp (disch := omega) only [pk_us, pk_un]) ?_
            refine PS.set LK4 (by simp (disch := omega) only [pk_us, pk_un]) ?_
            refine PS.set LK5 (by simp (disch := omega) only [pk_us, pk_un]) ?_
            refine PS.rset (by simp) (PS.rset (by simp) (PS.rset (by simp) (PS.rset (by simp) (PS.rset (by simp) (PS.rset (by simp) (PS.rset (by simp) hPS.w0))))))
          · intro u hu h1
            have hut : u ≠ t := by
              rintro rfl
              simp (disch := omega) only [rEndC, rRise0, pk_us, pk_un] at h1
              exact absurd h1 (by decide)
            simp (disch := omega) only [rEndC, rRise0, pk_us, pk_un, updM_n] at h1 ⊢
            exact hOn u hu h1
          · refine hLg.same (fun j => ?_) (fun j => ?_) (fun i hi => ?_)
            · simp (disch := omega) only [updM_n]
            · simp (disch := omega) only [updM_n]
            · simp (disch := omega) only [rEndC, rRise0, pk_un]
          · refine Inv.quit hInv ht f6 ?_ ?_
            · simp (disch := omega) only [rEndC, rRise0, pk_us, pk_un]
            · intro i hi n2 n3 n4
              simp only [rEndC, rRise0, pk_un n2, pk_un n3, pk_un n4, pk_un (nz hi (yT11 ht4)), pk_un (nz hi (yT12 ht4)), pk_un (nz hi yK4), pk_un (nz hi yK5)]
        refine ⟨rfl, R1.act hS.se, ro_of6 ht4, o1, fun X1 ex => ?_⟩
        subst ex
        rw [v61, if_neg hs1', v51]
        exact ⟨ro_of6 ht4, ro_of5 ht4, b2, trivial⟩
    · have hs3' : ¬ nI s < 3 := nI_nlt (b := s) (a := s) (Nat.le_refl _) (by omega) |> fun _ => by
        have : ¬ nI s < nI 3 := nI_nlt (by omega) (by omega)
        exact this
      rw [if_neg hs3', if_neg (show ¬ (1 : Int32) = 0 by decide), if_neg hs3', if_neg hs3']
      exact ⟨rfl, h, ro_of6 ht4, trivial⟩
end ACTS2
