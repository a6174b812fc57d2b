section COMES2
variable {X Y : gM} {r : Nat → Int32} {tc oc : Nat} {sl ph mn : Nat → Nat} {l n t k u : Nat}
theorem comesTo_eq {a1 a2 : Int32} : p_X9_comesTo X a1 a2 =
    if f_X9_of X a1 3 = a2 then
      p_X9_logs (updM (updM (updM (p_X9_ends X a1 3 a2 0) 1 8 ((p_X9_ends X a1 3 a2 0 1 8) ^^^ (f_X9_of (p_X9_ends X a1 3 a2 0) a1 0))) 1 (((f_X9_stationAt a2) + 2).toNatClampNeg) ((updM (p_X9_ends X a1 3 a2 0) 1 8 ((p_X9_ends X a1 3 a2 0 1 8) ^^^ (f_X9_of (p_X9_ends X a1 3 a2 0) a1 0)) 1 (((f_X9_stationAt a2) + 2).toNatClampNeg)) + 1)) 0 8 ((updM (updM (p_X9_ends X a1 3 a2 0) 1 8 ((p_X9_ends X a1 3 a2 0 1 8) ^^^ (f_X9_of (p_X9_ends X a1 3 a2 0) a1 0))) 1 (((f_X9_stationAt a2) + 2).toNatClampNeg) ((updM (p_X9_ends X a1 3 a2 0) 1 8 ((p_X9_ends X a1 3 a2 0 1 8) ^^^ (f_X9_of (p_X9_ends X a1 3 a2 0) a1 0)) 1 (((f_X9_stationAt a2) + 2).toNatClampNeg)) + 1) 0 8) + 1)) 1 a1 (a2 / 10) a2
    else if f_X9_callOf X a2 (f_X9_of X a1 0) = (-5) then
      if (f_X9_of X a1 3) / 10 = a2 / 10 then zLaps X a1 a2
      else if a2 - a2 / 10 * 10 = 0 then
        if 3 ≤ f_X9_on X (1 - (a2 / 10)) 2 then zLaps X a1 a2
        else p_X9_logs (p_X9_put (p_X9_put (p_X9_put (p_X9_rises X a1) a1 6 2) a1 7 (1 - (a2 / 10))) a1 15 (p_X9_put (p_X9_put (p_X9_rises X a1) a1 6 2) a1 7 (1 - (a2 / 10)) 1 0)) 3 a1 (a2 / 10) a2
      else zLaps X a1 a2
    else p_X9_logs (updM (p_X9_dropCall (p_X9_ends X a1 4 a2 (f_X9_of X a1 5)) a2 (f_X9_callOf X a2 (f_X9_of X a1 0))) 1 (((f_X9_stationAt a2) + 3).toNatClampNeg) ((p_X9_dropCall (p_X9_ends X a1 4 a2 (f_X9_of X a1 5)) a2 (f_X9_callOf X a2 (f_X9_of X a1 0)) 1 (((f_X9_stationAt a2) + 3).toNatClampNeg)) + 1)) 2 a1 (a2 / 10) a2 := rfl
theorem getsOff_eq {c1 c2 : Nat} : p_X3_getsOff X c1 c2 =
    if X (c1 + 1) 3 = nI (10 * nLin c2 + nSta c2) then (1, p_X3_arrive X c1 c2)
    else if (p_X4_takeCall X c2 (X (c1 + 1) 0)).1 = 0 then
      if f_X3_changesLines (p_X4_takeCall X c2 (X (c1 + 1) 0)).2 c1 c2 = 0 then xLaps (p_X4_takeCall X c2 (X (c1 + 1) 0)).2 c1 c2
      else (1, p_X5_enterHall (p_X1_write (p_X4_takeCall X c2 (X (c1 + 1) 0)).2 33 3 (nI (nTic c1)) (nI (nLin c2)) (nI (10 * nLin c2 + nSta c2)) ((p_X4_takeCall X c2 (X (c1 + 1) 0)).2 0 7)) c1 (f_X7_lineTo (p_X1_write (p_X4_takeCall X c2 (X (c1 + 1) 0)).2 33 3 (nI (nTic c1)) (nI (nLin c2)) (nI (10 * nLin c2 + nSta c2)) ((p_X4_takeCall X c2 (X (c1 + 1) 0)).2 0 7) (c1 + 1))) (p_X1_write (p_X4_takeCall X c2 (X (c1 + 1) 0)).2 33 3 (nI (nTic c1)) (nI (nLin c2)) (nI (10 * nLin c2 + nSta c2)) ((p_X4_takeCall X c2 (X (c1 + 1) 0)).2 0 7) 0 7))
    else (1, p_X3_putOut (updM (p_X4_takeCall X c2 (X (c1 + 1) 0)).2 c2 8 (((p_X4_takeCall X c2 (X (c1 + 1) 0)).2 c2 8) + 1)) c1 c2 4 2) := rfl
theorem changes_c (h : SS X r tc oc sl ph mn) (hl : l < 2) (hn : n < 6) (ht : t < 40) {l' n' : Nat} (hl' : l' < 2) (hn' : n' < 6) (h3 : r (294 + 17 * t + 3) = nI (10 * l' + n')) : f_X3_changesLines X (35 + 2 * t) (1 + 15 * l + 2 + 1 + 2 * n) = if n = 0 ∧ l' ≠ l ∧ ¬ 3 ≤ nI (cn (bOn r (nI l') 2) tc) then 1 else 0 := by
  have h40 := h.tc4
  have h1 : X 0 5 = nI tc := by rw [h.1.g LK1, h.r1]
  have ej : isJ (1 + 15 * l + 2 + 1 + 2 * n) = if n = 0 then 1 else 0 := by
    unfold isJ
    rw [nS_sta hl hn]
  have elt : f_X7_lineTo (X (35 + 2 * t + 1)) = nI l' := by
    unfold f_X7_lineTo
    rw [h.1.g (LT3 ht), h3, st_div hl' (by omega)]
  unfold f_X3_changesLines
  rw [ej, elt, nS_lin hl hn, lineOf_n hl', X_hallLength (r := r) l' (1 + 15 * l') (nL_lin hl') h1 h40 (fun u hu => h.1.g (LT6 (by omega))) (fun u hu => h.1.g (LT7 (by omega)))]
  by_cases h0 : n = 0
  · rw [if_pos h0, if_neg (show ¬ (1 : Int32) = 0 by decide)]
    by_cases hll : l' = l
    · rw [if_pos (by rw [hll]), if_neg (fun z => z.2.1 hll)]
    · rw [if_neg (fun z => hll (nI_inj (by omega) (by omega) z))]
      by_cases h3' : 3 ≤ nI (cn (bOn r (nI l') 2) tc)
      · rw [if_pos h3', if_neg (fun z => z.2.2 h3')]
      · rw [if_neg h3', if_pos ⟨h0, hll, h3'⟩]
  · rw [if_neg h0, if_pos rfl, if_neg (fun z => h0 z.1)]
theorem comesTo_sim (h : SS X r tc oc sl ph mn) (hl : l < 2) (hn : n < mn l) (ht : t < tc) (hk : k < 24) (hse : r (26 + 24 * l + k) = nI t) : CT X Y r tc oc sl ph mn l t k (p_X3_getsOff X (35 + 2 * t) (1 + 15 * l + 2 + 1 + 2 * n)) (p_X9_comesTo (sR Y r) (nI t) (nI (10 * l + n))) ∧ ok_X9_comesTo (sR Y r) (nI t) (nI (10 * l + n)) := by
  have h40 := h.tc4
  have ht4 : t < 40 := by omega
  have hn6 : n < 6 := Nat.lt_of_lt_of_le hn (h.mn6 hl)
  obtain ⟨f6, f7, f8⟩ := seat_f h hl hk ht hse
  obtain ⟨-, q, q3, e5⟩ := h.sta hl hn
  obtain ⟨-, -, hto, -⟩ := h.tik ht
  obtain ⟨l', n', l2, n6', e3⟩ := st_ne hl hn6 hto (fun l hl => h.mn6 hl)
  have hPS := h.1
  have hA : 74 + 10 * (6 * l + n) + 10 ≤ 194 := by omega
  obtain ⟨cf, ck⟩ := call_find (X := X) (Y := Y) (q := q) hl hn6 q3 e5 (by rw [hPS.g (LS5 hl hn6), e5]) (fun k hk => hPS.g (LV hl hn6 hk)) (r (294 + 17 * t + 0))
  have g3 : X (35 + 2 * t + 1) 3 = r (294 + 17 * t + 3) := hPS.g (LT3 ht4)
  have g0 : X (35 + 2 * t + 1) 0 = r (294 + 17 * t + 0) := hPS.g (LT0 ht4)
  rw [getsOff_eq, comesTo_eq]
  unfold ok_X9_comesTo
  have v3 : f_X9_of (sR Y r) (nI t) 3 = r (294 + 17 * t + 3) := rf_of3 ht4
  have v0 : f_X9_of (sR Y r) (nI t) 0 = r (294 + 17 * t + 0) := rf_of0 ht4
  have v5 : f_X9_of (sR Y r) (nI t) 5 = r (294 + 17 * t + 5) := rf_of5 ht4
  rw [g3, g0, nS_lin hl hn6, nS_sta hl hn6, v3, v0, st_div hl (by omega), st_mod hl (by omega)]
  by_cases h3 : r (294 + 17 * t + 3) = nI (10 * l + n)
  · rw [if_pos h3, if_pos h3, if_pos h3]
    obtain ⟨b1, b2⟩ := rp_ends (Y := Y) (z := 3) (st := nI (10 * l + n)) (m := 0) ht4 hl hk f6 f7 f8
    constructor
    · refine ⟨rArr r t l n k, Y 0 8 + 1, ?_, ⟨1, ?_, rfl⟩, Or.inr ⟨rfl, ev_arrive h hl hn ht hk hse, ?_⟩⟩
      · rw [b1]
        simp only [sR_u1, sR_u0, sR_1, sR_0, rf_of0 ht4, st_at hl hn6, iS2 (show 74 + 10 * (6 * l + n) < 2000 by omega), rp_logs]
        congr 1
        unfold rArr
        simp (disch := omega) only [rEndC, rRise, pk_us, pk_un]
      · refine cn_set (m := t) tc ht (fun u hu hut => ?_) ?_ ?_
        · unfold bSt rArr
          simp (disch := omega) only [rLog_o, rEndC, rRise, pk_us, pk_un]
        · unfold bSt
          rw [f6]
          decide
        · unfold bSt rArr
          simp (disch := omega) only [rLog_o, rEndC, rRise, pk_us, pk_un]
          decide
      · unfold rArr
        simp (disch := omega) only [rLog_o, rEndC, rRise, pk_us, pk_un]
    · refine ⟨ro_of0 ht4, ck, ro_of3 ht4, b2, fun X19 e19 => ?_⟩
      rw [b1] at e19
      subst e19
      refine ⟨ro_of0 ht4, fun X20 _ => ⟨?_, ?_, fun X21 _ X22 _ => ⟨ro_logs, trivial⟩⟩⟩
      · rw [st_at hl hn6]
        exact vS2 (by omega)
      · rw [st_at hl hn6]
        exact vS2 (by omega)
  · rw [if_neg h3, if_neg h3, if_neg h3]
    rcases cf with ⟨cf1, cf2⟩ | ⟨j, hj, cf1, cf2⟩
    · obtain ⟨lp, lo⟩ := laps_sim (Y := Y) h hl hn ht hk hse
      have lo' : okLaps (sR Y r) (nI t) (nI (10 * l + n)) := lo
      unfold okLaps at lo
      rw [st_div hl (by omega), st_mod hl (by omega)] at lo
      rw [cf1, cf2, if_pos rfl, if_pos rfl, if_pos rfl]
      dsimp only
      have ch := changes_c h hl hn6 ht4 l2 n6' e3
      rw [e3, st_div l2 (by omega)]
      by_cases hll : l' = l
      · rw [if_neg (fun z => z.2.1 hll)] at ch
        rw [ch, if_pos rfl, if_pos (by rw [hll]), if_pos (by rw [hll])]
        exact ⟨lp, ro_of0 ht4, ck, ro_of3 ht4, ro_of3 ht4, lo⟩
      · have hne : ¬ nI l' = nI l := fun z => hll (nI_inj (by omega) (by omega) z)
        rw [if_neg hne, if_neg hne]
        by_cases h0 : n = 0
        · have em : (1 : Int32) - nI l = nI l' := by
            rcases (show l = 0 ∧ l' = 1 ∨ l = 1 ∧ l' = 0 by omega) with ⟨rfl, rfl⟩ | ⟨rfl, rfl⟩ <;> decide +kernel
          obtain ⟨o1, o2⟩ := R_on (Y := Y) (nI l') 2 h.r1 h40
          have z0 : nI n = 0 := by rw [h0]; rfl
          rw [if_pos z0, if_pos z0, em, o1]
          by_cases h3' : 3 ≤ nI (cn (bOn r (nI l') 2) tc)
          · rw [if_neg (fun z => z.2.2 h3')] at ch
            rw [ch, if_pos rfl, if_pos h3', if_pos h3']
            exact ⟨lp, ro_of0 ht4, ck, ro_of3 ht4, ro_of3 ht4, o2, lo⟩
          · rw [if_pos ⟨h0, hll, h3'⟩] at ch
            rw [ch, if_neg (show ¬ (1 : Int32) = 0 by decide), if_neg h3', if_neg h3']
            obtain ⟨b1, b2⟩ := rp_rises (Y := Y) ht4 hl hk f6 f7 f8
            have w3 : f_X7_lineTo (p_X1_write X 33 3 (nI (nTic (35 + 2 * t))) (nI l) (nI (10 * l + n)) (X 0 7) (35 + 2 * t + 1)) = nI l' := by
              unfold f_X7_lineTo
              rw [write_o (by omega) (by omega), g3, e3, st_div l2 (by omega)]
            have w4 : p_X1_write X 33 3 (nI (nTic (35 + 2 * t))) (nI l) (nI (10 * l + n)) (X 0 7) 0 7 = X 0 7 := write_o (by omega) (by omega)
            constructor
            · refine ⟨rHall r t l n k l', Y 0 8, ?_, AR.same (cn_st1 (t := t) (fun u hu hut => ?_) ?_ ?_), Or.inr ⟨rfl, ?_, ?_⟩⟩
              · rw [b1]
                simp only [rp_put6 ht4, rp_put7 ht4, rp_put15 ht4, sR_u1, sR_1, rp_logs, updM_id]
                exact R_hall hl hn6 hk ht4 f6 f7 f8
              · unfold rHall
                simp (disch := omega) only [rLog_o, rRise, pk_us, pk_un]
              · rw [f6]
                decide
              · unfold rHall
                simp (disch := omega) only [rLog_o, rRise, pk_us, pk_un]
                decide
              · dsimp only
                rw [w3, w4, nT_tic]
                exact ev_hall h hl hn ht hk hse l2
              · unfold rHall
                simp (disch := omega) only [rLog_o, rRise, pk_us, pk_un]
            · refine ⟨ro_of0 ht4, ck, ro_of3 ht4, ro_of3 ht4, o2, b2, fun X10 e10 => ?_⟩
              rw [b1] at e10
              subst e10
              exact ⟨ro_put6 ht4, fun X11 _ => ⟨ro_put7 ht4, fun X12 _ => ⟨ro_put15 ht4, fun X13 _ => ⟨ro_logs, trivial⟩⟩⟩⟩
        · have z0 : nI n ≠ 0 := nI_ne0 (by omega) (by omega)
          rw [if_neg (fun z => h0 z.1)] at ch
          rw [ch, if_pos rfl, if_neg z0, if_neg z0]
          exact ⟨lp, ro_of0 ht4, ck, ro_of3 ht4, ro_of3 ht4, lo⟩
    · have hj5 : nI j ≠ (-5) := nI_n5 (by omega)
      rw [cf1, cf2, if_neg hj5, if_neg hj5]
      dsimp only
      rw [if_neg (show ¬ (1 : Int32) = 0 by decide), X_remove q3 hj (by rw [hPS.g (LS5 hl hn6), e5])]
      obtain ⟨b1, b2⟩ := rp_ends (Y := Y) (z := 4) (st := nI (10 * l + n)) (m := r (294 + 17 * t + 5)) ht4 hl hk f6 f7 f8
      have e5' : rOut r r t l n k 4 (74 + 10 * (6 * l + n) + 5) = nI q := by
        unfold rOut
        simp (disch := omega) only [rEndC, rRise, pk_un, e5]
      obtain ⟨d1, d2⟩ := R_drop (Y := Y) hl hn6 q3 hj e5'
      have hD := h.drop hl hn hj q3
      have ro : ∀ (f : Nat → Int32) i, (i < 74 + 10 * (6 * l + n) + 5 ∨ 74 + 10 * (6 * l + n) + 9 ≤ i) → rDrop f (74 + 10 * (6 * l + n)) j q i = f i := by
        intro f i hi
        unfold rDrop
        rw [if_neg (by omega), if_neg (by omega)]
      obtain ⟨dP, dO, dL, dI⟩ := hD
      have hS := ev_out (X := updM (xDrop X (1 + 15 * l + 2 + 1 + 2 * n) j q) (1 + 15 * l + 2 + 1 + 2 * n) 8 ((xDrop X (1 + 15 * l + 2 + 1 + 2 * n) j q (1 + 15 * l + 2 + 1 + 2 * n) 8) + 1)) (r := upd (rDrop r (74 + 10 * (6 * l + n)) j q) (74 + 10 * (6 * l + n) + 3) (rDrop r (74 + 10 * (6 * l + n)) j q (74 + 10 * (6 * l + n) + 3) + 1)) (r0 := upd (rDrop r (74 + 10 * (6 * l + n)) j q) (74 + 10 * (6 * l + n) + 3) (rDrop r (74 + 10 * (6 * l + n)) j q (74 + 10 * (6 * l + n) + 3) + 1)) (tc := tc) (oc := oc) (sl := sl) (ph := ph) (mn := mn) (z := 4) (l := l) (n := n) (t := t) (k := k)
        (PS.set (LS3 hl hn6) (by rw [pk_us, dP.g (LS3 hl hn6)]) (PS.rset (by simp) dP.w0))
        (fun u hu h1 => by
          rw [updM_n (by omega), pk_un (by omega), pk_un (by omega)]
          rw [pk_un (by omega)] at h1
          exact dO u hu h1) (dL.same (fun j => updM_n (by omega)) (fun j => updM_n (by omega)) (fun i hi => pk_un (by omega))) (dI.same (fun i hi => pk_un (nz hi (yS3 hl hn6)))) (fun i hi => rfl) hl hn ht hk (by rw [pk_un (by omega), ro _ _ (by omega), hse]) (by decide) (by decide) 2
      have er : rLog (rOut (upd (rDrop r (74 + 10 * (6 * l + n)) j q) (74 + 10 * (6 * l + n) + 3) (rDrop r (74 + 10 * (6 * l + n)) j q (74 + 10 * (6 * l + n) + 3) + 1)) (upd (rDrop r (74 + 10 * (6 * l + n)) j q) (74 + 10 * (6 * l + n) + 3) (rDrop r (74 + 10 * (6 * l + n)) j q (74 + 10 * (6 * l + n) + 3) + 1)) t l n k (nI 4)) 2 (nI t) (nI l) (nI (10 * l + n)) = rLog (upd (rDrop (rOut r r t l n k 4) (74 + 10 * (6 * l + n)) j q) (74 + 10 * (6 * l + n) + 3) (rDrop (rOut r r t l n k 4) (74 + 10 * (6 * l + n)) j q (74 + 10 * (6 * l + n) + 3) + 1)) 2 (nI t) (nI l) (nI (10 * l + n)) := by
        rw [rOut_upd (by omega) (by omega) (by omega) (by omega) (by omega) (by omega) (by omega) (by omega) (by omega) (by omega), rOut_drop hA (by omega) hl hk q3, ro r _ (by omega), ro (rOut r r t l n k 4) _ (by omega)]
        have e33 : rOut r r t l n k 4 (74 + 10 * (6 * l + n) + 3) = r (74 + 10 * (6 * l + n) + 3) := by
          unfold rOut
          simp (disch := omega) only [rEndC, rRise, pk_un]
        rw [e33]
        rfl
      rw [er] at hS
      constructor
      · refine ⟨_, Y 0 8, ?_, AR.same (cn_st1 (t := t) (fun u hu hut => ?_) ?_ ?_), Or.inr ⟨rfl, hS, ?_⟩⟩
        · rw [v5, b1]
          rw [show rEndC (rRise r t l k) t 4 (nI (10 * l + n)) (r (294 + 17 * t + 5)) r = rOut r r t l n k 4 from rfl, d1]
          simp only [sR_u1, sR_1, st_at hl hn6, iS3 (show 74 + 10 * (6 * l + n) < 2000 by omega), rp_logs, updM_id]
        · rw [rLog_o (by omega), pk_un (by omega), ro _ _ (by omega), rOut_6 hl hk, if_neg hut]
        · rw [f6]
          decide
        · rw [rLog_o (by omega), pk_un (by omega), ro _ _ (by omega), rOut_6 hl hk, if_pos rfl]
          decide
        · rw [rLog_o (by omega), pk_un (by omega), ro _ _ (by omega), rOut_s hl hk]
      · refine ⟨ro_of0 ht4, ck, ro_of3 ht4, ro_of5 ht4, ?_, ?_⟩
        · rw [v5]
          exact b2
        · rw [v5, b1]
          intro X15 e15
          subst e15
          refine ⟨d2, fun X16 _ => ⟨?_, ?_, fun X17 _ => ⟨ro_logs, trivial⟩⟩⟩
          · rw [st_at hl hn6]
            exact vS3 (by omega)
          · rw [st_at hl hn6]
            exact vS3 (by omega)
end COMES2
