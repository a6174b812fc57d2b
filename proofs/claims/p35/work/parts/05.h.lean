def f_X3_nextToBoard (X : gM) (c1 : Nat) : Option Nat :=
  if isJ c1 = 0 then
    gOpt (f_X3_firstIn X (nI (10 * nLin c1 + nSta c1))) (
      none) (fun q2 =>
      some q2)
  else
    gOpt (f_X3_firstIn X (f_X0_hall X (f_X3_lineOf X (nI (nLin c1))))) (
      gOpt (f_X3_firstIn X (nI (10 * nLin c1 + nSta c1))) (
        none) (fun q4 =>
        some q4)) (fun q3 =>
      some q3)
set_option maxHeartbeats 4000000 in
set_option maxRecDepth 100000 in
theorem c_X3_nextToBoard (l : Launch) (D : va_G) (cy : Nat → ClassId) (σ : Nat) (X : gM) (c1 : Nat) (hc1 : c1 < 123) (hk1 : kdS c1 = 4) : Met l yX3_nextToBoard wsX3_nextToBoard ({ frames := 2, cells := 0, slots := 0, locals := 44 }) (gP [.ref σ, .ref (σ + c1)] D cy (SR D cy σ X)) (gQq (Option.map (fun c => σ + c) (f_X3_nextToBoard X c1)) (fun _ => True) gNo) 0 0 gNo := by
  refine gm_met (cc := cX3_nextToBoard) (maxL := 3) (ret := (some (.object "MercuryLine$Ticket"))) [.ref σ, .ref (σ + c1)] (by decide) rfl (Nat.le_of_ble_eq_true rfl) ?_
  intro p e s m args below meth c0 ls C hR hl
  obtain ⟨hx, hb, hr, hts, hown, hlocks, hml, hK⟩ := C
  have hl : lv_has ls 3 [(0, .ref σ), (1, .ref (σ + c1))] := hl
  have hS : va_S gNo s.heap s.heap [] := va_S.rf
  have lk132 := hts (.fieldLink RX3 132 "MercuryLine$Station" "isJunction" "Z") (by decide +kernel)
  have inX4 : ∀ w ∈ u_ws RX4 TX4 10, w ∈ wsX3_nextToBoard := by decide +kernel
  have lk146 := hts (.fieldLink RX3 146 "MercuryLine$Station" "code" "I") (by decide +kernel)
  have lk138 := hts (.fieldLink RX3 138 "MercuryLine$Station" "line" "I") (by decide +kernel)
  refine lv_aload_n hx hb dX3_nextToBoard_0 rfl (lv_at hl 1 rfl) ?_
  refine va_get (D := D) (ci := 4) (v := .int (isJ c1)) (C := RX4) (T := TX4) (N := 10) hx hb hts inX4 hown hK.1 (SR.mk1 hR (c := c1) hc1 (bS_4 hk1)) 0 rfl rfl 2 (by decide) lk132 (fun _ h9 => h9) rfl dX3_nextToBoard_1 ?_
  refine lv_if_eq (tgt := 25) hx hb dX3_nextToBoard_4 (by decide) (fun c_1 => ?_) (fun c_1 => ?_)
  · refine lv_null hx hb dX3_nextToBoard_25 ?_
    refine lv_astore_nN (lv' := [(2, .null), (0, .ref σ), (1, .ref (σ + c1))]) hx hb dX3_nextToBoard_26 rfl hl (by decide) rfl (fun ls hl => ?_)
    refine lv_aload_nN hx hb dX3_nextToBoard_27 rfl (lv_at hl 0 rfl) ?_
    refine lv_ifnonnullN hx hb dX3_nextToBoard_28 ?_
    refine lv_aload_n hx hb dX3_nextToBoard_31 rfl (lv_at hl 1 rfl) ?_
    refine lv_aload_n hx hb dX3_nextToBoard_32 rfl (lv_at hl 2 rfl) ?_
    refine va_get (D := D) (ci := 4) (v := .int (nI (10 * nLin c1 + nSta c1))) (C := RX4) (T := TX4) (N := 10) hx hb hts inX4 hown hK.1 (SR.mk1 hR (c := c1) hc1 (bS_4 hk1)) 0 rfl rfl 1 (by decide) lk146 (fun _ h9 => h9) rfl dX3_nextToBoard_33 ?_
    refine gm_cq (gm_call (As := [.int (nI (10 * nLin c1 + nSta c1))]) (rest := []) (ci := 3) (q := (RX3, TX3, 14)) ⟨hx, hb, hml, hown, hts⟩ hK (c_X3_firstIn l D cy σ X (nI (10 * nLin c1 + nSta c1))) (cwV 1 hts gX3_nextToBoard_X3_firstIn rfl rfl rfl (by decide +kernel) ⟨Nat.le_of_ble_eq_true rfl, Nat.le_of_ble_eq_true rfl⟩) (SR.mk0 hR) rfl hR rfl hl.1 rfl (Nat.le_of_ble_eq_true rfl) dX3_nextToBoard_36 (Nat.zero_le _) (Nat.zero_le _)) hS (fun _ h => h.elim) (fun H locs _ _ hfr hS => ?_)
    have hR := gRep.keep hR hfr (fun _ _ h => h)
    rcases hq2 : f_X3_firstIn X (nI (10 * nLin c1 + nSta c1)) with _ | q2
    · refine W.eq (g2 := F0 m 39 ls [.null]) rfl ?_
      refine lv_goto (tgt := 43) hx hb dX3_nextToBoard_39 (by decide) ?_
      exact gm_aret hx hb hr hlocks hS (by (try simp only [f_X3_nextToBoard, ↓if_pos c_1, ↓gOpt_n hq2]); (try rfl)) trivial dX3_nextToBoard_43
    · refine W.eq (g2 := F0 m 39 ls [.ref (σ + q2)]) rfl ?_
      refine lv_goto (tgt := 43) hx hb dX3_nextToBoard_39 (by decide) ?_
      exact gm_aret hx hb hr hlocks hS (by (try simp only [f_X3_nextToBoard, ↓if_pos c_1, ↓gOpt_s hq2]); (try rfl)) trivial dX3_nextToBoard_43
  · refine lv_aload_n hx hb dX3_nextToBoard_7 rfl (lv_at hl 0 rfl) ?_
    refine lv_aload_n hx hb dX3_nextToBoard_8 rfl (lv_at hl 0 rfl) ?_
    refine lv_aload_n hx hb dX3_nextToBoard_9 rfl (lv_at hl 1 rfl) ?_
    refine va_get (D := D) (ci := 4) (v := .int (nI (nLin c1))) (C := RX4) (T := TX4) (N := 10) hx hb hts inX4 hown hK.1 (SR.mk1 hR (c := c1) hc1 (bS_4 hk1)) 0 rfl rfl 0 (by decide) lk138 (fun _ h9 => h9) rfl dX3_nextToBoard_10 ?_
    refine gm_cq (gm_call (As := [.int (nI (nLin c1))]) (rest := [.ref σ]) (ci := 3) (q := (RX3, TX3, 14)) ⟨hx, hb, hml, hown, hts⟩ hK (c_X3_lineOf l D cy σ X (nI (nLin c1))) (cwV 1 hts gX3_nextToBoard_X3_lineOf rfl rfl rfl (by decide +kernel) ⟨Nat.le_of_ble_eq_true rfl, Nat.le_of_ble_eq_true rfl⟩) (SR.mk0 hR) rfl hR rfl hl.1 rfl (Nat.le_of_ble_eq_true rfl) dX3_nextToBoard_13 (Nat.zero_le _) (Nat.zero_le _)) hS (fun _ h => h.elim) (fun H locs _ _ hfr hS => ?_)
    have hR := gRep.keep hR hfr (fun _ _ h => h)
    refine W.eq (g2 := F0 m 16 ls [.ref (σ + (f_X3_lineOf X (nI (nLin c1)))), .ref σ]) rfl ?_
    refine gm_ci (gm_call (As := []) (rest := [.ref σ]) (ci := 0) (q := (RX0, TX0, 10)) ⟨hx, hb, hml, hown, hts⟩ hK (c_X0_hall l D cy σ X (f_X3_lineOf X (nI (nLin c1))) (fk_X3_lineOf X (nI (nLin c1))).1 (fk_X3_lineOf X (nI (nLin c1))).2) (cwV 0 hts gX3_nextToBoard_X0_hall rfl rfl rfl (by decide +kernel) ⟨Nat.le_of_ble_eq_true rfl, Nat.le_of_ble_eq_true rfl⟩) (SR.mk1 hR (c := f_X3_lineOf X (nI (nLin c1))) (fk_X3_lineOf X (nI (nLin c1))).1 (bS_0 (fk_X3_lineOf X (nI (nLin c1))).2)) rfl hR rfl hl.1 rfl (Nat.le_of_ble_eq_true rfl) dX3_nextToBoard_16 (Nat.zero_le _) (Nat.zero_le _)) hS (fun _ h => h.elim) (fun H locs _ _ hfr hS => ?_)
    have hR := gRep.keep hR hfr (fun _ _ h => h)
    refine gm_cq (gm_call (As := [.int (f_X0_hall X (f_X3_lineOf X (nI (nLin c1))))]) (rest := []) (ci := 3) (q := (RX3, TX3, 14)) ⟨hx, hb, hml, hown, hts⟩ hK (c_X3_firstIn l D cy σ X (f_X0_hall X (f_X3_lineOf X (nI (nLin c1))))) (cwV 1 hts gX3_nextToBoard_X3_firstIn rfl rfl rfl (by decide +kernel) ⟨Nat.le_of_ble_eq_true rfl, Nat.le_of_ble_eq_true rfl⟩) (SR.mk0 hR) rfl hR rfl hl.1 rfl (Nat.le_of_ble_eq_true rfl) dX3_nextToBoard_19 (Nat.zero_le _) (Nat.zero_le _)) hS (fun _ h => h.elim) (fun H locs _ _ hfr hS => ?_)
    have hR := gRep.keep hR hfr (fun _ _ h => h)
    rcases hq3 : f_X3_firstIn X (f_X0_hall X (f_X3_lineOf X (nI (nLin c1)))) with _ | q3
    · refine W.eq (g2 := F0 m 22 ls [.null]) rfl ?_
      refine lv_goto (tgt := 26) hx hb dX3_nextToBoard_22 (by decide) ?_
      refine lv_astore_nN (lv' := [(2, .null), (0, .ref σ), (1, .ref (σ + c1))]) hx hb dX3_nextToBoard_26 rfl hl (by decide) rfl (fun ls hl => ?_)
      refine lv_aload_nN hx hb dX3_nextToBoard_27 rfl (lv_at hl 0 rfl) ?_
      refine lv_ifnonnullN hx hb dX3_nextToBoard_28 ?_
      refine lv_aload_n hx hb dX3_nextToBoard_31 rfl (lv_at hl 1 rfl) ?_
      refine lv_aload_n hx hb dX3_nextToBoard_32 rfl (lv_at hl 2 rfl) ?_
      refine va_get (D := D) (ci := 4) (v := .int (nI (10 * nLin c1 + nSta c1))) (C := RX4) (T := TX4) (N := 10) hx hb hts inX4 hown hK.1 (SR.mk1 hR (c := c1) hc1 (bS_4 hk1)) 0 rfl rfl 1 (by decide) lk146 (fun _ h9 => h9) rfl dX3_nextToBoard_33 ?_
      refine gm_cq (gm_call (As := [.int (nI (10 * nLin c1 + nSta c1))]) (rest := []) (ci := 3) (q := (RX3, TX3, 14)) ⟨hx, hb, hml, hown, hts⟩ hK (c_X3_firstIn l D cy σ X (nI (10 * nLin c1 + nSta c1))) (cwV 1 hts gX3_nextToBoard_X3_firstIn rfl rfl rfl (by decide +kernel) ⟨Nat.le_of_ble_eq_true rfl, Nat.le_of_ble_eq_true rfl⟩) (SR.mk0 hR) rfl hR rfl hl.1 rfl (Nat.le_of_ble_eq_true rfl) dX3_nextToBoard_36 (Nat.zero_le _) (Nat.zero_le _)) hS (fun _ h => h.elim) (fun H locs _ _ hfr hS => ?_)
      have hR := gRep.keep hR hfr (fun _ _ h => h)
      rcases hq4 : f_X3_firstIn X (nI (10 * nLin c1 + nSta c1)) with _ | q4
      · refine W.eq (g2 := F0 m 39 ls [.null]) rfl ?_
        refine lv_goto (tgt := 43) hx hb dX3_nextToBoard_39 (by decide) ?_
        exact gm_aret hx hb hr hlocks hS (by (try simp only [f_X3_nextToBoard, ↓if_neg c_1, ↓gOpt_n hq3, ↓gOpt_n hq4]); (try rfl)) trivial dX3_nextToBoard_43
      · refine W.eq (g2 := F0 m 39 ls [.ref (σ + q4)]) rfl ?_
        refine lv_goto (tgt := 43) hx hb dX3_nextToBoard_39 (by decide) ?_
        exact gm_aret hx hb hr hlocks hS (by (try simp only [f_X3_nextToBoard, ↓if_neg c_1, ↓gOpt_n hq3, ↓gOpt_s hq4]); (try rfl)) trivial dX3_nextToBoard_43
    · refine W.eq (g2 := F0 m 22 ls [.ref (σ + q3)]) rfl ?_
      refine lv_goto (tgt := 26) hx hb dX3_nextToBoard_22 (by decide) ?_
      refine lv_astore_n (lv' := [(2, .ref (σ + q3)), (0, .ref σ), (1, .ref (σ + c1))]) hx hb dX3_nextToBoard_26 rfl hl (by decide) rfl (fun ls hl => ?_)
      refine lv_aload_n hx hb dX3_nextToBoard_27 rfl (lv_at hl 0 rfl) ?_
      refine lv_ifnonnull (tgt := 42) hx hb dX3_nextToBoard_28 (by decide) ?_
      refine lv_aload_n hx hb dX3_nextToBoard_42 rfl (lv_at hl 0 rfl) ?_
      exact gm_aret hx hb hr hlocks hS (by (try simp only [f_X3_nextToBoard, ↓if_neg c_1, ↓gOpt_s hq3]); (try rfl)) trivial dX3_nextToBoard_43
theorem fk_X3_nextToBoard {X : gM} {c1 : Nat} {q : Nat} (hc1 : c1 < 123) (hk1 : kdS c1 = 4) (h : f_X3_nextToBoard X c1 = some q) : q < 123 ∧ kdS q = 5 := by
  unfold f_X3_nextToBoard at h
  simp only [gOpt] at h
  split at h
  · split at h
    · cases h
    · rename_i h1
      cases h
      exact fk_X3_firstIn h1
  · split at h
    · split at h
      · cases h
      · rename_i h1
        cases h
        exact fk_X3_firstIn h1
    · rename_i h1
      cases h
      exact fk_X3_firstIn h1
