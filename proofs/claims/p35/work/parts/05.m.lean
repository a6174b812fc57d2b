def p_X3_serveStation (X : gM) (c1 : Nat) (c2 : Nat) : gM :=
  gOpt (f_X3_ticketOf X (f_X0_riderIn X c1 (f_X0_slotAt X c1 (X c2 5)))) (
    gOpt (f_X3_nextToBoard X c2) (
      X) (fun q2 =>
      let X1 := p_X3_board X q2 c1 c2 (f_X0_slotAt X c1 (X c2 5))
      X1)) (fun q1 =>
    let X2 := (p_X3_getsOff X q1 c2).2
    if (p_X3_getsOff X q1 c2).1 = 0 then
      gOpt (f_X3_nextToBoard X2 c2) (
        X2) (fun q4 =>
        if f_X3_shoves X2 q4 q1 = 0 then
          X2
        else
          let X3 := updM X2 c2 9 ((X2 c2 9) + 1)
          let X4 := updM X3 q1 11 (nI (nTic q4))
          let X5 := p_X3_putOut X4 q1 c2 5 5
          let X6 := p_X3_board X5 q4 c1 c2 (f_X0_slotAt X c1 (X c2 5))
          X6)
    else
      let X7 := p_X0_setRider X2 c1 (f_X0_slotAt X c1 (X c2 5)) (-5)
      gOpt (f_X3_nextToBoard X7 c2) (
        X7) (fun q6 =>
        let X8 := p_X3_board X7 q6 c1 c2 (f_X0_slotAt X c1 (X c2 5))
        X8))
set_option maxHeartbeats 4000000 in
set_option maxRecDepth 100000 in
theorem c_X3_serveStation (l : Launch) (D : va_G) (cy : Nat → ClassId) (σ : Nat) (X : gM) (c1 : Nat) (c2 : Nat) (hc1 : c1 < 123) (hk1 : kdS c1 = 0) (hc2 : c2 < 123) (hk2 : kdS c2 = 4) : Met l yX3_serveStation wsX3_serveStation ({ frames := 3, cells := 0, slots := 0, locals := 72 }) (gP [.ref σ, .ref (σ + c1), .ref (σ + c2)] D cy (SR D cy σ X)) (gQv (SR D cy σ (p_X3_serveStation X c1 c2)) (SA σ)) 0 0 (SA σ) := by
  refine gm_met (cc := cX3_serveStation) (maxL := 6) (ret := none) [.ref σ, .ref (σ + c1), .ref (σ + c2)] (by decide) rfl (Nat.le_of_ble_eq_true rfl) ?_
  intro p e s m args below meth c0 ls C hR hl
  obtain ⟨hx, hb, hr, hts, hown, hlocks, hml, hK⟩ := C
  have hl : lv_has ls 6 [(0, .ref σ), (1, .ref (σ + c1)), (2, .ref (σ + c2))] := hl
  have hS : va_S (SA σ) s.heap s.heap [] := va_S.rf
  have lk231 := hts (.fieldLink RX3 231 "MercuryLine$Station" "offset" "I") (by decide +kernel)
  have inX4 : ∀ w ∈ u_ws RX4 TX4 10, w ∈ wsX3_serveStation := by decide +kernel
  have lk249 := hts (.fieldLink RX3 249 "MercuryLine$Station" "shovedOut" "I") (by decide +kernel)
  have lk185 := hts (.fieldLink RX3 185 "MercuryLine$Ticket" "number" "I") (by decide +kernel)
  have inX5 : ∀ w ∈ u_ws RX5 TX5 14, w ∈ wsX3_serveStation := by decide +kernel
  have lk252 := hts (.fieldLink RX3 252 "MercuryLine$Ticket" "shovedBy" "I") (by decide +kernel)
  refine lv_aload_n hx hb dX3_serveStation_0 rfl (lv_at hl 1 rfl) ?_
  refine lv_aload_n hx hb dX3_serveStation_1 rfl (lv_at hl 2 rfl) ?_
  refine va_get (D := D) (ci := 4) (v := .int (X c2 5)) (C := RX4) (T := TX4) (N := 10) hx hb hts inX4 hown hK.1 (SR.mk1 hR (c := c2) hc2 (bS_4 hk2)) 0 rfl rfl 5 (by decide) lk231 (fun _ h9 => h9) rfl dX3_serveStation_2 ?_
  refine gm_ci (gm_call (As := [.int (X c2 5)]) (rest := []) (ci := 0) (q := (RX0, TX0, 10)) ⟨hx, hb, hml, hown, hts⟩ hK (c_X0_slotAt l D cy σ X c1 (X c2 5) hc1 hk1) (cwV 1 hts gX3_serveStation_X0_slotAt rfl rfl rfl (by decide +kernel) ⟨Nat.le_of_ble_eq_true rfl, Nat.le_of_ble_eq_true rfl⟩) (SR.mk1 hR (c := c1) hc1 (bS_0 hk1)) rfl hR rfl hl.1 rfl (Nat.le_of_ble_eq_true rfl) dX3_serveStation_5 (Nat.zero_le _) (Nat.zero_le _)) hS (fun _ h => h.elim) (fun H locs _ _ hfr hS => ?_)
  have hR := gRep.keep hR hfr (fun _ _ h => h)
  refine lv_istore_n (lv' := [(3, .int (f_X0_slotAt X c1 (X c2 5))), (0, .ref σ), (1, .ref (σ + c1)), (2, .ref (σ + c2))]) hx hb dX3_serveStation_8 rfl hl (by decide) rfl (fun ls hl => ?_)
  refine lv_aload_n hx hb dX3_serveStation_9 rfl (lv_at hl 1 rfl) ?_
  refine lv_aload_n hx hb dX3_serveStation_10 rfl (lv_at hl 2 rfl) ?_
  refine lv_iload_n hx hb dX3_serveStation_11 rfl (lv_at hl 0 rfl) ?_
  refine gm_ci (gm_call (As := [.int (f_X0_slotAt X c1 (X c2 5))]) (rest := [.ref σ]) (ci := 0) (q := (RX0, TX0, 10)) ⟨hx, hb, hml, hown, hts⟩ hK (c_X0_riderIn l D cy σ X c1 (f_X0_slotAt X c1 (X c2 5)) hc1 hk1) (cwV 1 hts gX3_serveStation_X0_riderIn rfl rfl rfl (by decide +kernel) ⟨Nat.le_of_ble_eq_true rfl, Nat.le_of_ble_eq_true rfl⟩) (SR.mk1 hR (c := c1) hc1 (bS_0 hk1)) rfl hR rfl hl.1 rfl (Nat.le_of_ble_eq_true rfl) dX3_serveStation_12 (Nat.zero_le _) (Nat.zero_le _)) hS (fun _ h => h.elim) (fun H locs _ _ hfr hS => ?_)
  have hR := gRep.keep hR hfr (fun _ _ h => h)
  refine gm_cq (gm_call (As := [.int (f_X0_riderIn X c1 (f_X0_slotAt X c1 (X c2 5)))]) (rest := []) (ci := 3) (q := (RX3, TX3, 14)) ⟨hx, hb, hml, hown, hts⟩ hK (c_X3_ticketOf l D cy σ X (f_X0_riderIn X c1 (f_X0_slotAt X c1 (X c2 5)))) (cwV 1 hts gX3_serveStation_X3_ticketOf rfl rfl rfl (by decide +kernel) ⟨Nat.le_of_ble_eq_true rfl, Nat.le_of_ble_eq_true rfl⟩) (SR.mk0 hR) rfl hR rfl hl.1 rfl (Nat.le_of_ble_eq_true rfl) dX3_serveStation_15 (Nat.zero_le _) (Nat.zero_le _)) hS (fun _ h => h.elim) (fun H locs _ _ hfr hS => ?_)
  have hR := gRep.keep hR hfr (fun _ _ h => h)
  rcases hq1 : f_X3_ticketOf X (f_X0_riderIn X c1 (f_X0_slotAt X c1 (X c2 5))) with _ | q1
  · refine W.eq (g2 := F0 m 18 ls [.null]) rfl ?_
    refine lv_astoreN (lv' := [(4, .null), (3, .int (f_X0_slotAt X c1 (X c2 5))), (0, .ref σ), (1, .ref (σ + c1)), (2, .ref (σ + c2))]) hx hb dX3_serveStation_18 hl (by decide) rfl (fun ls hl => ?_)
    refine lv_aloadN hx hb dX3_serveStation_20 (lv_at hl 0 rfl) ?_
    refine lv_ifnullN (tgt := 45) hx hb dX3_serveStation_22 (by decide) ?_
    refine lv_aload_n hx hb dX3_serveStation_45 rfl (lv_at hl 2 rfl) ?_
    refine lv_aload_n hx hb dX3_serveStation_46 rfl (lv_at hl 4 rfl) ?_
    refine gm_cq (gm_call (As := [.ref (σ + c2)]) (rest := []) (ci := 3) (q := (RX3, TX3, 14)) ⟨hx, hb, hml, hown, hts⟩ hK (c_X3_nextToBoard l D cy σ X c2 hc2 hk2) (cwV 1 hts gX3_serveStation_X3_nextToBoard rfl rfl rfl (by decide +kernel) ⟨Nat.le_of_ble_eq_true rfl, Nat.le_of_ble_eq_true rfl⟩) (SR.mk0 hR) rfl hR rfl hl.1 rfl (Nat.le_of_ble_eq_true rfl) dX3_serveStation_47 (Nat.zero_le _) (Nat.zero_le _)) hS (fun _ h => h.elim) (fun H locs _ _ hfr hS => ?_)
    have hR := gRep.keep hR hfr (fun _ _ h => h)
    rcases hq2 : f_X3_nextToBoard X c2 with _ | q2
    · refine W.eq (g2 := F0 m 50 ls [.null]) rfl ?_
      refine lv_astoreN (lv' := [(5, .null), (4, .null), (3, .int (f_X0_slotAt X c1 (X c2 5))), (0, .ref σ), (1, .ref (σ + c1)), (2, .ref (σ + c2))]) hx hb dX3_serveStation_50 hl (by decide) rfl (fun ls hl => ?_)
      refine lv_aloadN hx hb dX3_serveStation_52 (lv_at hl 0 rfl) ?_
      refine lv_ifnullN (tgt := 73) hx hb dX3_serveStation_54 (by decide) ?_
      exact gm_vret hx hb hr hlocks hS (by (try simp only [p_X3_serveStation, ↓gOpt_n hq1, ↓gOpt_n hq2]); exact hR) dX3_serveStation_73
    · refine W.eq (g2 := F0 m 50 ls [.ref (σ + q2)]) rfl ?_
      refine lv_astore (lv' := [(5, .ref (σ + q2)), (4, .null), (3, .int (f_X0_slotAt X c1 (X c2 5))), (0, .ref σ), (1, .ref (σ + c1)), (2, .ref (σ + c2))]) hx hb dX3_serveStation_50 hl (by decide) rfl (fun ls hl => ?_)
      refine lv_aload hx hb dX3_serveStation_52 (lv_at hl 0 rfl) ?_
      refine lv_ifnull hx hb dX3_serveStation_54 ?_
      refine lv_aloadN hx hb dX3_serveStation_57 (lv_at hl 1 rfl) ?_
      refine lv_ifnullN (tgt := 74) hx hb dX3_serveStation_59 (by decide) ?_
      refine lv_aloadN hx hb dX3_serveStation_74 (lv_at hl 1 rfl) ?_
      refine lv_ifnullN (tgt := 108) hx hb dX3_serveStation_76 (by decide) ?_
      refine lv_aload_n hx hb dX3_serveStation_108 rfl (lv_at hl 3 rfl) ?_
      refine lv_aload hx hb dX3_serveStation_109 (lv_at hl 0 rfl) ?_
      refine lv_aload_n hx hb dX3_serveStation_111 rfl (lv_at hl 4 rfl) ?_
      refine lv_aload_n hx hb dX3_serveStation_112 rfl (lv_at hl 5 rfl) ?_
      refine lv_iload_n hx hb dX3_serveStation_113 rfl (lv_at hl 2 rfl) ?_
      refine gm_cv (gm_call (As := [.ref (σ + q2), .ref (σ + c1), .ref (σ + c2), .int (f_X0_slotAt X c1 (X c2 5))]) (rest := []) (ci := 3) (q := (RX3, TX3, 14)) ⟨hx, hb, hml, hown, hts⟩ hK (c_X3_board l D cy σ X q2 c1 c2 (f_X0_slotAt X c1 (X c2 5)) (fk_X3_nextToBoard hc2 hk2 hq2).1 (fk_X3_nextToBoard hc2 hk2 hq2).2 hc1 hk1 hc2 hk2) (cwV 4 hts gX3_serveStation_X3_board rfl rfl rfl (by decide +kernel) ⟨Nat.le_of_ble_eq_true rfl, Nat.le_of_ble_eq_true rfl⟩) (SR.mk0 hR) rfl hR rfl hl.1 rfl (Nat.le_of_ble_eq_true rfl) dX3_serveStation_114 (Nat.zero_le _) (Nat.zero_le _)) hS (fun _ h => h) (fun H locs hR _ _ hS => ?_)
      obtain ⟨X1, eX1⟩ : ∃ Y : gM, Y = p_X3_board X q2 c1 c2 (f_X0_slotAt X c1 (X c2 5)) := ⟨_, rfl⟩
      rw [← eX1] at hR
      exact gm_vret hx hb hr hlocks hS (by (try simp only [p_X3_serveStation, ↓gOpt_n hq1, ↓gOpt_s hq2, ← eX1]); exact hR) dX3_serveStation_117
  · refine W.eq (g2 := F0 m 18 ls [.ref (σ + q1)]) rfl ?_
    refine lv_astore (lv' := [(4, .ref (σ + q1)), (3, .int (f_X0_slotAt X c1 (X c2 5))), (0, .ref σ), (1, .ref (σ + c1)), (2, .ref (σ + c2))]) hx hb dX3_serveStation_18 hl (by decide) rfl (fun ls hl => ?_)
    refine lv_aload hx hb dX3_serveStation_20 (lv_at hl 0 rfl) ?_
    refine lv_ifnull hx hb dX3_serveStation_22 ?_
    refine lv_aload_n hx hb dX3_serveStation_25 rfl (lv_at hl 2 rfl) ?_
    refine lv_aload hx hb dX3_serveStation_26 (lv_at hl 0 rfl) ?_
    refine lv_aload_n hx hb dX3_serveStation_28 rfl (lv_at hl 4 rfl) ?_
    refine gm_ci (gm_call (As := [.ref (σ + q1), .ref (σ + c2)]) (rest := []) (ci := 3) (q := (RX3, TX3, 14)) ⟨hx, hb, hml, hown, hts⟩ hK (c_X3_getsOff l D cy σ X q1 c2 (fk_X3_ticketOf  hq1).1 (fk_X3_ticketOf  hq1).2 hc2 hk2) (cwV 2 hts gX3_serveStation_X3_getsOff rfl rfl rfl (by decide +kernel) ⟨Nat.le_of_ble_eq_true rfl, Nat.le_of_ble_eq_true rfl⟩) (SR.mk0 hR) rfl hR rfl hl.1 rfl (Nat.le_of_ble_eq_true rfl) dX3_serveStation_29 (Nat.zero_le _) (Nat.zero_le _)) hS (fun _ h => h) (fun H locs hR _ _ hS => ?_)
    obtain ⟨X2, eX2⟩ : ∃ Y : gM, Y = (p_X3_getsOff X q1 c2).2 := ⟨_, rfl⟩
    rw [← eX2] at hR
    refine lv_if_eq (tgt := 45) hx hb dX3_serveStation_32 (by decide) (fun c_3 => ?_) (fun c_3 => ?_)
    · refine lv_aload_n hx hb dX3_serveStation_45 rfl (lv_at hl 2 rfl) ?_
      refine lv_aload_n hx hb dX3_serveStation_46 rfl (lv_at hl 4 rfl) ?_
      refine gm_cq (gm_call (As := [.ref (σ + c2)]) (rest := []) (ci := 3) (q := (RX3, TX3, 14)) ⟨hx, hb, hml, hown, hts⟩ hK (c_X3_nextToBoard l D cy σ X2 c2 hc2 hk2) (cwV 1 hts gX3_serveStation_X3_nextToBoard rfl rfl rfl (by decide +kernel) ⟨Nat.le_of_ble_eq_true rfl, Nat.le_of_ble_eq_true rfl⟩) (SR.mk0 hR) rfl hR rfl hl.1 rfl (Nat.le_of_ble_eq_true rfl) dX3_serveStation_47 (Nat.zero_le _) (Nat.zero_le _)) hS (fun _ h => h.elim) (fun H locs _ _ hfr hS => ?_)
      have hR := gRep.keep hR hfr (fun _ _ h => h)
      rcases hq4 : f_X3_nextToBoard X2 c2 with _ | q4
      · refine W.eq (g2 := F0 m 50 ls [.null]) rfl ?_
        refine lv_astoreN (lv' := [(5, .null), (4, .ref (σ + q1)), (3, .int (f_X0_slotAt X c1 (X c2 5))), (0, .ref σ), (1, .ref (σ + c1)), (2, .ref (σ + c2))]) hx hb dX3_serveStation_50 hl (by decide) rfl (fun ls hl => ?_)
        refine lv_aloadN hx hb dX3_serveStation_52 (lv_at hl 0 rfl) ?_
        refine lv_ifnullN (tgt := 73) hx hb dX3_serveStation_54 (by decide) ?_
        exact gm_vret hx hb hr hlocks hS (by (try simp only [p_X3_serveStation, ↓if_pos c_3, ↓gOpt_s hq1, ↓gOpt_n hq4, ← eX2]); exact hR) dX3_serveStation_73
      · refine W.eq (g2 := F0 m 50 ls [.ref (σ + q4)]) rfl ?_
        refine lv_astore (lv' := [(5, .ref (σ + q4)), (4, .ref (σ + q1)), (3, .int (f_X0_slotAt X c1 (X c2 5))), (0, .ref σ), (1, .ref (σ + c1)), (2, .ref (σ + c2))]) hx hb dX3_serveStation_50 hl (by decide) rfl (fun ls hl => ?_)
        refine lv_aload hx hb dX3_serveStation_52 (lv_at hl 0 rfl) ?_
        refine lv_ifnull hx hb dX3_serveStation_54 ?_
        refine lv_aload hx hb dX3_serveStation_57 (lv_at hl 1 rfl) ?_
        refine lv_ifnull hx hb dX3_serveStation_59 ?_
        refine lv_aload_n hx hb dX3_serveStation_62 rfl (lv_at hl 3 rfl) ?_
        refine lv_aload hx hb dX3_serveStation_63 (lv_at hl 0 rfl) ?_
        refine lv_aload hx hb dX3_serveStation_65 (lv_at hl 1 rfl) ?_
        refine gm_ci (gm_call (As := [.ref (σ + q4), .ref (σ + q1)]) (rest := []) (ci := 3) (q := (RX3, TX3, 14)) ⟨hx, hb, hml, hown, hts⟩ hK (c_X3_shoves l D cy σ X2 q4 q1 (fk_X3_nextToBoard hc2 hk2 hq4).1 (fk_X3_nextToBoard hc2 hk2 hq4).2 (fk_X3_ticketOf  hq1).1 (fk_X3_ticketOf  hq1).2) (cwV 2 hts gX3_serveStation_X3_shoves rfl rfl rfl (by decide +kernel) ⟨Nat.le_of_ble_eq_true rfl, Nat.le_of_ble_eq_true rfl⟩) (SR.mk0 hR) rfl hR rfl hl.1 rfl (Nat.le_of_ble_eq_true rfl) dX3_serveStation_67 (Nat.zero_le _) (Nat.zero_le _)) hS (fun _ h => h.elim) (fun H locs _ _ hfr hS => ?_)
        have hR := gRep.keep hR hfr (fun _ _ h => h)
        refine lv_if_ne (tgt := 74) hx hb dX3_serveStation_70 (by decide) (fun c_5 => ?_) (fun c_5 => ?_)
        · refine lv_aload hx hb dX3_serveStation_74 (lv_at hl 1 rfl) ?_
          refine lv_ifnull hx hb dX3_serveStation_76 ?_
          refine lv_aload_n hx hb dX3_serveStation_79 rfl (lv_at hl 5 rfl) ?_
          refine lv_dup hx hb dX3_serveStation_80 rfl ?_
          refine va_get (D := D) (ci := 4) (v := .int (X2 c2 9)) (C := RX4) (T := TX4) (N := 10) hx hb hts inX4 hown hK.1 (SR.mk1 hR (c := c2) hc2 (bS_4 hk2)) 0 rfl rfl 9 (by decide) lk249 (fun _ h9 => h9) rfl dX3_serveStation_81 ?_
          refine lv_iconst (v := 1) hx hb dX3_serveStation_84 (by decide) ?_
          refine lv_iadd hx hb dX3_serveStation_85 ?_
          refine gm_put (v := .int ((X2 c2 9) + 1)) (ty := .int) (ci := 4) (C := RX4) (T := TX4) (N := 10) hx hb hts inX4 tyX4 tyX4_ok nmX4 hown hK.1 hR injS hS (a := c2) hc2 rfl (bS_4 hk2) rfl 9 (by decide) lk249 (fun _ h9 => h9) rfl (by decide +kernel) rfl rfl (Nat.le_of_ble_eq_true rfl) (j := 9) (x := (X2 c2 9) + 1) (by rw [bS_4 hk2]; rfl) dX3_serveStation_86 (fun H locs hR hS => ?_)
          obtain ⟨X3, eX3⟩ : ∃ Y : gM, Y = updM X2 c2 9 ((X2 c2 9) + 1) := ⟨_, rfl⟩
          rw [← eX3] at hR
          refine lv_aload hx hb dX3_serveStation_89 (lv_at hl 1 rfl) ?_
          refine lv_aload hx hb dX3_serveStation_91 (lv_at hl 0 rfl) ?_
          refine va_get (D := D) (ci := 5) (v := .int (nI (nTic q4))) (C := RX5) (T := TX5) (N := 14) hx hb hts inX5 hown hK.1 (SR.mk1 hR (c := q4) (fk_X3_nextToBoard hc2 hk2 hq4).1 (bS_5 (fk_X3_nextToBoard hc2 hk2 hq4).2)) 0 rfl rfl 0 (by decide) lk185 (fun _ h9 => h9) rfl dX3_serveStation_93 ?_
          refine gm_put (v := .int (nI (nTic q4))) (ty := .int) (ci := 5) (C := RX5) (T := TX5) (N := 14) hx hb hts inX5 tyX5 tyX5_ok nmX5 hown hK.1 hR injS hS (a := q1) (fk_X3_ticketOf  hq1).1 rfl (bS_5 (fk_X3_ticketOf  hq1).2) rfl 11 (by decide) lk252 (fun _ h9 => h9) rfl (by decide +kernel) rfl rfl (Nat.le_of_ble_eq_true rfl) (j := 11) (x := nI (nTic q4)) (by rw [bS_5 (fk_X3_ticketOf  hq1).2]; rfl) dX3_serveStation_96 (fun H locs hR hS => ?_)
          obtain ⟨X4, eX4⟩ : ∃ Y : gM, Y = updM X3 q1 11 (nI (nTic q4)) := ⟨_, rfl⟩
          rw [← eX4] at hR
          refine lv_aload_n hx hb dX3_serveStation_99 rfl (lv_at hl 3 rfl) ?_
          refine lv_aload hx hb dX3_serveStation_100 (lv_at hl 1 rfl) ?_
          refine lv_aload_n hx hb dX3_serveStation_102 rfl (lv_at hl 5 rfl) ?_
          refine lv_iconst (v := 5) hx hb dX3_serveStation_103 (by decide) ?_
          refine lv_iconst (v := 5) hx hb dX3_serveStation_104 (by decide) ?_
          refine gm_cv (gm_call (As := [.ref (σ + q1), .ref (σ + c2), .int 5, .int 5]) (rest := []) (ci := 3) (q := (RX3, TX3, 14)) ⟨hx, hb, hml, hown, hts⟩ hK (c_X3_putOut l D cy σ X4 q1 c2 5 5 (fk_X3_ticketOf  hq1).1 (fk_X3_ticketOf  hq1).2 hc2 hk2) (cwV 4 hts gX3_serveStation_X3_putOut rfl rfl rfl (by decide +kernel) ⟨Nat.le_of_ble_eq_true rfl, Nat.le_of_ble_eq_true rfl⟩) (SR.mk0 hR) rfl hR rfl hl.1 rfl (Nat.le_of_ble_eq_true rfl) dX3_serveStation_105 (Nat.zero_le _) (Nat.zero_le _)) hS (fun _ h => h) (fun H locs hR _ _ hS => ?_)
          obtain ⟨X5, eX5⟩ : ∃ Y : gM, Y = p_X3_putOut X4 q1 c2 5 5 := ⟨_, rfl⟩
          rw [← eX5] at hR
          refine lv_aload_n hx hb dX3_serveStation_108 rfl (lv_at hl 3 rfl) ?_
          refine lv_aload hx hb dX3_serveStation_109 (lv_at hl 0 rfl) ?_
          refine lv_aload_n hx hb dX3_serveStation_111 rfl (lv_at hl 4 rfl) ?_
          refine lv_aload_n hx hb dX3_serveStation_112 rfl (lv_at hl 5 rfl) ?_
          refine lv_iload_n hx hb dX3_serveStation_113 rfl (lv_at hl 2 rfl) ?_
          refine gm_cv (gm_call (As := [.ref (σ + q4), .ref (σ + c1), .ref (σ + c2), .int (f_X0_slotAt X c1 (X c2 5))]) (rest := []) (ci := 3) (q := (RX3, TX3, 14)) ⟨hx, hb, hml, hown, hts⟩ hK (c_X3_board l D cy σ X5 q4 c1 c2 (f_X0_slotAt X c1 (X c2 5)) (fk_X3_nextToBoard hc2 hk2 hq4).1 (fk_X3_nextToBoard hc2 hk2 hq4).2 hc1 hk1 hc2 hk2) (cwV 4 hts gX3_serveStation_X3_board rfl rfl rfl (by decide +kernel) ⟨Nat.le_of_ble_eq_true rfl, Nat.le_of_ble_eq_true rfl⟩) (SR.mk0 hR) rfl hR rfl hl.1 rfl (Nat.le_of_ble_eq_true rfl) dX3_serveStation_114 (Nat.zero_le _) (Nat.zero_le _)) hS (fun _ h => h) (fun H locs hR _ _ hS => ?_)
          obtain ⟨X6, eX6⟩ : ∃ Y : gM, Y = p_X3_board X5 q4 c1 c2 (f_X0_slotAt X c1 (X c2 5)) := ⟨_, rfl⟩
          rw [← eX6] at hR
          exact gm_vret hx hb hr hlocks hS (by (try simp only [p_X3_serveStation, ↓if_pos c_3, ↓if_neg c_5, ↓gOpt_s hq1, ↓gOpt_s hq4, ← eX2, ← eX3, ← eX4, ← eX5, ← eX6]); exact hR) dX3_serveStation_117
        · exact gm_vret hx hb hr hlocks hS (by (try simp only [p_X3_serveStation, ↓if_pos c_3, ↓if_pos c_5, ↓gOpt_s hq1, ↓gOpt_s hq4, ← eX2]); exact hR) dX3_serveStation_73
    · refine lv_aload_n hx hb dX3_serveStation_35 rfl (lv_at hl 3 rfl) ?_
      refine lv_iload_n hx hb dX3_serveStation_36 rfl (lv_at hl 1 rfl) ?_
      refine lv_bipush (v := (-5)) hx hb dX3_serveStation_37 (by decide) ?_
      refine gm_cv (gm_call (As := [.int (f_X0_slotAt X c1 (X c2 5)), .int (-5)]) (rest := []) (ci := 0) (q := (RX0, TX0, 10)) ⟨hx, hb, hml, hown, hts⟩ hK (c_X0_setRider l D cy σ X2 c1 (f_X0_slotAt X c1 (X c2 5)) (-5) hc1 hk1) (cwV 2 hts gX3_serveStation_X0_setRider rfl rfl rfl (by decide +kernel) ⟨Nat.le_of_ble_eq_true rfl, Nat.le_of_ble_eq_true rfl⟩) (SR.mk1 hR (c := c1) hc1 (bS_0 hk1)) rfl hR rfl hl.1 rfl (Nat.le_of_ble_eq_true rfl) dX3_serveStation_39 (Nat.zero_le _) (Nat.zero_le _)) hS (fun _ h => h) (fun H locs hR _ _ hS => ?_)
      obtain ⟨X7, eX7⟩ : ∃ Y : gM, Y = p_X0_setRider X2 c1 (f_X0_slotAt X c1 (X c2 5)) (-5) := ⟨_, rfl⟩
      rw [← eX7] at hR
      refine lv_null hx hb dX3_serveStation_42 ?_
      refine lv_astoreN (lv' := [(4, .null), (3, .int (f_X0_slotAt X c1 (X c2 5))), (0, .ref σ), (1, .ref (σ + c1)), (2, .ref (σ + c2))]) hx hb dX3_serveStation_43 hl (by decide) rfl (fun ls hl => ?_)
      refine lv_aload_n hx hb dX3_serveStation_45 rfl (lv_at hl 2 rfl) ?_
      refine lv_aload_n hx hb dX3_serveStation_46 rfl (lv_at hl 4 rfl) ?_
      refine gm_cq (gm_call (As := [.ref (σ + c2)]) (rest := []) (ci := 3) (q := (RX3, TX3, 14)) ⟨hx, hb, hml, hown, hts⟩ hK (c_X3_nextToBoard l D cy σ X7 c2 hc2 hk2) (cwV 1 hts gX3_serveStation_X3_nextToBoard rfl rfl rfl (by decide +kernel) ⟨Nat.le_of_ble_eq_true rfl, Nat.le_of_ble_eq_true rfl⟩) (SR.mk0 hR) rfl hR rfl hl.1 rfl (Nat.le_of_ble_eq_true rfl) dX3_serveStation_47 (Nat.zero_le _) (Nat.zero_le _)) hS (fun _ h => h.elim) (fun H locs _ _ hfr hS => ?_)
      have hR := gRep.keep hR hfr (fun _ _ h => h)
      rcases hq6 : f_X3_nextToBoard X7 c2 with _ | q6
      · refine W.eq (g2 := F0 m 50 ls [.null]) rfl ?_
        refine lv_astoreN (lv' := [(5, .null), (4, .null), (3, .int (f_X0_slotAt X c1 (X c2 5))), (0, .ref σ), (1, .ref (σ + c1)), (2, .ref (σ + c2))]) hx hb dX3_serveStation_50 hl (by decide) rfl (fun ls hl => ?_)
        refine lv_aloadN hx hb dX3_serveStation_52 (lv_at hl 0 rfl) ?_
        refine lv_ifnullN (tgt := 73) hx hb dX3_serveStation_54 (by decide) ?_
        exact gm_vret hx hb hr hlocks hS (by (try simp only [p_X3_serveStation, ↓if_neg c_3, ↓gOpt_s hq1, ↓gOpt_n hq6, ← eX2, ← eX7]); exact hR) dX3_serveStation_73
      · refine W.eq (g2 := F0 m 50 ls [.ref (σ + q6)]) rfl ?_
        refine lv_astore (lv' := [(5, .ref (σ + q6)), (4, .null), (3, .int (f_X0_slotAt X c1 (X c2 5))), (0, .ref σ), (1, .ref (σ + c1)), (2, .ref (σ + c2))]) hx hb dX3_serveStation_50 hl (by decide) rfl (fun ls hl => ?_)
        refine lv_aload hx hb dX3_serveStation_52 (lv_at hl 0 rfl) ?_
        refine lv_ifnull hx hb dX3_serveStation_54 ?_
        refine lv_aloadN hx hb dX3_serveStation_57 (lv_at hl 1 rfl) ?_
        refine lv_ifnullN (tgt := 74) hx hb dX3_serveStation_59 (by decide) ?_
        refine lv_aloadN hx hb dX3_serveStation_74 (lv_at hl 1 rfl) ?_
        refine lv_ifnullN (tgt := 108) hx hb dX3_serveStation_76 (by decide) ?_
        refine lv_aload_n hx hb dX3_serveStation_108 rfl (lv_at hl 3 rfl) ?_
        refine lv_aload hx hb dX3_serveStation_109 (lv_at hl 0 rfl) ?_
        refine lv_aload_n hx hb dX3_serveStation_111 rfl (lv_at hl 4 rfl) ?_
        refine lv_aload_n hx hb dX3_serveStation_112 rfl (lv_at hl 5 rfl) ?_
        refine lv_iload_n hx hb dX3_serveStation_113 rfl (lv_at hl 2 rfl) ?_
        refine gm_cv (gm_call (As := [.ref (σ + q6), .ref (σ + c1), .ref (σ + c2), .int (f_X0_slotAt X c1 (X c2 5))]) (rest := []) (ci := 3) (q := (RX3, TX3, 14)) ⟨hx, hb, hml, hown, hts⟩ hK (c_X3_board l D cy σ X7 q6 c1 c2 (f_X0_slotAt X c1 (X c2 5)) (fk_X3_nextToBoard hc2 hk2 hq6).1 (fk_X3_nextToBoard hc2 hk2 hq6).2 hc1 hk1 hc2 hk2) (cwV 4 hts gX3_serveStation_X3_board rfl rfl rfl (by decide +kernel) ⟨Nat.le_of_ble_eq_true rfl, Nat.le_of_ble_eq_true rfl⟩) (SR.mk0 hR) rfl hR rfl hl.1 rfl (Nat.le_of_ble_eq_true rfl) dX3_serveStation_114 (Nat.zero_le _) (Nat.zero_le _)) hS (fun _ h => h) (fun H locs hR _ _ hS => ?_)
        obtain ⟨X8, eX8⟩ : ∃ Y : gM, Y = p_X3_board X7 q6 c1 c2 (f_X0_slotAt X c1 (X c2 5)) := ⟨_, rfl⟩
        rw [← eX8] at hR
        exact gm_vret hx hb hr hlocks hS (by (try simp only [p_X3_serveStation, ↓if_neg c_3, ↓gOpt_s hq1, ↓gOpt_s hq6, ← eX2, ← eX7, ← eX8]); exact hR) dX3_serveStation_117
