def p_X3_board (X : gM) (c1 : Nat) (c2 : Nat) (c3 : Nat) (a4 : Int32) : gM :=
  let X1 := p_X1_write X 33 0 (nI (nTic c1)) (nI (nLin c2)) (nI (10 * nLin c3 + nSta c3)) (X 0 7)
  let X2 := updM X1 c3 6 ((X1 c3 6) + 1)
  let X3 := p_X5_ride X2 c1 c3 a4 (X2 0 7)
  let X4 := p_X0_setRider X3 c2 a4 (nI (nTic c1))
  X4
set_option maxHeartbeats 4000000 in
set_option maxRecDepth 100000 in
theorem c_X3_board (l : Launch) (D : va_G) (cy : Nat → ClassId) (σ : Nat) (X : gM) (c1 : Nat) (c2 : Nat) (c3 : Nat) (a4 : Int32) (hc1 : c1 < 123) (hk1 : kdS c1 = 5) (hc2 : c2 < 123) (hk2 : kdS c2 = 0) (hc3 : c3 < 123) (hk3 : kdS c3 = 4) : Met l yX3_board wsX3_board ({ frames := 2, cells := 0, slots := 0, locals := 44 }) (gP [.ref σ, .ref (σ + c1), .ref (σ + c2), .ref (σ + c3), .int a4] D cy (SR D cy σ X)) (gQv (SR D cy σ (p_X3_board X c1 c2 c3 a4)) (SA σ)) 0 0 (SA σ) := by
  refine gm_met (cc := cX3_board) (maxL := 5) (ret := none) [.ref σ, .ref (σ + c1), .ref (σ + c2), .ref (σ + c3), .int a4] (by decide) rfl (Nat.le_of_ble_eq_true rfl) ?_
  intro p e s m args below meth c0 ls C hR hl
  obtain ⟨hx, hb, hr, hts, hown, hlocks, hml, hK⟩ := C
  have hl : lv_has ls 5 [(0, .ref σ), (1, .ref (σ + c1)), (2, .ref (σ + c2)), (3, .ref (σ + c3)), (4, .int a4)] := hl
  have hS : va_S (SA σ) s.heap s.heap [] := va_S.rf
  have lk38 := hts (.fieldLink RX3 38 "MercuryLine$State" "log" "LMercuryLine$Log;") (by decide +kernel)
  have inX3 : ∀ w ∈ u_ws RX3 TX3 14, w ∈ wsX3_board := by decide +kernel
  have lk185 := hts (.fieldLink RX3 185 "MercuryLine$Ticket" "number" "I") (by decide +kernel)
  have inX5 : ∀ w ∈ u_ws RX5 TX5 14, w ∈ wsX3_board := by decide +kernel
  have lk122 := hts (.fieldLink RX3 122 "MercuryLine$Line" "number" "I") (by decide +kernel)
  have inX0 : ∀ w ∈ u_ws RX0 TX0 10, w ∈ wsX3_board := by decide +kernel
  have lk146 := hts (.fieldLink RX3 146 "MercuryLine$Station" "code" "I") (by decide +kernel)
  have inX4 : ∀ w ∈ u_ws RX4 TX4 10, w ∈ wsX3_board := by decide +kernel
  have lk70 := hts (.fieldLink RX3 70 "MercuryLine$State" "tick" "I") (by decide +kernel)
  have lk301 := hts (.fieldLink RX3 301 "MercuryLine$Station" "boarded" "I") (by decide +kernel)
  refine lv_aload_n hx hb dX3_board_0 rfl (lv_at hl 0 rfl) ?_
  refine va_get (D := D) (ci := 3) (v := .ref (σ + 33)) (C := RX3) (T := TX3) (N := 14) hx hb hts inX3 hown hK.1 (SR.mk0 hR) 0 rfl rfl 4 (by decide) lk38 (fun _ h9 => h9) rfl dX3_board_1 ?_
  refine lv_iconst (v := 0) hx hb dX3_board_4 (by decide) ?_
  refine lv_aload_n hx hb dX3_board_5 rfl (lv_at hl 1 rfl) ?_
  refine va_get (D := D) (ci := 5) (v := .int (nI (nTic c1))) (C := RX5) (T := TX5) (N := 14) hx hb hts inX5 hown hK.1 (SR.mk1 hR (c := c1) hc1 (bS_5 hk1)) 0 rfl rfl 0 (by decide) lk185 (fun _ h9 => h9) rfl dX3_board_6 ?_
  refine lv_aload_n hx hb dX3_board_9 rfl (lv_at hl 2 rfl) ?_
  refine va_get (D := D) (ci := 0) (v := .int (nI (nLin c2))) (C := RX0) (T := TX0) (N := 10) hx hb hts inX0 hown hK.1 (SR.mk1 hR (c := c2) hc2 (bS_0 hk2)) 0 rfl rfl 0 (by decide) lk122 (fun _ h9 => h9) rfl dX3_board_10 ?_
  refine lv_aload_n hx hb dX3_board_13 rfl (lv_at hl 3 rfl) ?_
  refine va_get (D := D) (ci := 4) (v := .int (nI (10 * nLin c3 + nSta c3))) (C := RX4) (T := TX4) (N := 10) hx hb hts inX4 hown hK.1 (SR.mk1 hR (c := c3) hc3 (bS_4 hk3)) 0 rfl rfl 1 (by decide) lk146 (fun _ h9 => h9) rfl dX3_board_14 ?_
  refine lv_aload_n hx hb dX3_board_17 rfl (lv_at hl 0 rfl) ?_
  refine va_get (D := D) (ci := 3) (v := .int (X 0 7)) (C := RX3) (T := TX3) (N := 14) hx hb hts inX3 hown hK.1 (SR.mk0 hR) 0 rfl rfl 7 (by decide) lk70 (fun _ h9 => h9) rfl dX3_board_18 ?_
  refine gm_cv (gm_call (As := [.int 0, .int (nI (nTic c1)), .int (nI (nLin c2)), .int (nI (10 * nLin c3 + nSta c3)), .int (X 0 7)]) (rest := []) (ci := 1) (q := (RX1, TX1, 3)) ⟨hx, hb, hml, hown, hts⟩ hK (c_X1_write l D cy σ X 33 0 (nI (nTic c1)) (nI (nLin c2)) (nI (10 * nLin c3 + nSta c3)) (X 0 7) (by decide) (by decide)) (cwV 5 hts gX3_board_X1_write rfl rfl rfl (by decide +kernel) ⟨Nat.le_of_ble_eq_true rfl, Nat.le_of_ble_eq_true rfl⟩) (SR.mk1 hR (c := 33) (by decide) (bS_1 (by decide))) rfl hR rfl hl.1 rfl (Nat.le_of_ble_eq_true rfl) dX3_board_21 (Nat.zero_le _) (Nat.zero_le _)) hS (fun _ h => h) (fun H locs hR _ _ hS => ?_)
  obtain ⟨X1, eX1⟩ : ∃ Y : gM, Y = p_X1_write X 33 0 (nI (nTic c1)) (nI (nLin c2)) (nI (10 * nLin c3 + nSta c3)) (X 0 7) := ⟨_, rfl⟩
  rw [← eX1] at hR
  refine lv_aload_n hx hb dX3_board_24 rfl (lv_at hl 3 rfl) ?_
  refine lv_dup hx hb dX3_board_25 rfl ?_
  refine va_get (D := D) (ci := 4) (v := .int (X1 c3 6)) (C := RX4) (T := TX4) (N := 10) hx hb hts inX4 hown hK.1 (SR.mk1 hR (c := c3) hc3 (bS_4 hk3)) 0 rfl rfl 6 (by decide) lk301 (fun _ h9 => h9) rfl dX3_board_26 ?_
  refine lv_iconst (v := 1) hx hb dX3_board_29 (by decide) ?_
  refine lv_iadd hx hb dX3_board_30 ?_
  refine gm_put (v := .int ((X1 c3 6) + 1)) (ty := .int) (ci := 4) (C := RX4) (T := TX4) (N := 10) hx hb hts inX4 tyX4 tyX4_ok nmX4 hown hK.1 hR injS hS (a := c3) hc3 rfl (bS_4 hk3) rfl 6 (by decide) lk301 (fun _ h9 => h9) rfl (by decide +kernel) rfl rfl (Nat.le_of_ble_eq_true rfl) (j := 6) (x := (X1 c3 6) + 1) (by rw [bS_4 hk3]; rfl) dX3_board_31 (fun H locs hR hS => ?_)
  obtain ⟨X2, eX2⟩ : ∃ Y : gM, Y = updM X1 c3 6 ((X1 c3 6) + 1) := ⟨_, rfl⟩
  rw [← eX2] at hR
  refine lv_aload_n hx hb dX3_board_34 rfl (lv_at hl 1 rfl) ?_
  refine lv_aload_n hx hb dX3_board_35 rfl (lv_at hl 3 rfl) ?_
  refine lv_iload hx hb dX3_board_36 (lv_at hl 4 rfl) ?_
  refine lv_aload_n hx hb dX3_board_38 rfl (lv_at hl 0 rfl) ?_
  refine va_get (D := D) (ci := 3) (v := .int (X2 0 7)) (C := RX3) (T := TX3) (N := 14) hx hb hts inX3 hown hK.1 (SR.mk0 hR) 0 rfl rfl 7 (by decide) lk70 (fun _ h9 => h9) rfl dX3_board_39 ?_
  refine gm_cv (gm_call (As := [.ref (σ + c3), .int a4, .int (X2 0 7)]) (rest := []) (ci := 5) (q := (RX5, TX5, 14)) ⟨hx, hb, hml, hown, hts⟩ hK (c_X5_ride l D cy σ X2 c1 c3 a4 (X2 0 7) hc1 hk1 hc3 hk3) (cwV 3 hts gX3_board_X5_ride rfl rfl rfl (by decide +kernel) ⟨Nat.le_of_ble_eq_true rfl, Nat.le_of_ble_eq_true rfl⟩) (SR.mk1 hR (c := c1) hc1 (bS_5 hk1)) rfl hR rfl hl.1 rfl (Nat.le_of_ble_eq_true rfl) dX3_board_42 (Nat.zero_le _) (Nat.zero_le _)) hS (fun _ h => h) (fun H locs hR _ _ hS => ?_)
  obtain ⟨X3, eX3⟩ : ∃ Y : gM, Y = p_X5_ride X2 c1 c3 a4 (X2 0 7) := ⟨_, rfl⟩
  rw [← eX3] at hR
  refine lv_aload_n hx hb dX3_board_45 rfl (lv_at hl 2 rfl) ?_
  refine lv_iload hx hb dX3_board_46 (lv_at hl 4 rfl) ?_
  refine lv_aload_n hx hb dX3_board_48 rfl (lv_at hl 1 rfl) ?_
  refine va_get (D := D) (ci := 5) (v := .int (nI (nTic c1))) (C := RX5) (T := TX5) (N := 14) hx hb hts inX5 hown hK.1 (SR.mk1 hR (c := c1) hc1 (bS_5 hk1)) 0 rfl rfl 0 (by decide) lk185 (fun _ h9 => h9) rfl dX3_board_49 ?_
  refine gm_cv (gm_call (As := [.int a4, .int (nI (nTic c1))]) (rest := []) (ci := 0) (q := (RX0, TX0, 10)) ⟨hx, hb, hml, hown, hts⟩ hK (c_X0_setRider l D cy σ X3 c2 a4 (nI (nTic c1)) hc2 hk2) (cwV 2 hts gX3_board_X0_setRider rfl rfl rfl (by decide +kernel) ⟨Nat.le_of_ble_eq_true rfl, Nat.le_of_ble_eq_true rfl⟩) (SR.mk1 hR (c := c2) hc2 (bS_0 hk2)) rfl hR rfl hl.1 rfl (Nat.le_of_ble_eq_true rfl) dX3_board_52 (Nat.zero_le _) (Nat.zero_le _)) hS (fun _ h => h) (fun H locs hR _ _ hS => ?_)
  obtain ⟨X4, eX4⟩ : ∃ Y : gM, Y = p_X0_setRider X3 c2 a4 (nI (nTic c1)) := ⟨_, rfl⟩
  rw [← eX4] at hR
  exact gm_vret hx hb hr hlocks hS (by (try simp only [p_X3_board, ← eX1, ← eX2, ← eX3, ← eX4]); exact hR) dX3_board_55
