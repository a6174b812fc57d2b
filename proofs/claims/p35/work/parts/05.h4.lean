def p_X3_putOut (X : gM) (c1 : Nat) (c2 : Nat) (a3 : Int32) (a4 : Int32) : gM :=
  let X1 := p_X1_write X 33 a4 (nI (nTic c1)) (nI (nLin c2)) (nI (10 * nLin c2 + nSta c2)) (X 0 7)
  let X2 := updM X1 0 12 ((X1 0 12) + (X1 c1 3))
  let X3 := p_X5_finish X2 c1 a3 (nI (10 * nLin c2 + nSta c2)) (X2 0 7)
  X3
set_option maxHeartbeats 4000000 in
set_option maxRecDepth 100000 in
theorem c_X3_putOut (l : Launch) (D : va_G) (cy : Nat → ClassId) (σ : Nat) (X : gM) (c1 : Nat) (c2 : Nat) (a3 : Int32) (a4 : Int32) (hc1 : c1 < 123) (hk1 : kdS c1 = 5) (hc2 : c2 < 123) (hk2 : kdS c2 = 4) : Met l yX3_putOut wsX3_putOut ({ frames := 1, cells := 0, slots := 0, locals := 26 }) (gP [.ref σ, .ref (σ + c1), .ref (σ + c2), .int a3, .int a4] D cy (SR D cy σ X)) (gQv (SR D cy σ (p_X3_putOut X c1 c2 a3 a4)) (SA σ)) 0 0 (SA σ) := by
  refine gm_met (cc := cX3_putOut) (maxL := 5) (ret := none) [.ref σ, .ref (σ + c1), .ref (σ + c2), .int a3, .int a4] (by decide) rfl (Nat.le_of_ble_eq_true rfl) ?_
  intro p e s m args below meth c0 ls C hR hl
  obtain ⟨hx, hb, hr, hts, hown, hlocks, hml, hK⟩ := C
  have hl : lv_has ls 5 [(0, .ref σ), (1, .ref (σ + c1)), (2, .ref (σ + c2)), (3, .int a3), (4, .int a4)] := hl
  have hS : va_S (SA σ) s.heap s.heap [] := va_S.rf
  have lk38 := hts (.fieldLink RX3 38 "MercuryLine$State" "log" "LMercuryLine$Log;") (by decide +kernel)
  have inX3 : ∀ w ∈ u_ws RX3 TX3 14, w ∈ wsX3_putOut := by decide +kernel
  have lk185 := hts (.fieldLink RX3 185 "MercuryLine$Ticket" "number" "I") (by decide +kernel)
  have inX5 : ∀ w ∈ u_ws RX5 TX5 14, w ∈ wsX3_putOut := by decide +kernel
  have lk138 := hts (.fieldLink RX3 138 "MercuryLine$Station" "line" "I") (by decide +kernel)
  have inX4 : ∀ w ∈ u_ws RX4 TX4 10, w ∈ wsX3_putOut := by decide +kernel
  have lk146 := hts (.fieldLink RX3 146 "MercuryLine$Station" "code" "I") (by decide +kernel)
  have lk70 := hts (.fieldLink RX3 70 "MercuryLine$State" "tick" "I") (by decide +kernel)
  have lk79 := hts (.fieldLink RX3 79 "MercuryLine$State" "refunded" "I") (by decide +kernel)
  have lk163 := hts (.fieldLink RX3 163 "MercuryLine$Ticket" "paid" "I") (by decide +kernel)
  refine lv_aload_n hx hb dX3_putOut_0 rfl (lv_at hl 0 rfl) ?_
  refine va_get (D := D) (ci := 3) (v := .ref (σ + 33)) (C := RX3) (T := TX3) (N := 14) hx hb hts inX3 hown hK.1 (SR.mk0 hR) 0 rfl rfl 4 (by decide) lk38 (fun _ h9 => h9) rfl dX3_putOut_1 ?_
  refine lv_iload hx hb dX3_putOut_4 (lv_at hl 4 rfl) ?_
  refine lv_aload_n hx hb dX3_putOut_6 rfl (lv_at hl 1 rfl) ?_
  refine va_get (D := D) (ci := 5) (v := .int (nI (nTic c1))) (C := RX5) (T := TX5) (N := 14) hx hb hts inX5 hown hK.1 (SR.mk1 hR (c := c1) hc1 (bS_5 hk1)) 0 rfl rfl 0 (by decide) lk185 (fun _ h9 => h9) rfl dX3_putOut_7 ?_
  refine lv_aload_n hx hb dX3_putOut_10 rfl (lv_at hl 2 rfl) ?_
  refine va_get (D := D) (ci := 4) (v := .int (nI (nLin c2))) (C := RX4) (T := TX4) (N := 10) hx hb hts inX4 hown hK.1 (SR.mk1 hR (c := c2) hc2 (bS_4 hk2)) 0 rfl rfl 0 (by decide) lk138 (fun _ h9 => h9) rfl dX3_putOut_11 ?_
  refine lv_aload_n hx hb dX3_putOut_14 rfl (lv_at hl 2 rfl) ?_
  refine va_get (D := D) (ci := 4) (v := .int (nI (10 * nLin c2 + nSta c2))) (C := RX4) (T := TX4) (N := 10) hx hb hts inX4 hown hK.1 (SR.mk1 hR (c := c2) hc2 (bS_4 hk2)) 0 rfl rfl 1 (by decide) lk146 (fun _ h9 => h9) rfl dX3_putOut_15 ?_
  refine lv_aload_n hx hb dX3_putOut_18 rfl (lv_at hl 0 rfl) ?_
  refine va_get (D := D) (ci := 3) (v := .int (X 0 7)) (C := RX3) (T := TX3) (N := 14) hx hb hts inX3 hown hK.1 (SR.mk0 hR) 0 rfl rfl 7 (by decide) lk70 (fun _ h9 => h9) rfl dX3_putOut_19 ?_
  refine gm_cv (gm_call (As := [.int a4, .int (nI (nTic c1)), .int (nI (nLin c2)), .int (nI (10 * nLin c2 + nSta c2)), .int (X 0 7)]) (rest := []) (ci := 1) (q := (RX1, TX1, 3)) ⟨hx, hb, hml, hown, hts⟩ hK (c_X1_write l D cy σ X 33 a4 (nI (nTic c1)) (nI (nLin c2)) (nI (10 * nLin c2 + nSta c2)) (X 0 7) (by decide) (by decide)) (cwV 5 hts gX3_putOut_X1_write rfl rfl rfl (by decide +kernel) ⟨Nat.le_of_ble_eq_true rfl, Nat.le_of_ble_eq_true rfl⟩) (SR.mk1 hR (c := 33) (by decide) (bS_1 (by decide))) rfl hR rfl hl.1 rfl (Nat.le_of_ble_eq_true rfl) dX3_putOut_22 (Nat.zero_le _) (Nat.zero_le _)) hS (fun _ h => h) (fun H locs hR _ _ hS => ?_)
  obtain ⟨X1, eX1⟩ : ∃ Y : gM, Y = p_X1_write X 33 a4 (nI (nTic c1)) (nI (nLin c2)) (nI (10 * nLin c2 + nSta c2)) (X 0 7) := ⟨_, rfl⟩
  rw [← eX1] at hR
  refine lv_aload_n hx hb dX3_putOut_25 rfl (lv_at hl 0 rfl) ?_
  refine lv_dup hx hb dX3_putOut_26 rfl ?_
  refine va_get (D := D) (ci := 3) (v := .int (X1 0 12)) (C := RX3) (T := TX3) (N := 14) hx hb hts inX3 hown hK.1 (SR.mk0 hR) 0 rfl rfl 12 (by decide) lk79 (fun _ h9 => h9) rfl dX3_putOut_27 ?_
  refine lv_aload_n hx hb dX3_putOut_30 rfl (lv_at hl 1 rfl) ?_
  refine va_get (D := D) (ci := 5) (v := .int (X1 c1 3)) (C := RX5) (T := TX5) (N := 14) hx hb hts inX5 hown hK.1 (SR.mk1 hR (c := c1) hc1 (bS_5 hk1)) 0 rfl rfl 3 (by decide) lk163 (fun _ h9 => h9) rfl dX3_putOut_31 ?_
  refine lv_iadd hx hb dX3_putOut_34 ?_
  refine gm_put (v := .int ((X1 0 12) + (X1 c1 3))) (ty := .int) (ci := 3) (C := RX3) (T := TX3) (N := 14) hx hb hts inX3 tyX3 tyX3_ok nmX3 hown hK.1 hR injS hS (a := 0) (by decide) rfl (bS_3 (by decide)) rfl 12 (by decide) lk79 (fun _ h9 => h9) rfl (by decide +kernel) rfl rfl (Nat.le_of_ble_eq_true rfl) (j := 12) (x := (X1 0 12) + (X1 c1 3)) (by rw [bS_3 (by decide)]; rfl) dX3_putOut_35 (fun H locs hR hS => ?_)
  obtain ⟨X2, eX2⟩ : ∃ Y : gM, Y = updM X1 0 12 ((X1 0 12) + (X1 c1 3)) := ⟨_, rfl⟩
  rw [← eX2] at hR
  refine lv_aload_n hx hb dX3_putOut_38 rfl (lv_at hl 1 rfl) ?_
  refine lv_iload_n hx hb dX3_putOut_39 rfl (lv_at hl 3 rfl) ?_
  refine lv_aload_n hx hb dX3_putOut_40 rfl (lv_at hl 2 rfl) ?_
  refine va_get (D := D) (ci := 4) (v := .int (nI (10 * nLin c2 + nSta c2))) (C := RX4) (T := TX4) (N := 10) hx hb hts inX4 hown hK.1 (SR.mk1 hR (c := c2) hc2 (bS_4 hk2)) 0 rfl rfl 1 (by decide) lk146 (fun _ h9 => h9) rfl dX3_putOut_41 ?_
  refine lv_aload_n hx hb dX3_putOut_44 rfl (lv_at hl 0 rfl) ?_
  refine va_get (D := D) (ci := 3) (v := .int (X2 0 7)) (C := RX3) (T := TX3) (N := 14) hx hb hts inX3 hown hK.1 (SR.mk0 hR) 0 rfl rfl 7 (by decide) lk70 (fun _ h9 => h9) rfl dX3_putOut_45 ?_
  refine gm_cv (gm_call (As := [.int a3, .int (nI (10 * nLin c2 + nSta c2)), .int (X2 0 7)]) (rest := []) (ci := 5) (q := (RX5, TX5, 14)) ⟨hx, hb, hml, hown, hts⟩ hK (c_X5_finish l D cy σ X2 c1 a3 (nI (10 * nLin c2 + nSta c2)) (X2 0 7) hc1 hk1) (cwV 3 hts gX3_putOut_X5_finish rfl rfl rfl (by decide +kernel) ⟨Nat.le_of_ble_eq_true rfl, Nat.le_of_ble_eq_true rfl⟩) (SR.mk1 hR (c := c1) hc1 (bS_5 hk1)) rfl hR rfl hl.1 rfl (Nat.le_of_ble_eq_true rfl) dX3_putOut_48 (Nat.zero_le _) (Nat.zero_le _)) hS (fun _ h => h) (fun H locs hR _ _ hS => ?_)
  obtain ⟨X3, eX3⟩ : ∃ Y : gM, Y = p_X5_finish X2 c1 a3 (nI (10 * nLin c2 + nSta c2)) (X2 0 7) := ⟨_, rfl⟩
  rw [← eX3] at hR
  exact gm_vret hx hb hr hlocks hS (by (try simp only [p_X3_putOut, ← eX1, ← eX2, ← eX3]); exact hR) dX3_putOut_51
