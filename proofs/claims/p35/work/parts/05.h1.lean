def p_X3_arrive (X : gM) (c1 : Nat) (c2 : Nat) : gM :=
  let X1 := p_X1_write X 33 1 (nI (nTic c1)) (nI (nLin c2)) (nI (10 * nLin c2 + nSta c2)) (X 0 7)
  let X2 := updM X1 c2 7 ((X1 c2 7) + 1)
  let X3 := updM X2 0 13 ((X2 0 13) ^^^ (X2 (c1 + 1) 0))
  let X4 := updM X3 0 11 ((X3 0 11) + (X3 c1 3))
  let X5 := p_X5_finish X4 c1 3 (nI (10 * nLin c2 + nSta c2)) (X4 0 7)
  X5
set_option maxHeartbeats 4000000 in
set_option maxRecDepth 100000 in
theorem c_X3_arrive (l : Launch) (D : va_G) (cy : Nat → ClassId) (σ : Nat) (X : gM) (c1 : Nat) (c2 : Nat) (hc1 : c1 < 123) (hk1 : kdS c1 = 5) (hc2 : c2 < 123) (hk2 : kdS c2 = 4) : Met l yX3_arrive wsX3_arrive ({ frames := 1, cells := 0, slots := 0, locals := 26 }) (gP [.ref σ, .ref (σ + c1), .ref (σ + c2)] D cy (SR D cy σ X)) (gQv (SR D cy σ (p_X3_arrive X c1 c2)) (SA σ)) 0 0 (SA σ) := by
  refine gm_met (cc := cX3_arrive) (maxL := 3) (ret := none) [.ref σ, .ref (σ + c1), .ref (σ + c2)] (by decide) rfl (Nat.le_of_ble_eq_true rfl) ?_
  intro p e s m args below meth c0 ls C hR hl
  obtain ⟨hx, hb, hr, hts, hown, hlocks, hml, hK⟩ := C
  have hl : lv_has ls 3 [(0, .ref σ), (1, .ref (σ + c1)), (2, .ref (σ + c2))] := hl
  have hS : va_S (SA σ) s.heap s.heap [] := va_S.rf
  have lk38 := hts (.fieldLink RX3 38 "MercuryLine$State" "log" "LMercuryLine$Log;") (by decide +kernel)
  have inX3 : ∀ w ∈ u_ws RX3 TX3 14, w ∈ wsX3_arrive := by decide +kernel
  have lk185 := hts (.fieldLink RX3 185 "MercuryLine$Ticket" "number" "I") (by decide +kernel)
  have inX5 : ∀ w ∈ u_ws RX5 TX5 14, w ∈ wsX3_arrive := by decide +kernel
  have lk138 := hts (.fieldLink RX3 138 "MercuryLine$Station" "line" "I") (by decide +kernel)
  have inX4 : ∀ w ∈ u_ws RX4 TX4 10, w ∈ wsX3_arrive := by decide +kernel
  have lk146 := hts (.fieldLink RX3 146 "MercuryLine$Station" "code" "I") (by decide +kernel)
  have lk70 := hts (.fieldLink RX3 70 "MercuryLine$State" "tick" "I") (by decide +kernel)
  have lk291 := hts (.fieldLink RX3 291 "MercuryLine$Station" "arrived" "I") (by decide +kernel)
  have lk82 := hts (.fieldLink RX3 82 "MercuryLine$State" "arrivedValues" "I") (by decide +kernel)
  have lk125 := hts (.fieldLink RX3 125 "MercuryLine$Ticket" "trip" "LMercuryLine$Trip;") (by decide +kernel)
  have lk267 := hts (.fieldLink RX3 267 "MercuryLine$Trip" "value" "I") (by decide +kernel)
  have inX7 : ∀ w ∈ u_ws RX7 TX7 5, w ∈ wsX3_arrive := by decide +kernel
  have lk76 := hts (.fieldLink RX3 76 "MercuryLine$State" "earned" "I") (by decide +kernel)
  have lk163 := hts (.fieldLink RX3 163 "MercuryLine$Ticket" "paid" "I") (by decide +kernel)
  refine lv_aload_n hx hb dX3_arrive_0 rfl (lv_at hl 0 rfl) ?_
  refine va_get (D := D) (ci := 3) (v := .ref (σ + 33)) (C := RX3) (T := TX3) (N := 14) hx hb hts inX3 hown hK.1 (SR.mk0 hR) 0 rfl rfl 4 (by decide) lk38 (fun _ h9 => h9) rfl dX3_arrive_1 ?_
  refine lv_iconst (v := 1) hx hb dX3_arrive_4 (by decide) ?_
  refine lv_aload_n hx hb dX3_arrive_5 rfl (lv_at hl 1 rfl) ?_
  refine va_get (D := D) (ci := 5) (v := .int (nI (nTic c1))) (C := RX5) (T := TX5) (N := 14) hx hb hts inX5 hown hK.1 (SR.mk1 hR (c := c1) hc1 (bS_5 hk1)) 0 rfl rfl 0 (by decide) lk185 (fun _ h9 => h9) rfl dX3_arrive_6 ?_
  refine lv_aload_n hx hb dX3_arrive_9 rfl (lv_at hl 2 rfl) ?_
  refine va_get (D := D) (ci := 4) (v := .int (nI (nLin c2))) (C := RX4) (T := TX4) (N := 10) hx hb hts inX4 hown hK.1 (SR.mk1 hR (c := c2) hc2 (bS_4 hk2)) 0 rfl rfl 0 (by decide) lk138 (fun _ h9 => h9) rfl dX3_arrive_10 ?_
  refine lv_aload_n hx hb dX3_arrive_13 rfl (lv_at hl 2 rfl) ?_
  refine va_get (D := D) (ci := 4) (v := .int (nI (10 * nLin c2 + nSta c2))) (C := RX4) (T := TX4) (N := 10) hx hb hts inX4 hown hK.1 (SR.mk1 hR (c := c2) hc2 (bS_4 hk2)) 0 rfl rfl 1 (by decide) lk146 (fun _ h9 => h9) rfl dX3_arrive_14 ?_
  refine lv_aload_n hx hb dX3_arrive_17 rfl (lv_at hl 0 rfl) ?_
  refine va_get (D := D) (ci := 3) (v := .int (X 0 7)) (C := RX3) (T := TX3) (N := 14) hx hb hts inX3 hown hK.1 (SR.mk0 hR) 0 rfl rfl 7 (by decide) lk70 (fun _ h9 => h9) rfl dX3_arrive_18 ?_
  refine gm_cv (gm_call (As := [.int 1, .int (nI (nTic c1)), .int (nI (nLin c2)), .int (nI (10 * nLin c2 + nSta c2)), .int (X 0 7)]) (rest := []) (ci := 1) (q := (RX1, TX1, 3)) ⟨hx, hb, hml, hown, hts⟩ hK (c_X1_write l D cy σ X 33 1 (nI (nTic c1)) (nI (nLin c2)) (nI (10 * nLin c2 + nSta c2)) (X 0 7) (by decide) (by decide)) (cwV 5 hts gX3_arrive_X1_write rfl rfl rfl (by decide +kernel) ⟨Nat.le_of_ble_eq_true rfl, Nat.le_of_ble_eq_true rfl⟩) (SR.mk1 hR (c := 33) (by decide) (bS_1 (by decide))) rfl hR rfl hl.1 rfl (Nat.le_of_ble_eq_true rfl) dX3_arrive_21 (Nat.zero_le _) (Nat.zero_le _)) hS (fun _ h => h) (fun H locs hR _ _ hS => ?_)
  obtain ⟨X1, eX1⟩ : ∃ Y : gM, Y = p_X1_write X 33 1 (nI (nTic c1)) (nI (nLin c2)) (nI (10 * nLin c2 + nSta c2)) (X 0 7) := ⟨_, rfl⟩
  rw [← eX1] at hR
  refine lv_aload_n hx hb dX3_arrive_24 rfl (lv_at hl 2 rfl) ?_
  refine lv_dup hx hb dX3_arrive_25 rfl ?_
  refine va_get (D := D) (ci := 4) (v := .int (X1 c2 7)) (C := RX4) (T := TX4) (N := 10) hx hb hts inX4 hown hK.1 (SR.mk1 hR (c := c2) hc2 (bS_4 hk2)) 0 rfl rfl 7 (by decide) lk291 (fun _ h9 => h9) rfl dX3_arrive_26 ?_
  refine lv_iconst (v := 1) hx hb dX3_arrive_29 (by decide) ?_
  refine lv_iadd hx hb dX3_arrive_30 ?_
  refine gm_put (v := .int ((X1 c2 7) + 1)) (ty := .int) (ci := 4) (C := RX4) (T := TX4) (N := 10) hx hb hts inX4 tyX4 tyX4_ok nmX4 hown hK.1 hR injS hS (a := c2) hc2 rfl (bS_4 hk2) rfl 7 (by decide) lk291 (fun _ h9 => h9) rfl (by decide +kernel) rfl rfl (Nat.le_of_ble_eq_true rfl) (j := 7) (x := (X1 c2 7) + 1) (by rw [bS_4 hk2]; rfl) dX3_arrive_31 (fun H locs hR hS => ?_)
  obtain ⟨X2, eX2⟩ : ∃ Y : gM, Y = updM X1 c2 7 ((X1 c2 7) + 1) := ⟨_, rfl⟩
  rw [← eX2] at hR
  refine lv_aload_n hx hb dX3_arrive_34 rfl (lv_at hl 0 rfl) ?_
  refine lv_dup hx hb dX3_arrive_35 rfl ?_
  refine va_get (D := D) (ci := 3) (v := .int (X2 0 13)) (C := RX3) (T := TX3) (N := 14) hx hb hts inX3 hown hK.1 (SR.mk0 hR) 0 rfl rfl 13 (by decide) lk82 (fun _ h9 => h9) rfl dX3_arrive_36 ?_
  refine lv_aload_n hx hb dX3_arrive_39 rfl (lv_at hl 1 rfl) ?_
  refine va_get (D := D) (ci := 5) (v := .ref (σ + (c1 + 1))) (C := RX5) (T := TX5) (N := 14) hx hb hts inX5 hown hK.1 (SR.mk1 hR (c := c1) hc1 (bS_5 hk1)) 0 rfl rfl 1 (by decide) lk125 (fun _ h9 => h9) rfl dX3_arrive_40 ?_
  refine va_get (D := D) (ci := 7) (v := .int (X2 (c1 + 1) 0)) (C := RX7) (T := TX7) (N := 5) hx hb hts inX7 hown hK.1 (SR.mk1 hR (c := c1 + 1) (kd_5 c1 hc1 hk1).1 (bS_7 (kd_5 c1 hc1 hk1).2)) 0 rfl rfl 0 (by decide) lk267 (fun _ h9 => h9) rfl dX3_arrive_43 ?_
  refine lv_ixor hx hb dX3_arrive_46 ?_
  refine gm_put (v := .int ((X2 0 13) ^^^ (X2 (c1 + 1) 0))) (ty := .int) (ci := 3) (C := RX3) (T := TX3) (N := 14) hx hb hts inX3 tyX3 tyX3_ok nmX3 hown hK.1 hR injS hS (a := 0) (by decide) rfl (bS_3 (by decide)) rfl 13 (by decide) lk82 (fun _ h9 => h9) rfl (by decide +kernel) rfl rfl (Nat.le_of_ble_eq_true rfl) (j := 13) (x := (X2 0 13) ^^^ (X2 (c1 + 1) 0)) (by rw [bS_3 (by decide)]; rfl) dX3_arrive_47 (fun H locs hR hS => ?_)
  obtain ⟨X3, eX3⟩ : ∃ Y : gM, Y = updM X2 0 13 ((X2 0 13) ^^^ (X2 (c1 + 1) 0)) := ⟨_, rfl⟩
  rw [← eX3] at hR
  refine lv_aload_n hx hb dX3_arrive_50 rfl (lv_at hl 0 rfl) ?_
  refine lv_dup hx hb dX3_arrive_51 rfl ?_
  refine va_get (D := D) (ci := 3) (v := .int (X3 0 11)) (C := RX3) (T := TX3) (N := 14) hx hb hts inX3 hown hK.1 (SR.mk0 hR) 0 rfl rfl 11 (by decide) lk76 (fun _ h9 => h9) rfl dX3_arrive_52 ?_
  refine lv_aload_n hx hb dX3_arrive_55 rfl (lv_at hl 1 rfl) ?_
  refine va_get (D := D) (ci := 5) (v := .int (X3 c1 3)) (C := RX5) (T := TX5) (N := 14) hx hb hts inX5 hown hK.1 (SR.mk1 hR (c := c1) hc1 (bS_5 hk1)) 0 rfl rfl 3 (by decide) lk163 (fun _ h9 => h9) rfl dX3_arrive_56 ?_
  refine lv_iadd hx hb dX3_arrive_59 ?_
  refine gm_put (v := .int ((X3 0 11) + (X3 c1 3))) (ty := .int) (ci := 3) (C := RX3) (T := TX3) (N := 14) hx hb hts inX3 tyX3 tyX3_ok nmX3 hown hK.1 hR injS hS (a := 0) (by decide) rfl (bS_3 (by decide)) rfl 11 (by decide) lk76 (fun _ h9 => h9) rfl (by decide +kernel) rfl rfl (Nat.le_of_ble_eq_true rfl) (j := 11) (x := (X3 0 11) + (X3 c1 3)) (by rw [bS_3 (by decide)]; rfl) dX3_arrive_60 (fun H locs hR hS => ?_)
  obtain ⟨X4, eX4⟩ : ∃ Y : gM, Y = updM X3 0 11 ((X3 0 11) + (X3 c1 3)) := ⟨_, rfl⟩
  rw [← eX4] at hR
  refine lv_aload_n hx hb dX3_arrive_63 rfl (lv_at hl 1 rfl) ?_
  refine lv_iconst (v := 3) hx hb dX3_arrive_64 (by decide) ?_
  refine lv_aload_n hx hb dX3_arrive_65 rfl (lv_at hl 2 rfl) ?_
  refine va_get (D := D) (ci := 4) (v := .int (nI (10 * nLin c2 + nSta c2))) (C := RX4) (T := TX4) (N := 10) hx hb hts inX4 hown hK.1 (SR.mk1 hR (c := c2) hc2 (bS_4 hk2)) 0 rfl rfl 1 (by decide) lk146 (fun _ h9 => h9) rfl dX3_arrive_66 ?_
  refine lv_aload_n hx hb dX3_arrive_69 rfl (lv_at hl 0 rfl) ?_
  refine va_get (D := D) (ci := 3) (v := .int (X4 0 7)) (C := RX3) (T := TX3) (N := 14) hx hb hts inX3 hown hK.1 (SR.mk0 hR) 0 rfl rfl 7 (by decide) lk70 (fun _ h9 => h9) rfl dX3_arrive_70 ?_
  refine gm_cv (gm_call (As := [.int 3, .int (nI (10 * nLin c2 + nSta c2)), .int (X4 0 7)]) (rest := []) (ci := 5) (q := (RX5, TX5, 14)) ⟨hx, hb, hml, hown, hts⟩ hK (c_X5_finish l D cy σ X4 c1 3 (nI (10 * nLin c2 + nSta c2)) (X4 0 7) hc1 hk1) (cwV 3 hts gX3_arrive_X5_finish rfl rfl rfl (by decide +kernel) ⟨Nat.le_of_ble_eq_true rfl, Nat.le_of_ble_eq_true rfl⟩) (SR.mk1 hR (c := c1) hc1 (bS_5 hk1)) rfl hR rfl hl.1 rfl (Nat.le_of_ble_eq_true rfl) dX3_arrive_73 (Nat.zero_le _) (Nat.zero_le _)) hS (fun _ h => h) (fun H locs hR _ _ hS => ?_)
  obtain ⟨X5, eX5⟩ : ∃ Y : gM, Y = p_X5_finish X4 c1 3 (nI (10 * nLin c2 + nSta c2)) (X4 0 7) := ⟨_, rfl⟩
  rw [← eX5] at hR
  exact gm_vret hx hb hr hlocks hS (by (try simp only [p_X3_arrive, ← eX1, ← eX2, ← eX3, ← eX4, ← eX5]); exact hR) dX3_arrive_76
