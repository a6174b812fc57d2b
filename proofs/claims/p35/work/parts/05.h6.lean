def p_X3_moveLine (X : gM) (c1 : Nat) : gM :=
  let X1 := (p_X0_advance X c1).2
  if (p_X0_advance X c1).1 = (-5) then
    X1
  else
    let X2 := p_X1_write X1 33 ((p_X0_advance X c1).1) (-5) (nI (nLin c1)) (-5) (X1 0 7)
    X2
set_option maxHeartbeats 4000000 in
set_option maxRecDepth 100000 in
theorem c_X3_moveLine (l : Launch) (D : va_G) (cy : Nat → ClassId) (σ : Nat) (X : gM) (c1 : Nat) (hc1 : c1 < 123) (hk1 : kdS c1 = 0) : Met l yX3_moveLine wsX3_moveLine ({ frames := 2, cells := 0, slots := 0, locals := 41 }) (gP [.ref σ, .ref (σ + c1)] D cy (SR D cy σ X)) (gQv (SR D cy σ (p_X3_moveLine X c1)) (SA σ)) 0 0 (SA σ) := by
  refine gm_met (cc := cX3_moveLine) (maxL := 3) (ret := none) [.ref σ, .ref (σ + c1)] (by decide) rfl (Nat.le_of_ble_eq_true rfl) ?_
  intro p e s m args below meth c0 ls C hR hl
  obtain ⟨hx, hb, hr, hts, hown, hlocks, hml, hK⟩ := C
  have hl : lv_has ls 3 [(0, .ref σ), (1, .ref (σ + c1))] := hl
  have hS : va_S (SA σ) s.heap s.heap [] := va_S.rf
  have lk38 := hts (.fieldLink RX3 38 "MercuryLine$State" "log" "LMercuryLine$Log;") (by decide +kernel)
  have inX3 : ∀ w ∈ u_ws RX3 TX3 14, w ∈ wsX3_moveLine := by decide +kernel
  have lk122 := hts (.fieldLink RX3 122 "MercuryLine$Line" "number" "I") (by decide +kernel)
  have inX0 : ∀ w ∈ u_ws RX0 TX0 10, w ∈ wsX3_moveLine := by decide +kernel
  have lk70 := hts (.fieldLink RX3 70 "MercuryLine$State" "tick" "I") (by decide +kernel)
  refine lv_aload_n hx hb dX3_moveLine_0 rfl (lv_at hl 1 rfl) ?_
  refine gm_ci (gm_call (As := []) (rest := []) (ci := 0) (q := (RX0, TX0, 10)) ⟨hx, hb, hml, hown, hts⟩ hK (c_X0_advance l D cy σ X c1 hc1 hk1) (cwV 0 hts gX3_moveLine_X0_advance rfl rfl rfl (by decide +kernel) ⟨Nat.le_of_ble_eq_true rfl, Nat.le_of_ble_eq_true rfl⟩) (SR.mk1 hR (c := c1) hc1 (bS_0 hk1)) rfl hR rfl hl.1 rfl (Nat.le_of_ble_eq_true rfl) dX3_moveLine_1 (Nat.zero_le _) (Nat.zero_le _)) hS (fun _ h => h) (fun H locs hR _ _ hS => ?_)
  obtain ⟨X1, eX1⟩ : ∃ Y : gM, Y = (p_X0_advance X c1).2 := ⟨_, rfl⟩
  rw [← eX1] at hR
  refine lv_istore_n (lv' := [(2, .int ((p_X0_advance X c1).1)), (0, .ref σ), (1, .ref (σ + c1))]) hx hb dX3_moveLine_4 rfl hl (by decide) rfl (fun ls hl => ?_)
  refine lv_iload_n hx hb dX3_moveLine_5 rfl (lv_at hl 0 rfl) ?_
  refine lv_bipush (v := (-5)) hx hb dX3_moveLine_6 (by decide) ?_
  refine lv_icmp_eq (tgt := 31) hx hb dX3_moveLine_8 (by decide) (fun c_1 => ?_) (fun c_1 => ?_)
  · exact gm_vret hx hb hr hlocks hS (by (try simp only [p_X3_moveLine, ↓if_pos c_1, ← eX1]); exact hR) dX3_moveLine_31
  · refine lv_aload_n hx hb dX3_moveLine_11 rfl (lv_at hl 1 rfl) ?_
    refine va_get (D := D) (ci := 3) (v := .ref (σ + 33)) (C := RX3) (T := TX3) (N := 14) hx hb hts inX3 hown hK.1 (SR.mk0 hR) 0 rfl rfl 4 (by decide) lk38 (fun _ h9 => h9) rfl dX3_moveLine_12 ?_
    refine lv_iload_n hx hb dX3_moveLine_15 rfl (lv_at hl 0 rfl) ?_
    refine lv_bipush (v := (-5)) hx hb dX3_moveLine_16 (by decide) ?_
    refine lv_aload_n hx hb dX3_moveLine_18 rfl (lv_at hl 2 rfl) ?_
    refine va_get (D := D) (ci := 0) (v := .int (nI (nLin c1))) (C := RX0) (T := TX0) (N := 10) hx hb hts inX0 hown hK.1 (SR.mk1 hR (c := c1) hc1 (bS_0 hk1)) 0 rfl rfl 0 (by decide) lk122 (fun _ h9 => h9) rfl dX3_moveLine_19 ?_
    refine lv_bipush (v := (-5)) hx hb dX3_moveLine_22 (by decide) ?_
    refine lv_aload_n hx hb dX3_moveLine_24 rfl (lv_at hl 1 rfl) ?_
    refine va_get (D := D) (ci := 3) (v := .int (X1 0 7)) (C := RX3) (T := TX3) (N := 14) hx hb hts inX3 hown hK.1 (SR.mk0 hR) 0 rfl rfl 7 (by decide) lk70 (fun _ h9 => h9) rfl dX3_moveLine_25 ?_
    refine gm_cv (gm_call (As := [.int ((p_X0_advance X c1).1), .int (-5), .int (nI (nLin c1)), .int (-5), .int (X1 0 7)]) (rest := []) (ci := 1) (q := (RX1, TX1, 3)) ⟨hx, hb, hml, hown, hts⟩ hK (c_X1_write l D cy σ X1 33 ((p_X0_advance X c1).1) (-5) (nI (nLin c1)) (-5) (X1 0 7) (by decide) (by decide)) (cwV 5 hts gX3_moveLine_X1_write rfl rfl rfl (by decide +kernel) ⟨Nat.le_of_ble_eq_true rfl, Nat.le_of_ble_eq_true rfl⟩) (SR.mk1 hR (c := 33) (by decide) (bS_1 (by decide))) rfl hR rfl hl.1 rfl (Nat.le_of_ble_eq_true rfl) dX3_moveLine_28 (Nat.zero_le _) (Nat.zero_le _)) hS (fun _ h => h) (fun H locs hR _ _ hS => ?_)
    obtain ⟨X2, eX2⟩ : ∃ Y : gM, Y = p_X1_write X1 33 ((p_X0_advance X c1).1) (-5) (nI (nLin c1)) (-5) (X1 0 7) := ⟨_, rfl⟩
    rw [← eX2] at hR
    exact gm_vret hx hb hr hlocks hS (by (try simp only [p_X3_moveLine, ↓if_neg c_1, ← eX1, ← eX2]); exact hR) dX3_moveLine_31
