def f_X3_shoves (X : gM) (c1 : Nat) (c2 : Nat) : Int32 :=
  if X (c1 + 1) 1 ≤ X (c2 + 1) 1 then
    0
  else
    if (X 0 7) - (X c1 12) < X 0 9 then
      0
    else
      1
set_option maxHeartbeats 4000000 in
set_option maxRecDepth 100000 in
theorem c_X3_shoves (l : Launch) (D : va_G) (cy : Nat → ClassId) (σ : Nat) (X : gM) (c1 : Nat) (c2 : Nat) (hc1 : c1 < 123) (hk1 : kdS c1 = 5) (hc2 : c2 < 123) (hk2 : kdS c2 = 5) : Met l yX3_shoves wsX3_shoves ({ frames := 0, cells := 0, slots := 0, locals := 0 }) (gP [.ref σ, .ref (σ + c1), .ref (σ + c2)] D cy (SR D cy σ X)) (gQi (f_X3_shoves X c1 c2) (fun _ => True) gNo) 0 0 gNo := by
  refine gm_met (cc := cX3_shoves) (maxL := 3) (ret := (some .boolean)) [.ref σ, .ref (σ + c1), .ref (σ + c2)] (by decide) rfl (Nat.le_of_ble_eq_true rfl) ?_
  intro p e s m args below meth c0 ls C hR hl
  obtain ⟨hx, hb, hr, hts, hown, hlocks, hml, hK⟩ := C
  have hl : lv_has ls 3 [(0, .ref σ), (1, .ref (σ + c1)), (2, .ref (σ + c2))] := hl
  have hS : va_S gNo s.heap s.heap [] := va_S.rf
  have lk125 := hts (.fieldLink RX3 125 "MercuryLine$Ticket" "trip" "LMercuryLine$Trip;") (by decide +kernel)
  have inX5 : ∀ w ∈ u_ws RX5 TX5 14, w ∈ wsX3_shoves := by decide +kernel
  have lk129 := hts (.fieldLink RX3 129 "MercuryLine$Trip" "kind" "I") (by decide +kernel)
  have inX7 : ∀ w ∈ u_ws RX7 TX7 5, w ∈ wsX3_shoves := by decide +kernel
  have lk70 := hts (.fieldLink RX3 70 "MercuryLine$State" "tick" "I") (by decide +kernel)
  have inX3 : ∀ w ∈ u_ws RX3 TX3 14, w ∈ wsX3_shoves := by decide +kernel
  have lk298 := hts (.fieldLink RX3 298 "MercuryLine$Ticket" "cameIn" "I") (by decide +kernel)
  have lk46 := hts (.fieldLink RX3 46 "MercuryLine$State" "patience" "I") (by decide +kernel)
  refine lv_aload_n hx hb dX3_shoves_0 rfl (lv_at hl 1 rfl) ?_
  refine va_get (D := D) (ci := 5) (v := .ref (σ + (c1 + 1))) (C := RX5) (T := TX5) (N := 14) hx hb hts inX5 hown hK.1 (SR.mk1 hR (c := c1) hc1 (bS_5 hk1)) 0 rfl rfl 1 (by decide) lk125 (fun _ h9 => h9) rfl dX3_shoves_1 ?_
  refine va_get (D := D) (ci := 7) (v := .int (X (c1 + 1) 1)) (C := RX7) (T := TX7) (N := 5) hx hb hts inX7 hown hK.1 (SR.mk1 hR (c := c1 + 1) (kd_5 c1 hc1 hk1).1 (bS_7 (kd_5 c1 hc1 hk1).2)) 0 rfl rfl 1 (by decide) lk129 (fun _ h9 => h9) rfl dX3_shoves_4 ?_
  refine lv_aload_n hx hb dX3_shoves_7 rfl (lv_at hl 2 rfl) ?_
  refine va_get (D := D) (ci := 5) (v := .ref (σ + (c2 + 1))) (C := RX5) (T := TX5) (N := 14) hx hb hts inX5 hown hK.1 (SR.mk1 hR (c := c2) hc2 (bS_5 hk2)) 0 rfl rfl 1 (by decide) lk125 (fun _ h9 => h9) rfl dX3_shoves_8 ?_
  refine va_get (D := D) (ci := 7) (v := .int (X (c2 + 1) 1)) (C := RX7) (T := TX7) (N := 5) hx hb hts inX7 hown hK.1 (SR.mk1 hR (c := c2 + 1) (kd_5 c2 hc2 hk2).1 (bS_7 (kd_5 c2 hc2 hk2).2)) 0 rfl rfl 1 (by decide) lk129 (fun _ h9 => h9) rfl dX3_shoves_11 ?_
  refine lv_icmp_le (tgt := 37) hx hb dX3_shoves_14 (by decide) (fun c_1 => ?_) (fun c_1 => ?_)
  · refine lv_iconst (v := 0) hx hb dX3_shoves_37 (by decide) ?_
    exact gm_zret hx hb hr hlocks rfl hS (by (try simp only [f_X3_shoves, ↓if_pos c_1]); (try rfl)) trivial dX3_shoves_38
  · refine lv_aload_n hx hb dX3_shoves_17 rfl (lv_at hl 0 rfl) ?_
    refine va_get (D := D) (ci := 3) (v := .int (X 0 7)) (C := RX3) (T := TX3) (N := 14) hx hb hts inX3 hown hK.1 (SR.mk0 hR) 0 rfl rfl 7 (by decide) lk70 (fun _ h9 => h9) rfl dX3_shoves_18 ?_
    refine lv_aload_n hx hb dX3_shoves_21 rfl (lv_at hl 1 rfl) ?_
    refine va_get (D := D) (ci := 5) (v := .int (X c1 12)) (C := RX5) (T := TX5) (N := 14) hx hb hts inX5 hown hK.1 (SR.mk1 hR (c := c1) hc1 (bS_5 hk1)) 0 rfl rfl 12 (by decide) lk298 (fun _ h9 => h9) rfl dX3_shoves_22 ?_
    refine lv_isub hx hb dX3_shoves_25 ?_
    refine lv_aload_n hx hb dX3_shoves_26 rfl (lv_at hl 0 rfl) ?_
    refine va_get (D := D) (ci := 3) (v := .int (X 0 9)) (C := RX3) (T := TX3) (N := 14) hx hb hts inX3 hown hK.1 (SR.mk0 hR) 0 rfl rfl 9 (by decide) lk46 (fun _ h9 => h9) rfl dX3_shoves_27 ?_
    refine lv_icmp_lt (tgt := 37) hx hb dX3_shoves_30 (by decide) (fun c_2 => ?_) (fun c_2 => ?_)
    · refine lv_iconst (v := 0) hx hb dX3_shoves_37 (by decide) ?_
      exact gm_zret hx hb hr hlocks rfl hS (by (try simp only [f_X3_shoves, ↓if_neg c_1, ↓if_pos c_2]); (try rfl)) trivial dX3_shoves_38
    · refine lv_iconst (v := 1) hx hb dX3_shoves_33 (by decide) ?_
      refine lv_goto (tgt := 38) hx hb dX3_shoves_34 (by decide) ?_
      exact gm_zret hx hb hr hlocks rfl hS (by (try simp only [f_X3_shoves, ↓if_neg c_1, ↓if_neg c_2]); (try rfl)) trivial dX3_shoves_38
