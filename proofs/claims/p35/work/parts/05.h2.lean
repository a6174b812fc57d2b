def f_X3_changesLines (X : gM) (c1 : Nat) (c2 : Nat) : Int32 :=
  if isJ c2 = 0 then
    0
  else
    if f_X7_lineTo (X (c1 + 1)) = nI (nLin c2) then
      0
    else
      if 3 ≤ f_X3_hallLength X (f_X3_lineOf X (f_X7_lineTo (X (c1 + 1)))) then
        0
      else
        1
set_option maxHeartbeats 4000000 in
set_option maxRecDepth 100000 in
theorem c_X3_changesLines (l : Launch) (D : va_G) (cy : Nat → ClassId) (σ : Nat) (X : gM) (c1 : Nat) (c2 : Nat) (hc1 : c1 < 123) (hk1 : kdS c1 = 5) (hc2 : c2 < 123) (hk2 : kdS c2 = 4) : Met l yX3_changesLines wsX3_changesLines ({ frames := 1, cells := 0, slots := 0, locals := 23 }) (gP [.ref σ, .ref (σ + c1), .ref (σ + c2)] D cy (SR D cy σ X)) (gQi (f_X3_changesLines X c1 c2) (fun _ => True) gNo) 0 0 gNo := by
  refine gm_met (cc := cX3_changesLines) (maxL := 4) (ret := (some .boolean)) [.ref σ, .ref (σ + c1), .ref (σ + c2)] (by decide) rfl (Nat.le_of_ble_eq_true rfl) ?_
  intro p e s m args below meth c0 ls C hR hl
  obtain ⟨hx, hb, hr, hts, hown, hlocks, hml, hK⟩ := C
  have hl : lv_has ls 4 [(0, .ref σ), (1, .ref (σ + c1)), (2, .ref (σ + c2))] := hl
  have hS : va_S gNo s.heap s.heap [] := va_S.rf
  have lk125 := hts (.fieldLink RX3 125 "MercuryLine$Ticket" "trip" "LMercuryLine$Trip;") (by decide +kernel)
  have inX5 : ∀ w ∈ u_ws RX5 TX5 14, w ∈ wsX3_changesLines := by decide +kernel
  have lk132 := hts (.fieldLink RX3 132 "MercuryLine$Station" "isJunction" "Z") (by decide +kernel)
  have inX4 : ∀ w ∈ u_ws RX4 TX4 10, w ∈ wsX3_changesLines := by decide +kernel
  have lk138 := hts (.fieldLink RX3 138 "MercuryLine$Station" "line" "I") (by decide +kernel)
  refine lv_aload_n hx hb dX3_changesLines_0 rfl (lv_at hl 1 rfl) ?_
  refine va_get (D := D) (ci := 5) (v := .ref (σ + (c1 + 1))) (C := RX5) (T := TX5) (N := 14) hx hb hts inX5 hown hK.1 (SR.mk1 hR (c := c1) hc1 (bS_5 hk1)) 0 rfl rfl 1 (by decide) lk125 (fun _ h9 => h9) rfl dX3_changesLines_1 ?_
  refine gm_ci (gm_call (As := []) (rest := []) (ci := 7) (q := (RX7, TX7, 5)) ⟨hx, hb, hml, hown, hts⟩ hK (c_X7_lineTo l D cy (σ + (c1 + 1)) (X (c1 + 1))) (cwV 0 hts gX3_changesLines_X7_lineTo rfl rfl rfl (by decide +kernel) ⟨Nat.le_of_ble_eq_true rfl, Nat.le_of_ble_eq_true rfl⟩) (SR.mk1 hR (c := c1 + 1) (kd_5 c1 hc1 hk1).1 (bS_7 (kd_5 c1 hc1 hk1).2)) rfl (SR.mk1 hR (c := c1 + 1) (kd_5 c1 hc1 hk1).1 (bS_7 (kd_5 c1 hc1 hk1).2)) rfl hl.1 rfl (Nat.le_of_ble_eq_true rfl) dX3_changesLines_4 (Nat.zero_le _) (Nat.zero_le _)) hS (fun _ h => h.elim) (fun H locs _ _ hfr hS => ?_)
  have hR := gRep.keep hR hfr (fun _ _ h => h)
  refine lv_istore_n (lv' := [(3, .int (f_X7_lineTo (X (c1 + 1)))), (0, .ref σ), (1, .ref (σ + c1)), (2, .ref (σ + c2))]) hx hb dX3_changesLines_7 rfl hl (by decide) rfl (fun ls hl => ?_)
  refine lv_aload_n hx hb dX3_changesLines_8 rfl (lv_at hl 3 rfl) ?_
  refine va_get (D := D) (ci := 4) (v := .int (isJ c2)) (C := RX4) (T := TX4) (N := 10) hx hb hts inX4 hown hK.1 (SR.mk1 hR (c := c2) hc2 (bS_4 hk2)) 0 rfl rfl 2 (by decide) lk132 (fun _ h9 => h9) rfl dX3_changesLines_9 ?_
  refine lv_if_eq (tgt := 40) hx hb dX3_changesLines_12 (by decide) (fun c_1 => ?_) (fun c_1 => ?_)
  · refine lv_iconst (v := 0) hx hb dX3_changesLines_40 (by decide) ?_
    exact gm_zret hx hb hr hlocks rfl hS (by (try simp only [f_X3_changesLines, ↓if_pos c_1]); (try rfl)) trivial dX3_changesLines_41
  · refine lv_iload_n hx hb dX3_changesLines_15 rfl (lv_at hl 0 rfl) ?_
    refine lv_aload_n hx hb dX3_changesLines_16 rfl (lv_at hl 3 rfl) ?_
    refine va_get (D := D) (ci := 4) (v := .int (nI (nLin c2))) (C := RX4) (T := TX4) (N := 10) hx hb hts inX4 hown hK.1 (SR.mk1 hR (c := c2) hc2 (bS_4 hk2)) 0 rfl rfl 0 (by decide) lk138 (fun _ h9 => h9) rfl dX3_changesLines_17 ?_
    refine lv_icmp_eq (tgt := 40) hx hb dX3_changesLines_20 (by decide) (fun c_2 => ?_) (fun c_2 => ?_)
    · refine lv_iconst (v := 0) hx hb dX3_changesLines_40 (by decide) ?_
      exact gm_zret hx hb hr hlocks rfl hS (by (try simp only [f_X3_changesLines, ↓if_neg c_1, ↓if_pos c_2]); (try rfl)) trivial dX3_changesLines_41
    · refine lv_aload_n hx hb dX3_changesLines_23 rfl (lv_at hl 1 rfl) ?_
      refine lv_aload_n hx hb dX3_changesLines_24 rfl (lv_at hl 1 rfl) ?_
      refine lv_iload_n hx hb dX3_changesLines_25 rfl (lv_at hl 0 rfl) ?_
      refine gm_cq (gm_call (As := [.int (f_X7_lineTo (X (c1 + 1)))]) (rest := [.ref σ]) (ci := 3) (q := (RX3, TX3, 14)) ⟨hx, hb, hml, hown, hts⟩ hK (c_X3_lineOf l D cy σ X (f_X7_lineTo (X (c1 + 1)))) (cwV 1 hts gX3_changesLines_X3_lineOf rfl rfl rfl (by decide +kernel) ⟨Nat.le_of_ble_eq_true rfl, Nat.le_of_ble_eq_true rfl⟩) (SR.mk0 hR) rfl hR rfl hl.1 rfl (Nat.le_of_ble_eq_true rfl) dX3_changesLines_26 (Nat.zero_le _) (Nat.zero_le _)) hS (fun _ h => h.elim) (fun H locs _ _ hfr hS => ?_)
      have hR := gRep.keep hR hfr (fun _ _ h => h)
      refine W.eq (g2 := F0 m 29 ls [.ref (σ + (f_X3_lineOf X (f_X7_lineTo (X (c1 + 1))))), .ref σ]) rfl ?_
      refine gm_ci (gm_call (As := [.ref (σ + (f_X3_lineOf X (f_X7_lineTo (X (c1 + 1)))))]) (rest := []) (ci := 3) (q := (RX3, TX3, 14)) ⟨hx, hb, hml, hown, hts⟩ hK (c_X3_hallLength l D cy σ X (f_X3_lineOf X (f_X7_lineTo (X (c1 + 1)))) (fk_X3_lineOf X (f_X7_lineTo (X (c1 + 1)))).1 (fk_X3_lineOf X (f_X7_lineTo (X (c1 + 1)))).2) (cwV 1 hts gX3_changesLines_X3_hallLength rfl rfl rfl (by decide +kernel) ⟨Nat.le_of_ble_eq_true rfl, Nat.le_of_ble_eq_true rfl⟩) (SR.mk0 hR) rfl hR rfl hl.1 rfl (Nat.le_of_ble_eq_true rfl) dX3_changesLines_29 (Nat.zero_le _) (Nat.zero_le _)) hS (fun _ h => h.elim) (fun H locs _ _ hfr hS => ?_)
      have hR := gRep.keep hR hfr (fun _ _ h => h)
      refine lv_iconst (v := 3) hx hb dX3_changesLines_32 (by decide) ?_
      refine lv_icmp_ge (tgt := 40) hx hb dX3_changesLines_33 (by decide) (fun c_3 => ?_) (fun c_3 => ?_)
      · refine lv_iconst (v := 0) hx hb dX3_changesLines_40 (by decide) ?_
        exact gm_zret hx hb hr hlocks rfl hS (by (try simp only [f_X3_changesLines, ↓if_neg c_1, ↓if_neg c_2, ↓if_pos c_3]); (try rfl)) trivial dX3_changesLines_41
      · refine lv_iconst (v := 1) hx hb dX3_changesLines_36 (by decide) ?_
        refine lv_goto (tgt := 41) hx hb dX3_changesLines_37 (by decide) ?_
        exact gm_zret hx hb hr hlocks rfl hS (by (try simp only [f_X3_changesLines, ↓if_neg c_1, ↓if_neg c_2, ↓if_neg c_3]); (try rfl)) trivial dX3_changesLines_41
