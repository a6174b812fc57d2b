def p_X3_withdraw (X : gM) (c1 : Nat) : Int32 × gM :=
  if X c1 4 = 1 then
    let X4 := p_X0_setRider X (f_X3_lineOf X (X c1 5)) (X c1 6) (-5)
    let X5 := updM X4 0 12 ((X4 0 12) + ((X c1 3) / 2))
    let X6 := updM X5 0 11 ((X5 0 11) + ((X5 c1 3) - ((X c1 3) / 2)))
    let X7 := p_X5_finish X6 c1 8 (-5) (X6 0 7)
    ((X c1 3) / 2, X7)
  else
    let X1 := updM X 0 12 ((X 0 12) + (X c1 3))
    let X2 := updM X1 0 11 ((X1 0 11) + ((X1 c1 3) - (X c1 3)))
    let X3 := p_X5_finish X2 c1 8 (-5) (X2 0 7)
    (X c1 3, X3)
set_option maxHeartbeats 4000000 in
set_option maxRecDepth 100000 in
theorem c_X3_withdraw (l : Launch) (D : va_G) (cy : Nat → ClassId) (σ : Nat) (X : gM) (c1 : Nat) (hc1 : c1 < 123) (hk1 : kdS c1 = 5) : Met l yX3_withdraw wsX3_withdraw ({ frames := 2, cells := 0, slots := 0, locals := 44 }) (gP [.ref σ, .ref (σ + c1)] D cy (SR D cy σ X)) (gQi (p_X3_withdraw X c1).1 (SR D cy σ (p_X3_withdraw X c1).2) (SA σ)) 0 0 (SA σ) := by
  refine gm_met (cc := cX3_withdraw) (maxL := 3) (ret := (some .int)) [.ref σ, .ref (σ + c1)] (by decide) rfl (Nat.le_of_ble_eq_true rfl) ?_
  intro p e s m args below meth c0 ls C hR hl
  obtain ⟨hx, hb, hr, hts, hown, hlocks, hml, hK⟩ := C
  have hl : lv_has ls 3 [(0, .ref σ), (1, .ref (σ + c1))] := hl
  have hS : va_S (SA σ) s.heap s.heap [] := va_S.rf
  have lk163 := hts (.fieldLink RX3 163 "MercuryLine$Ticket" "paid" "I") (by decide +kernel)
  have inX5 : ∀ w ∈ u_ws RX5 TX5 14, w ∈ wsX3_withdraw := by decide +kernel
  have lk112 := hts (.fieldLink RX3 112 "MercuryLine$Ticket" "state" "I") (by decide +kernel)
  have lk79 := hts (.fieldLink RX3 79 "MercuryLine$State" "refunded" "I") (by decide +kernel)
  have inX3 : ∀ w ∈ u_ws RX3 TX3 14, w ∈ wsX3_withdraw := by decide +kernel
  have lk76 := hts (.fieldLink RX3 76 "MercuryLine$State" "earned" "I") (by decide +kernel)
  have lk70 := hts (.fieldLink RX3 70 "MercuryLine$State" "tick" "I") (by decide +kernel)
  have lk119 := hts (.fieldLink RX3 119 "MercuryLine$Ticket" "line" "I") (by decide +kernel)
  have lk164 := hts (.fieldLink RX3 164 "MercuryLine$Ticket" "slot" "I") (by decide +kernel)
  refine lv_aload_n hx hb dX3_withdraw_0 rfl (lv_at hl 1 rfl) ?_
  refine va_get (D := D) (ci := 5) (v := .int (X c1 3)) (C := RX5) (T := TX5) (N := 14) hx hb hts inX5 hown hK.1 (SR.mk1 hR (c := c1) hc1 (bS_5 hk1)) 0 rfl rfl 3 (by decide) lk163 (fun _ h9 => h9) rfl dX3_withdraw_1 ?_
  refine lv_istore_n (lv' := [(2, .int (X c1 3)), (0, .ref σ), (1, .ref (σ + c1))]) hx hb dX3_withdraw_4 rfl hl (by decide) rfl (fun ls hl => ?_)
  refine lv_aload_n hx hb dX3_withdraw_5 rfl (lv_at hl 2 rfl) ?_
  refine va_get (D := D) (ci := 5) (v := .int (X c1 4)) (C := RX5) (T := TX5) (N := 14) hx hb hts inX5 hown hK.1 (SR.mk1 hR (c := c1) hc1 (bS_5 hk1)) 0 rfl rfl 4 (by decide) lk112 (fun _ h9 => h9) rfl dX3_withdraw_6 ?_
  refine lv_iconst (v := 1) hx hb dX3_withdraw_9 (by decide) ?_
  refine lv_icmp_ne (tgt := 37) hx hb dX3_withdraw_10 (by decide) (fun c_1 => ?_) (fun c_1 => ?_)
  · refine lv_aload_n hx hb dX3_withdraw_37 rfl (lv_at hl 1 rfl) ?_
    refine lv_dup hx hb dX3_withdraw_38 rfl ?_
    refine va_get (D := D) (ci := 3) (v := .int (X 0 12)) (C := RX3) (T := TX3) (N := 14) hx hb hts inX3 hown hK.1 (SR.mk0 hR) 0 rfl rfl 12 (by decide) lk79 (fun _ h9 => h9) rfl dX3_withdraw_39 ?_
    refine lv_iload_n hx hb dX3_withdraw_42 rfl (lv_at hl 0 rfl) ?_
    refine lv_iadd hx hb dX3_withdraw_43 ?_
    refine gm_put (v := .int ((X 0 12) + (X c1 3))) (ty := .int) (ci := 3) (C := RX3) (T := TX3) (N := 14) hx hb hts inX3 tyX3 tyX3_ok nmX3 hown hK.1 hR injS hS (a := 0) (by decide) rfl (bS_3 (by decide)) rfl 12 (by decide) lk79 (fun _ h9 => h9) rfl (by decide +kernel) rfl rfl (Nat.le_of_ble_eq_true rfl) (j := 12) (x := (X 0 12) + (X c1 3)) (by rw [bS_3 (by decide)]; rfl) dX3_withdraw_44 (fun H locs hR hS => ?_)
    obtain ⟨X1, eX1⟩ : ∃ Y : gM, Y = updM X 0 12 ((X 0 12) + (X c1 3)) := ⟨_, rfl⟩
    rw [← eX1] at hR
    refine lv_aload_n hx hb dX3_withdraw_47 rfl (lv_at hl 1 rfl) ?_
    refine lv_dup hx hb dX3_withdraw_48 rfl ?_
    refine va_get (D := D) (ci := 3) (v := .int (X1 0 11)) (C := RX3) (T := TX3) (N := 14) hx hb hts inX3 hown hK.1 (SR.mk0 hR) 0 rfl rfl 11 (by decide) lk76 (fun _ h9 => h9) rfl dX3_withdraw_49 ?_
    refine lv_aload_n hx hb dX3_withdraw_52 rfl (lv_at hl 2 rfl) ?_
    refine va_get (D := D) (ci := 5) (v := .int (X1 c1 3)) (C := RX5) (T := TX5) (N := 14) hx hb hts inX5 hown hK.1 (SR.mk1 hR (c := c1) hc1 (bS_5 hk1)) 0 rfl rfl 3 (by decide) lk163 (fun _ h9 => h9) rfl dX3_withdraw_53 ?_
    refine lv_iload_n hx hb dX3_withdraw_56 rfl (lv_at hl 0 rfl) ?_
    refine lv_isub hx hb dX3_withdraw_57 ?_
    refine lv_iadd hx hb dX3_withdraw_58 ?_
    refine gm_put (v := .int ((X1 0 11) + ((X1 c1 3) - (X c1 3)))) (ty := .int) (ci := 3) (C := RX3) (T := TX3) (N := 14) hx hb hts inX3 tyX3 tyX3_ok nmX3 hown hK.1 hR injS hS (a := 0) (by decide) rfl (bS_3 (by decide)) rfl 11 (by decide) lk76 (fun _ h9 => h9) rfl (by decide +kernel) rfl rfl (Nat.le_of_ble_eq_true rfl) (j := 11) (x := (X1 0 11) + ((X1 c1 3) - (X c1 3))) (by rw [bS_3 (by decide)]; rfl) dX3_withdraw_59 (fun H locs hR hS => ?_)
    obtain ⟨X2, eX2⟩ : ∃ Y : gM, Y = updM X1 0 11 ((X1 0 11) + ((X1 c1 3) - (X c1 3))) := ⟨_, rfl⟩
    rw [← eX2] at hR
    refine lv_aload_n hx hb dX3_withdraw_62 rfl (lv_at hl 2 rfl) ?_
    refine lv_bipush (v := 8) hx hb dX3_withdraw_63 (by decide) ?_
    refine lv_bipush (v := (-5)) hx hb dX3_withdraw_65 (by decide) ?_
    refine lv_aload_n hx hb dX3_withdraw_67 rfl (lv_at hl 1 rfl) ?_
    refine va_get (D := D) (ci := 3) (v := .int (X2 0 7)) (C := RX3) (T := TX3) (N := 14) hx hb hts inX3 hown hK.1 (SR.mk0 hR) 0 rfl rfl 7 (by decide) lk70 (fun _ h9 => h9) rfl dX3_withdraw_68 ?_
    refine gm_cv (gm_call (As := [.int 8, .int (-5), .int (X2 0 7)]) (rest := []) (ci := 5) (q := (RX5, TX5, 14)) ⟨hx, hb, hml, hown, hts⟩ hK (c_X5_finish l D cy σ X2 c1 8 (-5) (X2 0 7) hc1 hk1) (cwV 3 hts gX3_withdraw_X5_finish rfl rfl rfl (by decide +kernel) ⟨Nat.le_of_ble_eq_true rfl, Nat.le_of_ble_eq_true rfl⟩) (SR.mk1 hR (c := c1) hc1 (bS_5 hk1)) rfl hR rfl hl.1 rfl (Nat.le_of_ble_eq_true rfl) dX3_withdraw_71 (Nat.zero_le _) (Nat.zero_le _)) hS (fun _ h => h) (fun H locs hR _ _ hS => ?_)
    obtain ⟨X3, eX3⟩ : ∃ Y : gM, Y = p_X5_finish X2 c1 8 (-5) (X2 0 7) := ⟨_, rfl⟩
    rw [← eX3] at hR
    refine lv_iload_n hx hb dX3_withdraw_74 rfl (lv_at hl 0 rfl) ?_
    exact gm_iret hx hb hr hlocks hS (by (try simp only [p_X3_withdraw, ↓if_neg c_1, ← eX1, ← eX2, ← eX3]); (try rfl)) (by (try simp only [p_X3_withdraw, ↓if_neg c_1, ← eX1, ← eX2, ← eX3]); exact hR) dX3_withdraw_75
  · refine lv_aload_n hx hb dX3_withdraw_13 rfl (lv_at hl 2 rfl) ?_
    refine va_get (D := D) (ci := 5) (v := .int (X c1 3)) (C := RX5) (T := TX5) (N := 14) hx hb hts inX5 hown hK.1 (SR.mk1 hR (c := c1) hc1 (bS_5 hk1)) 0 rfl rfl 3 (by decide) lk163 (fun _ h9 => h9) rfl dX3_withdraw_14 ?_
    refine lv_iconst (v := 2) hx hb dX3_withdraw_17 (by decide) ?_
    refine lv_idiv hx hb dX3_withdraw_18 (by decide) ?_
    refine lv_istore_n (lv' := [(2, .int ((X c1 3) / 2)), (0, .ref σ), (1, .ref (σ + c1))]) hx hb dX3_withdraw_19 rfl hl (by decide) rfl (fun ls hl => ?_)
    refine lv_aload_n hx hb dX3_withdraw_20 rfl (lv_at hl 1 rfl) ?_
    refine lv_aload_n hx hb dX3_withdraw_21 rfl (lv_at hl 2 rfl) ?_
    refine va_get (D := D) (ci := 5) (v := .int (X c1 5)) (C := RX5) (T := TX5) (N := 14) hx hb hts inX5 hown hK.1 (SR.mk1 hR (c := c1) hc1 (bS_5 hk1)) 0 rfl rfl 5 (by decide) lk119 (fun _ h9 => h9) rfl dX3_withdraw_22 ?_
    refine gm_cq (gm_call (As := [.int (X c1 5)]) (rest := []) (ci := 3) (q := (RX3, TX3, 14)) ⟨hx, hb, hml, hown, hts⟩ hK (c_X3_lineOf l D cy σ X (X c1 5)) (cwV 1 hts gX3_withdraw_X3_lineOf rfl rfl rfl (by decide +kernel) ⟨Nat.le_of_ble_eq_true rfl, Nat.le_of_ble_eq_true rfl⟩) (SR.mk0 hR) rfl hR rfl hl.1 rfl (Nat.le_of_ble_eq_true rfl) dX3_withdraw_25 (Nat.zero_le _) (Nat.zero_le _)) hS (fun _ h => h.elim) (fun H locs _ _ hfr hS => ?_)
    have hR := gRep.keep hR hfr (fun _ _ h => h)
    refine W.eq (g2 := F0 m 28 ls [.ref (σ + (f_X3_lineOf X (X c1 5)))]) rfl ?_
    refine lv_aload_n hx hb dX3_withdraw_28 rfl (lv_at hl 2 rfl) ?_
    refine va_get (D := D) (ci := 5) (v := .int (X c1 6)) (C := RX5) (T := TX5) (N := 14) hx hb hts inX5 hown hK.1 (SR.mk1 hR (c := c1) hc1 (bS_5 hk1)) 0 rfl rfl 6 (by decide) lk164 (fun _ h9 => h9) rfl dX3_withdraw_29 ?_
    refine lv_bipush (v := (-5)) hx hb dX3_withdraw_32 (by decide) ?_
    refine gm_cv (gm_call (As := [.int (X c1 6), .int (-5)]) (rest := []) (ci := 0) (q := (RX0, TX0, 10)) ⟨hx, hb, hml, hown, hts⟩ hK (c_X0_setRider l D cy σ X (f_X3_lineOf X (X c1 5)) (X c1 6) (-5) (fk_X3_lineOf X (X c1 5)).1 (fk_X3_lineOf X (X c1 5)).2) (cwV 2 hts gX3_withdraw_X0_setRider rfl rfl rfl (by decide +kernel) ⟨Nat.le_of_ble_eq_true rfl, Nat.le_of_ble_eq_true rfl⟩) (SR.mk1 hR (c := f_X3_lineOf X (X c1 5)) (fk_X3_lineOf X (X c1 5)).1 (bS_0 (fk_X3_lineOf X (X c1 5)).2)) rfl hR rfl hl.1 rfl (Nat.le_of_ble_eq_true rfl) dX3_withdraw_34 (Nat.zero_le _) (Nat.zero_le _)) hS (fun _ h => h) (fun H locs hR _ _ hS => ?_)
    obtain ⟨X4, eX4⟩ : ∃ Y : gM, Y = p_X0_setRider X (f_X3_lineOf X (X c1 5)) (X c1 6) (-5) := ⟨_, rfl⟩
    rw [← eX4] at hR
    refine lv_aload_n hx hb dX3_withdraw_37 rfl (lv_at hl 1 rfl) ?_
    refine lv_dup hx hb dX3_withdraw_38 rfl ?_
    refine va_get (D := D) (ci := 3) (v := .int (X4 0 12)) (C := RX3) (T := TX3) (N := 14) hx hb hts inX3 hown hK.1 (SR.mk0 hR) 0 rfl rfl 12 (by decide) lk79 (fun _ h9 => h9) rfl dX3_withdraw_39 ?_
    refine lv_iload_n hx hb dX3_withdraw_42 rfl (lv_at hl 0 rfl) ?_
    refine lv_iadd hx hb dX3_withdraw_43 ?_
    refine gm_put (v := .int ((X4 0 12) + ((X c1 3) / 2))) (ty := .int) (ci := 3) (C := RX3) (T := TX3) (N := 14) hx hb hts inX3 tyX3 tyX3_ok nmX3 hown hK.1 hR injS hS (a := 0) (by decide) rfl (bS_3 (by decide)) rfl 12 (by decide) lk79 (fun _ h9 => h9) rfl (by decide +kernel) rfl rfl (Nat.le_of_ble_eq_true rfl) (j := 12) (x := (X4 0 12) + ((X c1 3) / 2)) (by rw [bS_3 (by decide)]; rfl) dX3_withdraw_44 (fun H locs hR hS => ?_)
    obtain ⟨X5, eX5⟩ : ∃ Y : gM, Y = updM X4 0 12 ((X4 0 12) + ((X c1 3) / 2)) := ⟨_, rfl⟩
    rw [← eX5] at hR
    refine lv_aload_n hx hb dX3_withdraw_47 rfl (lv_at hl 1 rfl) ?_
    refine lv_dup hx hb dX3_withdraw_48 rfl ?_
    refine va_get (D := D) (ci := 3) (v := .int (X5 0 11)) (C := RX3) (T := TX3) (N := 14) hx hb hts inX3 hown hK.1 (SR.mk0 hR) 0 rfl rfl 11 (by decide) lk76 (fun _ h9 => h9) rfl dX3_withdraw_49 ?_
    refine lv_aload_n hx hb dX3_withdraw_52 rfl (lv_at hl 2 rfl) ?_
    refine va_get (D := D) (ci := 5) (v := .int (X5 c1 3)) (C := RX5) (T := TX5) (N := 14) hx hb hts inX5 hown hK.1 (SR.mk1 hR (c := c1) hc1 (bS_5 hk1)) 0 rfl rfl 3 (by decide) lk163 (fun _ h9 => h9) rfl dX3_withdraw_53 ?_
    refine lv_iload_n hx hb dX3_withdraw_56 rfl (lv_at hl 0 rfl) ?_
    refine lv_isub hx hb dX3_withdraw_57 ?_
    refine lv_iadd hx hb dX3_withdraw_58 ?_
    refine gm_put (v := .int ((X5 0 11) + ((X5 c1 3) - ((X c1 3) / 2)))) (ty := .int) (ci := 3) (C := RX3) (T := TX3) (N := 14) hx hb hts inX3 tyX3 tyX3_ok nmX3 hown hK.1 hR injS hS (a := 0) (by decide) rfl (bS_3 (by decide)) rfl 11 (by decide) lk76 (fun _ h9 => h9) rfl (by decide +kernel) rfl rfl (Nat.le_of_ble_eq_true rfl) (j := 11) (x := (X5 0 11) + ((X5 c1 3) - ((X c1 3) / 2))) (by rw [bS_3 (by decide)]; rfl) dX3_withdraw_59 (fun H locs hR hS => ?_)
    obtain ⟨X6, eX6⟩ : ∃ Y : gM, Y = updM X5 0 11 ((X5 0 11) + ((X5 c1 3) - ((X c1 3) / 2))) := ⟨_, rfl⟩
    rw [← eX6] at hR
    refine lv_aload_n hx hb dX3_withdraw_62 rfl (lv_at hl 2 rfl) ?_
    refine lv_bipush (v := 8) hx hb dX3_withdraw_63 (by decide) ?_
    refine lv_bipush (v := (-5)) hx hb dX3_withdraw_65 (by decide) ?_
    refine lv_aload_n hx hb dX3_withdraw_67 rfl (lv_at hl 1 rfl) ?_
    refine va_get (D := D) (ci := 3) (v := .int (X6 0 7)) (C := RX3) (T := TX3) (N := 14) hx hb hts inX3 hown hK.1 (SR.mk0 hR) 0 rfl rfl 7 (by decide) lk70 (fun _ h9 => h9) rfl dX3_withdraw_68 ?_
    refine gm_cv (gm_call (As := [.int 8, .int (-5), .int (X6 0 7)]) (rest := []) (ci := 5) (q := (RX5, TX5, 14)) ⟨hx, hb, hml, hown, hts⟩ hK (c_X5_finish l D cy σ X6 c1 8 (-5) (X6 0 7) hc1 hk1) (cwV 3 hts gX3_withdraw_X5_finish rfl rfl rfl (by decide +kernel) ⟨Nat.le_of_ble_eq_true rfl, Nat.le_of_ble_eq_true rfl⟩) (SR.mk1 hR (c := c1) hc1 (bS_5 hk1)) rfl hR rfl hl.1 rfl (Nat.le_of_ble_eq_true rfl) dX3_withdraw_71 (Nat.zero_le _) (Nat.zero_le _)) hS (fun _ h => h) (fun H locs hR _ _ hS => ?_)
    obtain ⟨X7, eX7⟩ : ∃ Y : gM, Y = p_X5_finish X6 c1 8 (-5) (X6 0 7) := ⟨_, rfl⟩
    rw [← eX7] at hR
    refine lv_iload_n hx hb dX3_withdraw_74 rfl (lv_at hl 0 rfl) ?_
    exact gm_iret hx hb hr hlocks hS (by (try simp only [p_X3_withdraw, ↓if_pos c_1, ← eX4, ← eX5, ← eX6, ← eX7]); (try rfl)) (by (try simp only [p_X3_withdraw, ↓if_pos c_1, ← eX4, ← eX5, ← eX6, ← eX7]); exact hR) dX3_withdraw_75
