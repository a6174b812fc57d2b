theorem kd_2g : ∀ c, c < 123 → kdS c = 2 → 115 ≤ c := by decide +kernel
def f_X3_refusalOf (X : gM) (v1 : Nat → Int32) : Int32 :=
  gOpt (f_X3_stationOf X (v1 2)) (
    (-1)) (fun q1 =>
    gOpt (f_X3_stationOf X (v1 3)) (
      (-1)) (fun q2 =>
      if f_X7_isGood v1 = 0 then
        (-2)
      else
        0))
set_option maxHeartbeats 4000000 in
set_option maxRecDepth 100000 in
theorem c_X3_refusalOf (l : Launch) (D : va_G) (cy : Nat → ClassId) (σ : Nat) (X : gM) (b1 : Nat) (v1 : Nat → Int32)  : Met l yX3_refusalOf wsX3_refusalOf ({ frames := 3, cells := 0, slots := 0, locals := 65 }) (gP [.ref σ, .ref b1] D cy (fun H => SR D cy σ X H ∧ gSrc D σ X H b1 v1)) (gQi (f_X3_refusalOf X v1) (fun _ => True) gNo) 0 0 gNo := by
  refine gm_met (cc := cX3_refusalOf) (maxL := 2) (ret := (some .int)) [.ref σ, .ref b1] (by decide) rfl (Nat.le_of_ble_eq_true rfl) ?_
  intro p e s m args below meth c0 ls C hR hl
  obtain ⟨hx, hb, hr, hts, hown, hlocks, hml, hK⟩ := C
  obtain ⟨hR, hT⟩ := hR
  have hl : lv_has ls 2 [(0, .ref σ), (1, .ref b1)] := hl
  have hS : va_S gNo s.heap s.heap [] := va_S.rf
  have lk97 := hts (.fieldLink RX3 97 "MercuryLine$Trip" "from" "I") (by decide +kernel)
  have inX7 : ∀ w ∈ u_ws RX7 TX7 5, w ∈ wsX3_refusalOf := by decide +kernel
  have lk105 := hts (.fieldLink RX3 105 "MercuryLine$Trip" "to" "I") (by decide +kernel)
  refine lv_aload_n hx hb dX3_refusalOf_0 rfl (lv_at hl 0 rfl) ?_
  refine lv_aload_n hx hb dX3_refusalOf_1 rfl (lv_at hl 1 rfl) ?_
  refine va_get (D := D) (ci := 7) (v := .int (v1 2)) (C := RX7) (T := TX7) (N := 5) hx hb hts inX7 hown hK.1 (gSrc.get (gSrc.now hT (g_Sno hS) (fun _ _ => rfl)) hR) 0 rfl rfl 2 (by decide) lk97 (fun _ h9 => h9) rfl dX3_refusalOf_2 ?_
  refine gm_cq (gm_call (As := [.int (v1 2)]) (rest := []) (ci := 3) (q := (RX3, TX3, 14)) ⟨hx, hb, hml, hown, hts⟩ hK (c_X3_stationOf l D cy σ X (v1 2)) (cwV 1 hts gX3_refusalOf_X3_stationOf rfl rfl rfl (by decide +kernel) ⟨Nat.le_of_ble_eq_true rfl, Nat.le_of_ble_eq_true rfl⟩) (SR.mk0 hR) rfl hR rfl hl.1 rfl (Nat.le_of_ble_eq_true rfl) dX3_refusalOf_5 (Nat.zero_le _) (Nat.zero_le _)) hS (fun _ h => h.elim) (fun H locs _ _ hfr hS => ?_)
  have hR := gRep.keep hR hfr (fun _ _ h => h)
  rcases hq1 : f_X3_stationOf X (v1 2) with _ | q1
  · refine W.eq (g2 := F0 m 8 ls [.null]) rfl ?_
    refine lv_ifnullN (tgt := 22) hx hb dX3_refusalOf_8 (by decide) ?_
    refine lv_iconst (v := (-1)) hx hb dX3_refusalOf_22 (by decide) ?_
    exact gm_iret hx hb hr hlocks hS (by (try simp only [f_X3_refusalOf, ↓gOpt_n hq1]); (try rfl)) trivial dX3_refusalOf_23
  · refine W.eq (g2 := F0 m 8 ls [.ref (σ + q1)]) rfl ?_
    refine lv_ifnull hx hb dX3_refusalOf_8 ?_
    refine lv_aload_n hx hb dX3_refusalOf_11 rfl (lv_at hl 0 rfl) ?_
    refine lv_aload_n hx hb dX3_refusalOf_12 rfl (lv_at hl 1 rfl) ?_
    refine va_get (D := D) (ci := 7) (v := .int (v1 3)) (C := RX7) (T := TX7) (N := 5) hx hb hts inX7 hown hK.1 (gSrc.get (gSrc.now hT (g_Sno hS) (fun _ _ => rfl)) hR) 0 rfl rfl 3 (by decide) lk105 (fun _ h9 => h9) rfl dX3_refusalOf_13 ?_
    refine gm_cq (gm_call (As := [.int (v1 3)]) (rest := []) (ci := 3) (q := (RX3, TX3, 14)) ⟨hx, hb, hml, hown, hts⟩ hK (c_X3_stationOf l D cy σ X (v1 3)) (cwV 1 hts gX3_refusalOf_X3_stationOf rfl rfl rfl (by decide +kernel) ⟨Nat.le_of_ble_eq_true rfl, Nat.le_of_ble_eq_true rfl⟩) (SR.mk0 hR) rfl hR rfl hl.1 rfl (Nat.le_of_ble_eq_true rfl) dX3_refusalOf_16 (Nat.zero_le _) (Nat.zero_le _)) hS (fun _ h => h.elim) (fun H locs _ _ hfr hS => ?_)
    have hR := gRep.keep hR hfr (fun _ _ h => h)
    rcases hq2 : f_X3_stationOf X (v1 3) with _ | q2
    · refine W.eq (g2 := F0 m 19 ls [.null]) rfl ?_
      refine lv_ifnonnullN hx hb dX3_refusalOf_19 ?_
      refine lv_iconst (v := (-1)) hx hb dX3_refusalOf_22 (by decide) ?_
      exact gm_iret hx hb hr hlocks hS (by (try simp only [f_X3_refusalOf, ↓gOpt_s hq1, ↓gOpt_n hq2]); (try rfl)) trivial dX3_refusalOf_23
    · refine W.eq (g2 := F0 m 19 ls [.ref (σ + q2)]) rfl ?_
      refine lv_ifnonnull (tgt := 24) hx hb dX3_refusalOf_19 (by decide) ?_
      refine lv_aload_n hx hb dX3_refusalOf_24 rfl (lv_at hl 1 rfl) ?_
      refine gm_ci (gm_call (As := []) (rest := []) (ci := 7) (q := (RX7, TX7, 5)) ⟨hx, hb, hml, hown, hts⟩ hK (c_X7_isGood l D cy b1 v1) (cwV 0 hts gX3_refusalOf_X7_isGood rfl rfl rfl (by decide +kernel) ⟨Nat.le_of_ble_eq_true rfl, Nat.le_of_ble_eq_true rfl⟩) (gSrc.get (gSrc.now hT (g_Sno hS) (fun _ _ => rfl)) hR) rfl (gSrc.get (gSrc.now hT (g_Sno hS) (fun _ _ => rfl)) hR) rfl hl.1 rfl (Nat.le_of_ble_eq_true rfl) dX3_refusalOf_25 (Nat.zero_le _) (Nat.zero_le _)) hS (fun _ h => h.elim) (fun H locs _ _ hfr hS => ?_)
      have hR := gRep.keep hR hfr (fun _ _ h => h)
      refine lv_if_eq (tgt := 35) hx hb dX3_refusalOf_28 (by decide) (fun c_3 => ?_) (fun c_3 => ?_)
      · refine lv_bipush (v := (-2)) hx hb dX3_refusalOf_35 (by decide) ?_
        exact gm_iret hx hb hr hlocks hS (by (try simp only [f_X3_refusalOf, ↓if_pos c_3, ↓gOpt_s hq1, ↓gOpt_s hq2]); (try rfl)) trivial dX3_refusalOf_37
      · refine lv_iconst (v := 0) hx hb dX3_refusalOf_31 (by decide) ?_
        refine lv_goto (tgt := 37) hx hb dX3_refusalOf_32 (by decide) ?_
        exact gm_iret hx hb hr hlocks hS (by (try simp only [f_X3_refusalOf, ↓if_neg c_3, ↓gOpt_s hq1, ↓gOpt_s hq2]); (try rfl)) trivial dX3_refusalOf_37
def p_X3_admit (X : gM) (v1 : Nat → Int32) : Int32 × gM :=
  if f_X8_within (X 0 5) 0 39 = 0 then
    ((-3), X)
  else
    let X1 := p_X5_issue X (35 + 2 * ((X 0 5).toNatClampNeg)) v1 (f_X3_priceOf X (v1 1) (v1 4)) (X 0 7)
    let X2 := updM X1 0 10 ((X1 0 10) + (f_X3_priceOf X (v1 1) (v1 4)))
    let X3 := updM X2 0 5 ((X2 0 5) + 1)
    (X 0 5, X3)
set_option maxHeartbeats 4000000 in
set_option maxRecDepth 100000 in
theorem c_X3_admit (l : Launch) (D : va_G) (cy : Nat → ClassId) (σ : Nat) (X : gM) (b1 : Nat) (v1 : Nat → Int32) (hne : ∀ n, n < 40 → b1 ≠ σ + (35 + 2 * n + 1)) : Met l yX3_admit wsX3_admit ({ frames := 2, cells := 0, slots := 0, locals := 44 }) (gP [.ref σ, .ref b1] D cy (fun H => SR D cy σ X H ∧ gSrc D σ X H b1 v1)) (gQi (p_X3_admit X v1).1 (SR D cy σ (p_X3_admit X v1).2) (SA σ)) 0 0 (SA σ) := by
  refine gm_met (cc := cX3_admit) (maxL := 4) (ret := (some .int)) [.ref σ, .ref b1] (by decide) rfl (Nat.le_of_ble_eq_true rfl) ?_
  intro p e s m args below meth c0 ls C hR hl
  obtain ⟨hx, hb, hr, hts, hown, hlocks, hml, hK⟩ := C
  obtain ⟨hR, hT⟩ := hR
  have hl : lv_has ls 4 [(0, .ref σ), (1, .ref b1)] := hl
  have hS : va_S (SA σ) s.heap s.heap [] := va_S.rf
  have lk64 := hts (.fieldLink RX3 64 "MercuryLine$State" "ticketCount" "I") (by decide +kernel)
  have inX3 : ∀ w ∈ u_ws RX3 TX3 14, w ∈ wsX3_admit := by decide +kernel
  have lk25 := hts (.fieldLink RX3 25 "MercuryLine$State" "tickets" "[LMercuryLine$Ticket;") (by decide +kernel)
  have lk129 := hts (.fieldLink RX3 129 "MercuryLine$Trip" "kind" "I") (by decide +kernel)
  have inX7 : ∀ w ∈ u_ws RX7 TX7 5, w ∈ wsX3_admit := by decide +kernel
  have lk149 := hts (.fieldLink RX3 149 "MercuryLine$Trip" "laps" "I") (by decide +kernel)
  have lk70 := hts (.fieldLink RX3 70 "MercuryLine$State" "tick" "I") (by decide +kernel)
  have lk73 := hts (.fieldLink RX3 73 "MercuryLine$State" "paid" "I") (by decide +kernel)
  refine lv_aload_n hx hb dX3_admit_0 rfl (lv_at hl 0 rfl) ?_
  refine va_get (D := D) (ci := 3) (v := .int (X 0 5)) (C := RX3) (T := TX3) (N := 14) hx hb hts inX3 hown hK.1 (SR.mk0 hR) 0 rfl rfl 5 (by decide) lk64 (fun _ h9 => h9) rfl dX3_admit_1 ?_
  refine lv_istore_n (lv' := [(2, .int (X 0 5)), (0, .ref σ), (1, .ref b1)]) hx hb dX3_admit_4 rfl hl (by decide) rfl (fun ls hl => ?_)
  refine lv_iload_n hx hb dX3_admit_5 rfl (lv_at hl 0 rfl) ?_
  refine lv_iconst (v := 0) hx hb dX3_admit_6 (by decide) ?_
  refine lv_aload_n hx hb dX3_admit_7 rfl (lv_at hl 1 rfl) ?_
  refine va_get (D := D) (ci := 3) (v := .ref (σ + 31)) (C := RX3) (T := TX3) (N := 14) hx hb hts inX3 hown hK.1 (SR.mk0 hR) 0 rfl rfl 2 (by decide) lk25 (fun _ h9 => h9) rfl dX3_admit_8 ?_
  refine va_alen (v := 40) hx hb hK.1 (SR.mk1 hR (c := 31) (by decide) (bS_25 (by decide))) 0 5 rfl rfl rfl dX3_admit_11 ?_
  refine lv_iconst (v := 1) hx hb dX3_admit_12 (by decide) ?_
  refine lv_isub hx hb dX3_admit_13 ?_
  rw [show (40 - 1 : Int32) = 39 from by decide]
  refine gm_ci (gm_callN (As := [.int (X 0 5), .int 0, .int 39]) (rest := []) ⟨hx, hb, hml, hown, hts⟩ hK (c_X8_within l D cy (X 0 5) 0 39) ⟨va_cnB 3 hts gX3_admit_X8_within_n85 rfl rfl rfl (hK.2.1 (RX3, 85, yX8_within, "MercuryLine") (by decide +kernel)) (hts (.initialized RX8) (by decide +kernel)) (by decide +kernel) ⟨Nat.le_of_ble_eq_true rfl, Nat.le_of_ble_eq_true rfl⟩, hts (.static yX8_within) (by decide +kernel), trivial⟩ trivial rfl hl.1 rfl (Nat.le_of_ble_eq_true rfl) dX3_admit_14 (Nat.zero_le _) (Nat.zero_le _)) hS (fun _ h => h.elim) (fun H locs _ _ hfr hS => ?_)
  have hR := gRep.keep hR hfr (fun _ _ h => h)
  refine lv_if_ne (tgt := 23) hx hb dX3_admit_17 (by decide) (fun c_1 => ?_) (fun c_1 => ?_)
  · refine lv_aload_n hx hb dX3_admit_23 rfl (lv_at hl 1 rfl) ?_
    refine lv_aload_n hx hb dX3_admit_24 rfl (lv_at hl 2 rfl) ?_
    refine va_get (D := D) (ci := 7) (v := .int (v1 1)) (C := RX7) (T := TX7) (N := 5) hx hb hts inX7 hown hK.1 (gSrc.get (gSrc.now hT hS (fun _ _ => rfl)) hR) 0 rfl rfl 1 (by decide) lk129 (fun _ h9 => h9) rfl dX3_admit_25 ?_
    refine lv_aload_n hx hb dX3_admit_28 rfl (lv_at hl 2 rfl) ?_
    refine va_get (D := D) (ci := 7) (v := .int (v1 4)) (C := RX7) (T := TX7) (N := 5) hx hb hts inX7 hown hK.1 (gSrc.get (gSrc.now hT hS (fun _ _ => rfl)) hR) 0 rfl rfl 4 (by decide) lk149 (fun _ h9 => h9) rfl dX3_admit_29 ?_
    refine gm_ci (gm_call (As := [.int (v1 1), .int (v1 4)]) (rest := []) (ci := 3) (q := (RX3, TX3, 14)) ⟨hx, hb, hml, hown, hts⟩ hK (c_X3_priceOf l D cy σ X (v1 1) (v1 4)) (cwV 2 hts gX3_admit_X3_priceOf rfl rfl rfl (by decide +kernel) ⟨Nat.le_of_ble_eq_true rfl, Nat.le_of_ble_eq_true rfl⟩) (SR.mk0 hR) rfl hR rfl hl.1 rfl (Nat.le_of_ble_eq_true rfl) dX3_admit_32 (Nat.zero_le _) (Nat.zero_le _)) hS (fun _ h => h.elim) (fun H locs _ _ hfr hS => ?_)
    have hR := gRep.keep hR hfr (fun _ _ h => h)
    refine lv_istore_n (lv' := [(3, .int (f_X3_priceOf X (v1 1) (v1 4))), (2, .int (X 0 5)), (0, .ref σ), (1, .ref b1)]) hx hb dX3_admit_35 rfl hl (by decide) rfl (fun ls hl => ?_)
    refine lv_aload_n hx hb dX3_admit_36 rfl (lv_at hl 2 rfl) ?_
    refine va_get (D := D) (ci := 3) (v := .ref (σ + 31)) (C := RX3) (T := TX3) (N := 14) hx hb hts inX3 hown hK.1 (SR.mk0 hR) 0 rfl rfl 2 (by decide) lk25 (fun _ h9 => h9) rfl dX3_admit_37 ?_
    refine lv_iload_n hx hb dX3_admit_40 rfl (lv_at hl 1 rfl) ?_
    refine gm_aald (b := (σ + (35 + 2 * ((X 0 5).toNatClampNeg)))) hx hb hK.1 (SR.mk1 hR (c := 31) (by decide) (bS_25 (by decide))) 5 rfl (by
      refine vp_in_iff.mpr ?_
      try simp only [w_ne] at c_1
      simp only [Int32.le_iff_toInt_le, Int32.lt_iff_toInt_lt, ← Int32.toInt_inj, ti_m5, ti_0, ti_1, ti_2, ti_3, ti_4, ti_5, ti_6, ti_12, ti_19, ti_23, ti_24, ti_39, ti_40, ti_59, ti_60] at c_1 ⊢
      omega) rfl dX3_admit_41 ?_
    refine lv_aload_n hx hb dX3_admit_42 rfl (lv_at hl 3 rfl) ?_
    refine lv_iload_n hx hb dX3_admit_43 rfl (lv_at hl 0 rfl) ?_
    refine lv_aload_n hx hb dX3_admit_44 rfl (lv_at hl 2 rfl) ?_
    refine va_get (D := D) (ci := 3) (v := .int (X 0 7)) (C := RX3) (T := TX3) (N := 14) hx hb hts inX3 hown hK.1 (SR.mk0 hR) 0 rfl rfl 7 (by decide) lk70 (fun _ h9 => h9) rfl dX3_admit_45 ?_
    refine gm_cv (gm_call (As := [.ref b1, .int (f_X3_priceOf X (v1 1) (v1 4)), .int (X 0 7)]) (rest := []) (ci := 5) (q := (RX5, TX5, 14)) ⟨hx, hb, hml, hown, hts⟩ hK (c_X5_issue l D cy σ X (35 + 2 * ((X 0 5).toNatClampNeg)) b1 v1 (f_X3_priceOf X (v1 1) (v1 4)) (X 0 7) (kd_T ((X 0 5).toNatClampNeg) (g_vl (by
      refine vp_in_iff.mpr ?_
      try simp only [w_ne] at c_1
      simp only [Int32.le_iff_toInt_le, Int32.lt_iff_toInt_lt, ← Int32.toInt_inj, ti_m5, ti_0, ti_1, ti_2, ti_3, ti_4, ti_5, ti_6, ti_12, ti_19, ti_23, ti_24, ti_39, ti_40, ti_59, ti_60] at c_1 ⊢
      omega))).1 (kd_T ((X 0 5).toNatClampNeg) (g_vl (by
      refine vp_in_iff.mpr ?_
      try simp only [w_ne] at c_1
      simp only [Int32.le_iff_toInt_le, Int32.lt_iff_toInt_lt, ← Int32.toInt_inj, ti_m5, ti_0, ti_1, ti_2, ti_3, ti_4, ti_5, ti_6, ti_12, ti_19, ti_23, ti_24, ti_39, ti_40, ti_59, ti_60] at c_1 ⊢
      omega))).2.1 (hne _ (g_vl (n := 40) (by
      refine vp_in_iff.mpr ?_
      simp only [w_ne] at c_1
      simp only [Int32.le_iff_toInt_le, Int32.lt_iff_toInt_lt, ti_0, ti_3, ti_39, ti_40, ti_4] at c_1 ⊢
      omega)))) (cwV 3 hts gX3_admit_X5_issue rfl rfl rfl (by decide +kernel) ⟨Nat.le_of_ble_eq_true rfl, Nat.le_of_ble_eq_true rfl⟩) (SR.mk1 hR (c := 35 + 2 * ((X 0 5).toNatClampNeg)) (kd_T ((X 0 5).toNatClampNeg) (g_vl (by
      refine vp_in_iff.mpr ?_
      try simp only [w_ne] at c_1
      simp only [Int32.le_iff_toInt_le, Int32.lt_iff_toInt_lt, ← Int32.toInt_inj, ti_m5, ti_0, ti_1, ti_2, ti_3, ti_4, ti_5, ti_6, ti_12, ti_19, ti_23, ti_24, ti_39, ti_40, ti_59, ti_60] at c_1 ⊢
      omega))).1 (bS_5 (kd_T ((X 0 5).toNatClampNeg) (g_vl (by
      refine vp_in_iff.mpr ?_
      try simp only [w_ne] at c_1
      simp only [Int32.le_iff_toInt_le, Int32.lt_iff_toInt_lt, ← Int32.toInt_inj, ti_m5, ti_0, ti_1, ti_2, ti_3, ti_4, ti_5, ti_6, ti_12, ti_19, ti_23, ti_24, ti_39, ti_40, ti_59, ti_60] at c_1 ⊢
      omega))).2.1)) rfl ⟨hR, (gSrc.now hT hS (fun _ _ => rfl))⟩ rfl hl.1 rfl (Nat.le_of_ble_eq_true rfl) dX3_admit_48 (Nat.zero_le _) (Nat.zero_le _)) hS (fun _ h => h) (fun H locs hR _ _ hS => ?_)
    obtain ⟨X1, eX1⟩ : ∃ Y : gM, Y = p_X5_issue X (35 + 2 * ((X 0 5).toNatClampNeg)) v1 (f_X3_priceOf X (v1 1) (v1 4)) (X 0 7) := ⟨_, rfl⟩
    rw [← eX1] at hR
    refine lv_aload_n hx hb dX3_admit_51 rfl (lv_at hl 2 rfl) ?_
    refine lv_dup hx hb dX3_admit_52 rfl ?_
    refine va_get (D := D) (ci := 3) (v := .int (X1 0 10)) (C := RX3) (T := TX3) (N := 14) hx hb hts inX3 hown hK.1 (SR.mk0 hR) 0 rfl rfl 10 (by decide) lk73 (fun _ h9 => h9) rfl dX3_admit_53 ?_
    refine lv_iload_n hx hb dX3_admit_56 rfl (lv_at hl 0 rfl) ?_
    refine lv_iadd hx hb dX3_admit_57 ?_
    refine gm_put (v := .int ((X1 0 10) + (f_X3_priceOf X (v1 1) (v1 4)))) (ty := .int) (ci := 3) (C := RX3) (T := TX3) (N := 14) hx hb hts inX3 tyX3 tyX3_ok nmX3 hown hK.1 hR injS hS (a := 0) (by decide) rfl (bS_3 (by decide)) rfl 10 (by decide) lk73 (fun _ h9 => h9) rfl (by decide +kernel) rfl rfl (Nat.le_of_ble_eq_true rfl) (j := 10) (x := (X1 0 10) + (f_X3_priceOf X (v1 1) (v1 4))) (by rw [bS_3 (by decide)]; rfl) dX3_admit_58 (fun H locs hR hS => ?_)
    obtain ⟨X2, eX2⟩ : ∃ Y : gM, Y = updM X1 0 10 ((X1 0 10) + (f_X3_priceOf X (v1 1) (v1 4))) := ⟨_, rfl⟩
    rw [← eX2] at hR
    refine lv_aload_n hx hb dX3_admit_61 rfl (lv_at hl 2 rfl) ?_
    refine lv_dup hx hb dX3_admit_62 rfl ?_
    refine va_get (D := D) (ci := 3) (v := .int (X2 0 5)) (C := RX3) (T := TX3) (N := 14) hx hb hts inX3 hown hK.1 (SR.mk0 hR) 0 rfl rfl 5 (by decide) lk64 (fun _ h9 => h9) rfl dX3_admit_63 ?_
    refine lv_iconst (v := 1) hx hb dX3_admit_66 (by decide) ?_
    refine lv_iadd hx hb dX3_admit_67 ?_
    refine gm_put (v := .int ((X2 0 5) + 1)) (ty := .int) (ci := 3) (C := RX3) (T := TX3) (N := 14) hx hb hts inX3 tyX3 tyX3_ok nmX3 hown hK.1 hR injS hS (a := 0) (by decide) rfl (bS_3 (by decide)) rfl 5 (by decide) lk64 (fun _ h9 => h9) rfl (by decide +kernel) rfl rfl (Nat.le_of_ble_eq_true rfl) (j := 5) (x := (X2 0 5) + 1) (by rw [bS_3 (by decide)]; rfl) dX3_admit_68 (fun H locs hR hS => ?_)
    obtain ⟨X3, eX3⟩ : ∃ Y : gM, Y = updM X2 0 5 ((X2 0 5) + 1) := ⟨_, rfl⟩
    rw [← eX3] at hR
    refine lv_iload_n hx hb dX3_admit_71 rfl (lv_at hl 1 rfl) ?_
    exact gm_iret hx hb hr hlocks hS (by (try simp only [p_X3_admit, ↓if_neg c_1, ← eX1, ← eX2, ← eX3]); (try rfl)) (by (try simp only [p_X3_admit, ↓if_neg c_1, ← eX1, ← eX2, ← eX3]); exact hR) dX3_admit_72
  · refine lv_bipush (v := (-3)) hx hb dX3_admit_20 (by decide) ?_
    exact gm_iret hx hb hr hlocks hS (by (try simp only [p_X3_admit, ↓if_pos c_1]); (try rfl)) (by (try simp only [p_X3_admit, ↓if_pos c_1]); exact hR) dX3_admit_22
def p_X3_giveOrder (X : gM) (v1 : Nat → Int32) (a2 : Int32) : Int32 × gM :=
  if f_X8_within (X 0 6) 0 3 = 0 then
    ((-3), X)
  else
    let X1 := p_X2_give X (115 + 2 * ((X 0 6).toNatClampNeg)) v1 a2 (X 0 7)
    let X2 := updM X1 0 6 ((X1 0 6) + 1)
    (X 0 6, X2)
set_option maxHeartbeats 4000000 in
set_option maxRecDepth 100000 in
theorem c_X3_giveOrder (l : Launch) (D : va_G) (cy : Nat → ClassId) (σ : Nat) (X : gM) (b1 : Nat) (v1 : Nat → Int32) (a2 : Int32) (hne : ∀ n, n < 4 → b1 ≠ σ + (115 + 2 * n + 1)) : Met l yX3_giveOrder wsX3_giveOrder ({ frames := 2, cells := 0, slots := 0, locals := 44 }) (gP [.ref σ, .ref b1, .int a2] D cy (fun H => SR D cy σ X H ∧ gSrc D σ X H b1 v1)) (gQi (p_X3_giveOrder X v1 a2).1 (SR D cy σ (p_X3_giveOrder X v1 a2).2) (SA σ)) 0 0 (SA σ) := by
  refine gm_met (cc := cX3_giveOrder) (maxL := 4) (ret := (some .int)) [.ref σ, .ref b1, .int a2] (by decide) rfl (Nat.le_of_ble_eq_true rfl) ?_
  intro p e s m args below meth c0 ls C hR hl
  obtain ⟨hx, hb, hr, hts, hown, hlocks, hml, hK⟩ := C
  obtain ⟨hR, hT⟩ := hR
  have hl : lv_has ls 4 [(0, .ref σ), (1, .ref b1), (2, .int a2)] := hl
  have hS : va_S (SA σ) s.heap s.heap [] := va_S.rf
  have lk67 := hts (.fieldLink RX3 67 "MercuryLine$State" "orderCount" "I") (by decide +kernel)
  have inX3 : ∀ w ∈ u_ws RX3 TX3 14, w ∈ wsX3_giveOrder := by decide +kernel
  have lk31 := hts (.fieldLink RX3 31 "MercuryLine$State" "orders" "[LMercuryLine$Order;") (by decide +kernel)
  have lk70 := hts (.fieldLink RX3 70 "MercuryLine$State" "tick" "I") (by decide +kernel)
  refine lv_aload_n hx hb dX3_giveOrder_0 rfl (lv_at hl 0 rfl) ?_
  refine va_get (D := D) (ci := 3) (v := .int (X 0 6)) (C := RX3) (T := TX3) (N := 14) hx hb hts inX3 hown hK.1 (SR.mk0 hR) 0 rfl rfl 6 (by decide) lk67 (fun _ h9 => h9) rfl dX3_giveOrder_1 ?_
  refine lv_istore_n (lv' := [(3, .int (X 0 6)), (0, .ref σ), (1, .ref b1), (2, .int a2)]) hx hb dX3_giveOrder_4 rfl hl (by decide) rfl (fun ls hl => ?_)
  refine lv_iload_n hx hb dX3_giveOrder_5 rfl (lv_at hl 0 rfl) ?_
  refine lv_iconst (v := 0) hx hb dX3_giveOrder_6 (by decide) ?_
  refine lv_aload_n hx hb dX3_giveOrder_7 rfl (lv_at hl 1 rfl) ?_
  refine va_get (D := D) (ci := 3) (v := .ref (σ + 32)) (C := RX3) (T := TX3) (N := 14) hx hb hts inX3 hown hK.1 (SR.mk0 hR) 0 rfl rfl 3 (by decide) lk31 (fun _ h9 => h9) rfl dX3_giveOrder_8 ?_
  refine va_alen (v := 4) hx hb hK.1 (SR.mk1 hR (c := 32) (by decide) (bS_26 (by decide))) 0 2 rfl rfl rfl dX3_giveOrder_11 ?_
  refine lv_iconst (v := 1) hx hb dX3_giveOrder_12 (by decide) ?_
  refine lv_isub hx hb dX3_giveOrder_13 ?_
  rw [show (4 - 1 : Int32) = 3 from by decide]
  refine gm_ci (gm_callN (As := [.int (X 0 6), .int 0, .int 3]) (rest := []) ⟨hx, hb, hml, hown, hts⟩ hK (c_X8_within l D cy (X 0 6) 0 3) ⟨va_cnB 3 hts gX3_giveOrder_X8_within_n85 rfl rfl rfl (hK.2.1 (RX3, 85, yX8_within, "MercuryLine") (by decide +kernel)) (hts (.initialized RX8) (by decide +kernel)) (by decide +kernel) ⟨Nat.le_of_ble_eq_true rfl, Nat.le_of_ble_eq_true rfl⟩, hts (.static yX8_within) (by decide +kernel), trivial⟩ trivial rfl hl.1 rfl (Nat.le_of_ble_eq_true rfl) dX3_giveOrder_14 (Nat.zero_le _) (Nat.zero_le _)) hS (fun _ h => h.elim) (fun H locs _ _ hfr hS => ?_)
  have hR := gRep.keep hR hfr (fun _ _ h => h)
  refine lv_if_ne (tgt := 23) hx hb dX3_giveOrder_17 (by decide) (fun c_1 => ?_) (fun c_1 => ?_)
  · refine lv_aload_n hx hb dX3_giveOrder_23 rfl (lv_at hl 1 rfl) ?_
    refine va_get (D := D) (ci := 3) (v := .ref (σ + 32)) (C := RX3) (T := TX3) (N := 14) hx hb hts inX3 hown hK.1 (SR.mk0 hR) 0 rfl rfl 3 (by decide) lk31 (fun _ h9 => h9) rfl dX3_giveOrder_24 ?_
    refine lv_iload_n hx hb dX3_giveOrder_27 rfl (lv_at hl 0 rfl) ?_
    refine gm_aald (b := (σ + (115 + 2 * ((X 0 6).toNatClampNeg)))) hx hb hK.1 (SR.mk1 hR (c := 32) (by decide) (bS_26 (by decide))) 2 rfl (by
      refine vp_in_iff.mpr ?_
      try simp only [w_ne] at c_1
      simp only [Int32.le_iff_toInt_le, Int32.lt_iff_toInt_lt, ← Int32.toInt_inj, ti_m5, ti_0, ti_1, ti_2, ti_3, ti_4, ti_5, ti_6, ti_12, ti_19, ti_23, ti_24, ti_39, ti_40, ti_59, ti_60] at c_1 ⊢
      omega) rfl dX3_giveOrder_28 ?_
    refine lv_aload_n hx hb dX3_giveOrder_29 rfl (lv_at hl 2 rfl) ?_
    refine lv_iload_n hx hb dX3_giveOrder_30 rfl (lv_at hl 3 rfl) ?_
    refine lv_aload_n hx hb dX3_giveOrder_31 rfl (lv_at hl 1 rfl) ?_
    refine va_get (D := D) (ci := 3) (v := .int (X 0 7)) (C := RX3) (T := TX3) (N := 14) hx hb hts inX3 hown hK.1 (SR.mk0 hR) 0 rfl rfl 7 (by decide) lk70 (fun _ h9 => h9) rfl dX3_giveOrder_32 ?_
    refine gm_cv (gm_call (As := [.ref b1, .int a2, .int (X 0 7)]) (rest := []) (ci := 2) (q := (RX2, TX2, 6)) ⟨hx, hb, hml, hown, hts⟩ hK (c_X2_give l D cy σ X (115 + 2 * ((X 0 6).toNatClampNeg)) b1 v1 a2 (X 0 7) (kd_O ((X 0 6).toNatClampNeg) (g_vl (by
      refine vp_in_iff.mpr ?_
      try simp only [w_ne] at c_1
      simp only [Int32.le_iff_toInt_le, Int32.lt_iff_toInt_lt, ← Int32.toInt_inj, ti_m5, ti_0, ti_1, ti_2, ti_3, ti_4, ti_5, ti_6, ti_12, ti_19, ti_23, ti_24, ti_39, ti_40, ti_59, ti_60] at c_1 ⊢
      omega))).1 (kd_O ((X 0 6).toNatClampNeg) (g_vl (by
      refine vp_in_iff.mpr ?_
      try simp only [w_ne] at c_1
      simp only [Int32.le_iff_toInt_le, Int32.lt_iff_toInt_lt, ← Int32.toInt_inj, ti_m5, ti_0, ti_1, ti_2, ti_3, ti_4, ti_5, ti_6, ti_12, ti_19, ti_23, ti_24, ti_39, ti_40, ti_59, ti_60] at c_1 ⊢
      omega))).2 (hne _ (g_vl (n := 4) (by
      refine vp_in_iff.mpr ?_
      simp only [w_ne] at c_1
      simp only [Int32.le_iff_toInt_le, Int32.lt_iff_toInt_lt, ti_0, ti_3, ti_39, ti_40, ti_4] at c_1 ⊢
      omega)))) (cwV 3 hts gX3_giveOrder_X2_give rfl rfl rfl (by decide +kernel) ⟨Nat.le_of_ble_eq_true rfl, Nat.le_of_ble_eq_true rfl⟩) (SR.mk1 hR (c := 115 + 2 * ((X 0 6).toNatClampNeg)) (kd_O ((X 0 6).toNatClampNeg) (g_vl (by
      refine vp_in_iff.mpr ?_
      try simp only [w_ne] at c_1
      simp only [Int32.le_iff_toInt_le, Int32.lt_iff_toInt_lt, ← Int32.toInt_inj, ti_m5, ti_0, ti_1, ti_2, ti_3, ti_4, ti_5, ti_6, ti_12, ti_19, ti_23, ti_24, ti_39, ti_40, ti_59, ti_60] at c_1 ⊢
      omega))).1 (bS_2 (kd_O ((X 0 6).toNatClampNeg) (g_vl (by
      refine vp_in_iff.mpr ?_
      try simp only [w_ne] at c_1
      simp only [Int32.le_iff_toInt_le, Int32.lt_iff_toInt_lt, ← Int32.toInt_inj, ti_m5, ti_0, ti_1, ti_2, ti_3, ti_4, ti_5, ti_6, ti_12, ti_19, ti_23, ti_24, ti_39, ti_40, ti_59, ti_60] at c_1 ⊢
      omega))).2)) rfl ⟨hR, (gSrc.now hT hS (fun _ _ => rfl))⟩ rfl hl.1 rfl (Nat.le_of_ble_eq_true rfl) dX3_giveOrder_35 (Nat.zero_le _) (Nat.zero_le _)) hS (fun _ h => h) (fun H locs hR _ _ hS => ?_)
    obtain ⟨X1, eX1⟩ : ∃ Y : gM, Y = p_X2_give X (115 + 2 * ((X 0 6).toNatClampNeg)) v1 a2 (X 0 7) := ⟨_, rfl⟩
    rw [← eX1] at hR
    refine lv_aload_n hx hb dX3_giveOrder_38 rfl (lv_at hl 1 rfl) ?_
    refine lv_dup hx hb dX3_giveOrder_39 rfl ?_
    refine va_get (D := D) (ci := 3) (v := .int (X1 0 6)) (C := RX3) (T := TX3) (N := 14) hx hb hts inX3 hown hK.1 (SR.mk0 hR) 0 rfl rfl 6 (by decide) lk67 (fun _ h9 => h9) rfl dX3_giveOrder_40 ?_
    refine lv_iconst (v := 1) hx hb dX3_giveOrder_43 (by decide) ?_
    refine lv_iadd hx hb dX3_giveOrder_44 ?_
    refine gm_put (v := .int ((X1 0 6) + 1)) (ty := .int) (ci := 3) (C := RX3) (T := TX3) (N := 14) hx hb hts inX3 tyX3 tyX3_ok nmX3 hown hK.1 hR injS hS (a := 0) (by decide) rfl (bS_3 (by decide)) rfl 6 (by decide) lk67 (fun _ h9 => h9) rfl (by decide +kernel) rfl rfl (Nat.le_of_ble_eq_true rfl) (j := 6) (x := (X1 0 6) + 1) (by rw [bS_3 (by decide)]; rfl) dX3_giveOrder_45 (fun H locs hR hS => ?_)
    obtain ⟨X2, eX2⟩ : ∃ Y : gM, Y = updM X1 0 6 ((X1 0 6) + 1) := ⟨_, rfl⟩
    rw [← eX2] at hR
    refine lv_iload_n hx hb dX3_giveOrder_48 rfl (lv_at hl 0 rfl) ?_
    exact gm_iret hx hb hr hlocks hS (by (try simp only [p_X3_giveOrder, ↓if_neg c_1, ← eX1, ← eX2]); (try rfl)) (by (try simp only [p_X3_giveOrder, ↓if_neg c_1, ← eX1, ← eX2]); exact hR) dX3_giveOrder_49
  · refine lv_bipush (v := (-3)) hx hb dX3_giveOrder_20 (by decide) ?_
    exact gm_iret hx hb hr hlocks hS (by (try simp only [p_X3_giveOrder, ↓if_pos c_1]); (try rfl)) (by (try simp only [p_X3_giveOrder, ↓if_pos c_1]); exact hR) dX3_giveOrder_22
def p_X3_followOrder (X : gM) (c1 : Nat) : gM :=
  if f_X3_hasTickets X 1 = 0 then
    let X1 := updM X c1 4 ((X c1 4) + 1)
    X1
  else
    let X2 := (p_X3_admit X (X (c1 + 1))).2
    let X3 := updM X2 c1 3 ((X2 c1 3) + 1)
    X3
set_option maxHeartbeats 4000000 in
set_option maxRecDepth 100000 in
theorem c_X3_followOrder (l : Launch) (D : va_G) (cy : Nat → ClassId) (σ : Nat) (X : gM) (c1 : Nat) (hc1 : c1 < 123) (hk1 : kdS c1 = 2) : Met l yX3_followOrder wsX3_followOrder ({ frames := 3, cells := 0, slots := 0, locals := 67 }) (gP [.ref σ, .ref (σ + c1)] D cy (SR D cy σ X)) (gQv (SR D cy σ (p_X3_followOrder X c1)) (SA σ)) 0 0 (SA σ) := by
  refine gm_met (cc := cX3_followOrder) (maxL := 2) (ret := none) [.ref σ, .ref (σ + c1)] (by decide) rfl (Nat.le_of_ble_eq_true rfl) ?_
  intro p e s m args below meth c0 ls C hR hl
  obtain ⟨hx, hb, hr, hts, hown, hlocks, hml, hK⟩ := C
  have hl : lv_has ls 2 [(0, .ref σ), (1, .ref (σ + c1))] := hl
  have hS : va_S (SA σ) s.heap s.heap [] := va_S.rf
  have lk217 := hts (.fieldLink RX3 217 "MercuryLine$Order" "skipped" "I") (by decide +kernel)
  have inX2 : ∀ w ∈ u_ws RX2 TX2 6, w ∈ wsX3_followOrder := by decide +kernel
  have lk209 := hts (.fieldLink RX3 209 "MercuryLine$Order" "trip" "LMercuryLine$Trip;") (by decide +kernel)
  have lk214 := hts (.fieldLink RX3 214 "MercuryLine$Order" "booked" "I") (by decide +kernel)
  refine lv_aload_n hx hb dX3_followOrder_0 rfl (lv_at hl 0 rfl) ?_
  refine lv_iconst (v := 1) hx hb dX3_followOrder_1 (by decide) ?_
  refine gm_ci (gm_call (As := [.int 1]) (rest := []) (ci := 3) (q := (RX3, TX3, 14)) ⟨hx, hb, hml, hown, hts⟩ hK (c_X3_hasTickets l D cy σ X 1) (cwV 1 hts gX3_followOrder_X3_hasTickets rfl rfl rfl (by decide +kernel) ⟨Nat.le_of_ble_eq_true rfl, Nat.le_of_ble_eq_true rfl⟩) (SR.mk0 hR) rfl hR rfl hl.1 rfl (Nat.le_of_ble_eq_true rfl) dX3_followOrder_2 (Nat.zero_le _) (Nat.zero_le _)) hS (fun _ h => h.elim) (fun H locs _ _ hfr hS => ?_)
  have hR := gRep.keep hR hfr (fun _ _ h => h)
  refine lv_if_eq (tgt := 30) hx hb dX3_followOrder_5 (by decide) (fun c_1 => ?_) (fun c_1 => ?_)
  · refine lv_aload_n hx hb dX3_followOrder_30 rfl (lv_at hl 1 rfl) ?_
    refine lv_dup hx hb dX3_followOrder_31 rfl ?_
    refine va_get (D := D) (ci := 2) (v := .int (X c1 4)) (C := RX2) (T := TX2) (N := 6) hx hb hts inX2 hown hK.1 (SR.mk1 hR (c := c1) hc1 (bS_2 hk1)) 0 rfl rfl 4 (by decide) lk217 (fun _ h9 => h9) rfl dX3_followOrder_32 ?_
    refine lv_iconst (v := 1) hx hb dX3_followOrder_35 (by decide) ?_
    refine lv_iadd hx hb dX3_followOrder_36 ?_
    refine gm_put (v := .int ((X c1 4) + 1)) (ty := .int) (ci := 2) (C := RX2) (T := TX2) (N := 6) hx hb hts inX2 tyX2 tyX2_ok nmX2 hown hK.1 hR injS hS (a := c1) hc1 rfl (bS_2 hk1) rfl 4 (by decide) lk217 (fun _ h9 => h9) rfl (by decide +kernel) rfl rfl (Nat.le_of_ble_eq_true rfl) (j := 4) (x := (X c1 4) + 1) (by rw [bS_2 hk1]; rfl) dX3_followOrder_37 (fun H locs hR hS => ?_)
    obtain ⟨X1, eX1⟩ : ∃ Y : gM, Y = updM X c1 4 ((X c1 4) + 1) := ⟨_, rfl⟩
    rw [← eX1] at hR
    exact gm_vret hx hb hr hlocks hS (by (try simp only [p_X3_followOrder, ↓if_pos c_1, ← eX1]); exact hR) dX3_followOrder_40
  · refine lv_aload_n hx hb dX3_followOrder_8 rfl (lv_at hl 0 rfl) ?_
    refine lv_aload_n hx hb dX3_followOrder_9 rfl (lv_at hl 1 rfl) ?_
    refine va_get (D := D) (ci := 2) (v := .ref (σ + (c1 + 1))) (C := RX2) (T := TX2) (N := 6) hx hb hts inX2 hown hK.1 (SR.mk1 hR (c := c1) hc1 (bS_2 hk1)) 0 rfl rfl 0 (by decide) lk209 (fun _ h9 => h9) rfl dX3_followOrder_10 ?_
    refine gm_ci (gm_call (As := [.ref (σ + (c1 + 1))]) (rest := []) (ci := 3) (q := (RX3, TX3, 14)) ⟨hx, hb, hml, hown, hts⟩ hK (c_X3_admit l D cy σ X (σ + (c1 + 1)) (X (c1 + 1)) (fun n hn => by
      have := kd_2g c1 hc1 hk1
      omega)) (cwV 1 hts gX3_followOrder_X3_admit rfl rfl rfl (by decide +kernel) ⟨Nat.le_of_ble_eq_true rfl, Nat.le_of_ble_eq_true rfl⟩) (SR.mk0 hR) rfl ⟨hR, Or.inr ⟨c1 + 1, (kd_2 c1 hc1 hk1).1, (kd_2 c1 hc1 hk1).2, rfl, rfl⟩⟩ rfl hl.1 rfl (Nat.le_of_ble_eq_true rfl) dX3_followOrder_13 (Nat.zero_le _) (Nat.zero_le _)) hS (fun _ h => h) (fun H locs hR _ _ hS => ?_)
    obtain ⟨X2, eX2⟩ : ∃ Y : gM, Y = (p_X3_admit X (X (c1 + 1))).2 := ⟨_, rfl⟩
    rw [← eX2] at hR
    refine lv_pop hx hb dX3_followOrder_16 rfl ?_
    refine lv_aload_n hx hb dX3_followOrder_17 rfl (lv_at hl 1 rfl) ?_
    refine lv_dup hx hb dX3_followOrder_18 rfl ?_
    refine va_get (D := D) (ci := 2) (v := .int (X2 c1 3)) (C := RX2) (T := TX2) (N := 6) hx hb hts inX2 hown hK.1 (SR.mk1 hR (c := c1) hc1 (bS_2 hk1)) 0 rfl rfl 3 (by decide) lk214 (fun _ h9 => h9) rfl dX3_followOrder_19 ?_
    refine lv_iconst (v := 1) hx hb dX3_followOrder_22 (by decide) ?_
    refine lv_iadd hx hb dX3_followOrder_23 ?_
    refine gm_put (v := .int ((X2 c1 3) + 1)) (ty := .int) (ci := 2) (C := RX2) (T := TX2) (N := 6) hx hb hts inX2 tyX2 tyX2_ok nmX2 hown hK.1 hR injS hS (a := c1) hc1 rfl (bS_2 hk1) rfl 3 (by decide) lk214 (fun _ h9 => h9) rfl (by decide +kernel) rfl rfl (Nat.le_of_ble_eq_true rfl) (j := 3) (x := (X2 c1 3) + 1) (by rw [bS_2 hk1]; rfl) dX3_followOrder_24 (fun H locs hR hS => ?_)
    obtain ⟨X3, eX3⟩ : ∃ Y : gM, Y = updM X2 c1 3 ((X2 c1 3) + 1) := ⟨_, rfl⟩
    rw [← eX3] at hR
    refine lv_goto (tgt := 40) hx hb dX3_followOrder_27 (by decide) ?_
    exact gm_vret hx hb hr hlocks hS (by (try simp only [p_X3_followOrder, ↓if_neg c_1, ← eX2, ← eX3]); exact hR) dX3_followOrder_40
def lf_X3_followOrders_2  (K : (gM) → (Nat) → (gM)) : Nat → (gM) → (Nat) → (gM)
  | 0, Z, k_1 => K Z k_1
  | n + 1, Z, k_1 =>
    if Z 0 6 ≤ nI k_1 then
      K Z k_1
    else
      if 4 ≤ nI k_1 then
        K Z k_1
      else
        if f_X2_isDue Z (115 + 2 * k_1) (Z 0 7) = 0 then
          lf_X3_followOrders_2 K n Z (k_1 + 1)
        else
          let X1 := p_X3_followOrder Z (115 + 2 * k_1)
          lf_X3_followOrders_2 K n X1 (k_1 + 1)
def p_X3_followOrders (X : gM) : gM :=
  lf_X3_followOrders_2  (fun X1 k_1w1 =>
        X1) 5 X 0
set_option maxHeartbeats 4000000 in
set_option maxRecDepth 100000 in
theorem lp_X3_followOrders_2 {p : Program} {l : Launch} {e : Env} {s : State} {m : MethodId} {args : Array Value} {below : List Frame} {meth : Method} {c0 : Code} {D : va_G} {cy : Nat → ClassId} (C : gCtx cX3_followOrders 3 none RX3 wsX3_followOrders D cy p s m args meth c0) (σ : Nat) 
    (K : (gM) → (Nat) → (gM)) (hexit : ∀ (Z : gM) (k_1 : Nat), k_1 ≤ 4 → ∀ (H : Heap) (locs : List Loc) (ls : Array Slot), SR D cy σ Z H → va_S (SA σ) s.heap H locs → lv_has ls 3 [(0, .ref σ), (1, .int (nI k_1))] → W p l e { frames := 4, cells := 0, slots := 0, locals := 88 } s m args below meth c0 H locs 0 0 (MQ below (gQv (SR D cy σ (K Z k_1)) (SA σ)) args s 0 0 (SA σ)) (F0 m 48 ls [])) :
    ∀ (n : Nat) (Z : gM) (k_1 : Nat), k_1 ≤ 4 → 4 < k_1 + n → ∀ (H : Heap) (locs : List Loc) (ls : Array Slot), SR D cy σ Z H → va_S (SA σ) s.heap H locs → lv_has ls 3 [(0, .ref σ), (1, .int (nI k_1))] → W p l e { frames := 4, cells := 0, slots := 0, locals := 88 } s m args below meth c0 H locs 0 0 (MQ below (gQv (SR D cy σ (lf_X3_followOrders_2 K n Z k_1)) (SA σ)) args s 0 0 (SA σ)) (F0 m 2 ls []) := by
  obtain ⟨hx, hb, hr, hts, hown, hlocks, hml, hK⟩ := C
  have lk67 := hts (.fieldLink RX3 67 "MercuryLine$State" "orderCount" "I") (by decide +kernel)
  have inX3 : ∀ w ∈ u_ws RX3 TX3 14, w ∈ wsX3_followOrders := by decide +kernel
  have lk31 := hts (.fieldLink RX3 31 "MercuryLine$State" "orders" "[LMercuryLine$Order;") (by decide +kernel)
  have lk70 := hts (.fieldLink RX3 70 "MercuryLine$State" "tick" "I") (by decide +kernel)
  intro n
  induction n with
  | zero =>
    intro Z k_1 hb_1 hme
    exact absurd hme (by omega)
  | succ n ih =>
    intro Z k_1 hb_1 hme H locs ls hR hS hl
    refine lv_iload_n hx hb dX3_followOrders_2 rfl (lv_at hl 1 rfl) ?_
    refine lv_aload_n hx hb dX3_followOrders_3 rfl (lv_at hl 0 rfl) ?_
    refine va_get (D := D) (ci := 3) (v := .int (Z 0 6)) (C := RX3) (T := TX3) (N := 14) hx hb hts inX3 hown hK.1 (SR.mk0 hR) 0 rfl rfl 6 (by decide) lk67 (fun _ h9 => h9) rfl dX3_followOrders_4 ?_
    refine lv_icmp_ge (tgt := 48) hx hb dX3_followOrders_7 (by decide) (fun c_1 => ?_) (fun c_1 => ?_)
    · refine gm_q (Q2 := MQ below (gQv (SR D cy σ (K Z k_1)) (SA σ)) args s 0 0 (SA σ)) (by simp only [lf_X3_followOrders_2, ↓if_pos c_1]) ?_
      exact hexit Z k_1 hb_1  _ _ _ hR hS (lv_sub hl [0, 1] rfl)
    · have lt_2 : k_1 < 2147483647 := g_big (Nat.lt_of_le_of_lt hb_1 (by decide)) c_1
      refine lv_iload_n hx hb dX3_followOrders_10 rfl (lv_at hl 1 rfl) ?_
      refine lv_aload_n hx hb dX3_followOrders_11 rfl (lv_at hl 0 rfl) ?_
      refine va_get (D := D) (ci := 3) (v := .ref (σ + 32)) (C := RX3) (T := TX3) (N := 14) hx hb hts inX3 hown hK.1 (SR.mk0 hR) 0 rfl rfl 3 (by decide) lk31 (fun _ h9 => h9) rfl dX3_followOrders_12 ?_
      refine va_alen (v := 4) hx hb hK.1 (SR.mk1 hR (c := 32) (by decide) (bS_26 (by decide))) 0 2 rfl rfl rfl dX3_followOrders_15 ?_
      refine lv_icmp_ge (tgt := 48) hx hb dX3_followOrders_16 (by decide) (fun c_3 => ?_) (fun c_3 => ?_)
      · have ge_4 : 4 ≤ k_1 := g_ge2 (Nat.lt_of_le_of_lt hb_1 (by decide)) (by decide) c_3
        refine gm_q (Q2 := MQ below (gQv (SR D cy σ (K Z k_1)) (SA σ)) args s 0 0 (SA σ)) (by simp only [lf_X3_followOrders_2, ↓if_neg c_1, ↓if_pos c_3]) ?_
        exact hexit Z k_1 hb_1  _ _ _ hR hS (lv_sub hl [0, 1] rfl)
      · have lt_5 : k_1 < 4 := g_lt (Nat.lt_of_le_of_lt hb_1 (by decide)) (by decide) c_3
        refine lv_aload_n hx hb dX3_followOrders_19 rfl (lv_at hl 0 rfl) ?_
        refine va_get (D := D) (ci := 3) (v := .ref (σ + 32)) (C := RX3) (T := TX3) (N := 14) hx hb hts inX3 hown hK.1 (SR.mk0 hR) 0 rfl rfl 3 (by decide) lk31 (fun _ h9 => h9) rfl dX3_followOrders_20 ?_
        refine lv_iload_n hx hb dX3_followOrders_23 rfl (lv_at hl 1 rfl) ?_
        refine gm_aald (b := (σ + (115 + 2 * k_1))) hx hb hK.1 (SR.mk1 hR (c := 32) (by decide) (bS_26 (by decide))) 2 rfl (vp_in_nI lt_5 (by decide)) (by rw [nI_clamp (n := k_1) (by omega)]) dX3_followOrders_24 ?_
        refine lv_astore_n (lv' := [(2, .ref (σ + (115 + 2 * k_1))), (0, .ref σ), (1, .int (nI k_1))]) hx hb dX3_followOrders_25 rfl hl (by decide) rfl (fun ls hl => ?_)
        refine lv_aload_n hx hb dX3_followOrders_26 rfl (lv_at hl 0 rfl) ?_
        refine lv_aload_n hx hb dX3_followOrders_27 rfl (lv_at hl 1 rfl) ?_
        refine va_get (D := D) (ci := 3) (v := .int (Z 0 7)) (C := RX3) (T := TX3) (N := 14) hx hb hts inX3 hown hK.1 (SR.mk0 hR) 0 rfl rfl 7 (by decide) lk70 (fun _ h9 => h9) rfl dX3_followOrders_28 ?_
        refine gm_ci (gm_call (As := [.int (Z 0 7)]) (rest := []) (ci := 2) (q := (RX2, TX2, 6)) ⟨hx, hb, hml, hown, hts⟩ hK (c_X2_isDue l D cy σ Z (115 + 2 * k_1) (Z 0 7) (kd_O k_1 lt_5).1 (kd_O k_1 lt_5).2) (cwV 1 hts gX3_followOrders_X2_isDue rfl rfl rfl (by decide +kernel) ⟨Nat.le_of_ble_eq_true rfl, Nat.le_of_ble_eq_true rfl⟩) (SR.mk1 hR (c := 115 + 2 * k_1) (kd_O k_1 lt_5).1 (bS_2 (kd_O k_1 lt_5).2)) rfl hR rfl hl.1 rfl (Nat.le_of_ble_eq_true rfl) dX3_followOrders_31 (Nat.zero_le _) (Nat.zero_le _)) hS (fun _ h => h.elim) (fun H locs _ _ hfr hS => ?_)
        have hR := gRep.keep hR hfr (fun _ _ h => h)
        refine lv_if_eq (tgt := 42) hx hb dX3_followOrders_34 (by decide) (fun c_6 => ?_) (fun c_6 => ?_)
        · refine lv_iinc (v := nI (k_1 + 1)) (lv' := [(1, .int (nI (k_1 + 1))), (2, .ref (σ + (115 + 2 * k_1))), (0, .ref σ)]) hx hb dX3_followOrders_42 hl (k := 2) rfl (nI_1 _) (by decide) rfl (fun ls hl => ?_)
          refine lv_goto (tgt := 2) hx hb dX3_followOrders_45 (by decide) ?_
          refine gm_q (Q2 := MQ below (gQv (SR D cy σ (lf_X3_followOrders_2 K n Z (k_1 + 1))) (SA σ)) args s 0 0 (SA σ)) (by simp only [lf_X3_followOrders_2, ↓if_neg c_1, ↓if_neg c_3, ↓if_pos c_6]) ?_
          exact ih Z (k_1 + 1) lt_5 (by omega) _ _ _ hR hS (lv_sub hl [2, 0] rfl)
        · refine lv_aload_n hx hb dX3_followOrders_37 rfl (lv_at hl 1 rfl) ?_
          refine lv_aload_n hx hb dX3_followOrders_38 rfl (lv_at hl 0 rfl) ?_
          refine gm_cv (gm_call (As := [.ref (σ + (115 + 2 * k_1))]) (rest := []) (ci := 3) (q := (RX3, TX3, 14)) ⟨hx, hb, hml, hown, hts⟩ hK (c_X3_followOrder l D cy σ Z (115 + 2 * k_1) (kd_O k_1 lt_5).1 (kd_O k_1 lt_5).2) (cwV 1 hts gX3_followOrders_X3_followOrder rfl rfl rfl (by decide +kernel) ⟨Nat.le_of_ble_eq_true rfl, Nat.le_of_ble_eq_true rfl⟩) (SR.mk0 hR) rfl hR rfl hl.1 rfl (Nat.le_of_ble_eq_true rfl) dX3_followOrders_39 (Nat.zero_le _) (Nat.zero_le _)) hS (fun _ h => h) (fun H locs hR _ _ hS => ?_)
          obtain ⟨X1, eX1⟩ : ∃ Y : gM, Y = p_X3_followOrder Z (115 + 2 * k_1) := ⟨_, rfl⟩
          rw [← eX1] at hR
          refine lv_iinc (v := nI (k_1 + 1)) (lv' := [(1, .int (nI (k_1 + 1))), (2, .ref (σ + (115 + 2 * k_1))), (0, .ref σ)]) hx hb dX3_followOrders_42 hl (k := 2) rfl (nI_1 _) (by decide) rfl (fun ls hl => ?_)
          refine lv_goto (tgt := 2) hx hb dX3_followOrders_45 (by decide) ?_
          refine gm_q (Q2 := MQ below (gQv (SR D cy σ (lf_X3_followOrders_2 K n X1 (k_1 + 1))) (SA σ)) args s 0 0 (SA σ)) (by simp only [lf_X3_followOrders_2, ↓if_neg c_1, ↓if_neg c_3, ↓if_neg c_6, ← eX1]) ?_
          exact ih X1 (k_1 + 1) lt_5 (by omega) _ _ _ hR hS (lv_sub hl [2, 0] rfl)
set_option maxHeartbeats 4000000 in
set_option maxRecDepth 100000 in
theorem c_X3_followOrders (l : Launch) (D : va_G) (cy : Nat → ClassId) (σ : Nat) (X : gM)  : Met l yX3_followOrders wsX3_followOrders ({ frames := 4, cells := 0, slots := 0, locals := 88 }) (gP [.ref σ] D cy (SR D cy σ X)) (gQv (SR D cy σ (p_X3_followOrders X)) (SA σ)) 0 0 (SA σ) := by
  refine gm_met (cc := cX3_followOrders) (maxL := 3) (ret := none) [.ref σ] (by decide) rfl (Nat.le_of_ble_eq_true rfl) ?_
  intro p e s m args below meth c0 ls C hR hl
  obtain ⟨hx, hb, hr, hts, hown, hlocks, hml, hK⟩ := C
  have hl : lv_has ls 3 [(0, .ref σ)] := hl
  have hS : va_S (SA σ) s.heap s.heap [] := va_S.rf
  refine lv_iconst (v := 0) hx hb dX3_followOrders_0 (by decide) ?_
  refine lv_istore_n (lv' := [(1, .int 0), (0, .ref σ)]) hx hb dX3_followOrders_1 rfl hl (by decide) rfl (fun ls hl => ?_)
  refine gm_q (Q2 := MQ below (gQv (SR D cy σ (lf_X3_followOrders_2  (fun X1 k_1w1 =>
        X1) 5 X 0)) (SA σ)) args s 0 0 (SA σ)) (by simp only [p_X3_followOrders]) ?_
  refine lp_X3_followOrders_2 ⟨hx, hb, hr, hts, hown, hlocks, hml, hK⟩ σ  _ (fun X1 k_1w1 hbk_1w1 H locs ls hR hS hl => ?_) 5 X 0 (by decide) (by omega) _ _ _ hR hS (lv_sub hl [1, 0] rfl)
  exact gm_vret hx hb hr hlocks hS (by (try simp only [p_X3_followOrders]); exact hR) dX3_followOrders_48
