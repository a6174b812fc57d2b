def p_X0_rebuild (X : gM) (c : Nat) (a1 : Int32) : gM :=
  let X1 := updM X c 4 a1
  let X2 := updM X1 c 5 0
  let X3 := updM X2 c 6 0
  X3
set_option maxHeartbeats 4000000 in
set_option maxRecDepth 100000 in
theorem c_X0_rebuild (l : Launch) (D : va_G) (cy : Nat → ClassId) (σ : Nat) (X : gM) (c : Nat) (a1 : Int32) (hc : c < 123) (hk : kdS c = 0) : Met l yX0_rebuild wsX0_rebuild ({ frames := 0, cells := 0, slots := 0, locals := 0 }) (gP [.ref (σ + c), .int a1] D cy (SR D cy σ X)) (gQv (SR D cy σ (p_X0_rebuild X c a1)) (SA σ)) 0 0 (SA σ) := by
  refine gm_met (cc := cX0_rebuild) (maxL := 2) (ret := none) [.ref (σ + c), .int a1] (by decide) rfl (Nat.le_of_ble_eq_true rfl) ?_
  intro p e s m args below meth c0 ls C hR hl
  obtain ⟨hx, hb, hr, hts, hown, hlocks, hml, hK⟩ := C
  have hl : lv_has ls 2 [(0, .ref (σ + c)), (1, .int a1)] := hl
  have hS : va_S (SA σ) s.heap s.heap [] := va_S.rf
  have lk21 := hts (.fieldLink RX0 21 "MercuryLine$Line" "slots" "I") (by decide +kernel)
  have inX0 : ∀ w ∈ u_ws RX0 TX0 10, w ∈ wsX0_rebuild := by decide +kernel
  have lk44 := hts (.fieldLink RX0 44 "MercuryLine$Line" "phase" "I") (by decide +kernel)
  have lk47 := hts (.fieldLink RX0 47 "MercuryLine$Line" "drift" "I") (by decide +kernel)
  refine lv_aload_n hx hb dX0_rebuild_0 rfl (lv_at hl 0 rfl) ?_
  refine lv_iload_n hx hb dX0_rebuild_1 rfl (lv_at hl 1 rfl) ?_
  refine gm_put (v := .int a1) (ty := .int) (ci := 0) (C := RX0) (T := TX0) (N := 10) hx hb hts inX0 tyX0 tyX0_ok nmX0 hown hK.1 hR injS hS (a := c) hc rfl (bS_0 hk) rfl 4 (by decide) lk21 (fun _ h9 => h9) rfl (by decide +kernel) rfl rfl (Nat.le_of_ble_eq_true rfl) (j := 4) (x := a1) (by rw [bS_0 hk]; rfl) dX0_rebuild_2 (fun H locs hR hS => ?_)
  obtain ⟨X1, eX1⟩ : ∃ Y : gM, Y = updM X c 4 a1 := ⟨_, rfl⟩
  rw [← eX1] at hR
  refine lv_aload_n hx hb dX0_rebuild_5 rfl (lv_at hl 0 rfl) ?_
  refine lv_iconst (v := 0) hx hb dX0_rebuild_6 (by decide) ?_
  refine gm_put (v := .int 0) (ty := .int) (ci := 0) (C := RX0) (T := TX0) (N := 10) hx hb hts inX0 tyX0 tyX0_ok nmX0 hown hK.1 hR injS hS (a := c) hc rfl (bS_0 hk) rfl 5 (by decide) lk44 (fun _ h9 => h9) rfl (by decide +kernel) rfl rfl (Nat.le_of_ble_eq_true rfl) (j := 5) (x := 0) (by rw [bS_0 hk]; rfl) dX0_rebuild_7 (fun H locs hR hS => ?_)
  obtain ⟨X2, eX2⟩ : ∃ Y : gM, Y = updM X1 c 5 0 := ⟨_, rfl⟩
  rw [← eX2] at hR
  refine lv_aload_n hx hb dX0_rebuild_10 rfl (lv_at hl 0 rfl) ?_
  refine lv_iconst (v := 0) hx hb dX0_rebuild_11 (by decide) ?_
  refine gm_put (v := .int 0) (ty := .int) (ci := 0) (C := RX0) (T := TX0) (N := 10) hx hb hts inX0 tyX0 tyX0_ok nmX0 hown hK.1 hR injS hS (a := c) hc rfl (bS_0 hk) rfl 6 (by decide) lk47 (fun _ h9 => h9) rfl (by decide +kernel) rfl rfl (Nat.le_of_ble_eq_true rfl) (j := 6) (x := 0) (by rw [bS_0 hk]; rfl) dX0_rebuild_12 (fun H locs hR hS => ?_)
  obtain ⟨X3, eX3⟩ : ∃ Y : gM, Y = updM X2 c 6 0 := ⟨_, rfl⟩
  rw [← eX3] at hR
  exact gm_vret hx hb hr hlocks hS (by (try simp only [p_X0_rebuild, ← eX1, ← eX2, ← eX3]); exact hR) dX0_rebuild_15
def p_X0_openStation (X : gM) (c : Nat) (a1 : Int32) : Int32 × gM :=
  if f_X8_within (X c 3) 0 5 = 0 then
    (X c 3, X)
  else
    let X1 := p_X4_open X (c + 2 + 1 + 2 * ((X c 3).toNatClampNeg)) a1
    let X2 := updM X1 c 3 ((X1 c 3) + 1)
    (X c 3, X2)
set_option maxHeartbeats 4000000 in
set_option maxRecDepth 100000 in
theorem c_X0_openStation (l : Launch) (D : va_G) (cy : Nat → ClassId) (σ : Nat) (X : gM) (c : Nat) (a1 : Int32) (hc : c < 123) (hk : kdS c = 0) : Met l yX0_openStation wsX0_openStation ({ frames := 1, cells := 0, slots := 0, locals := 22 }) (gP [.ref (σ + c), .int a1] D cy (SR D cy σ X)) (gQi (p_X0_openStation X c a1).1 (SR D cy σ (p_X0_openStation X c a1).2) (SA σ)) 0 0 (SA σ) := by
  refine gm_met (cc := cX0_openStation) (maxL := 3) (ret := (some .int)) [.ref (σ + c), .int a1] (by decide) rfl (Nat.le_of_ble_eq_true rfl) ?_
  intro p e s m args below meth c0 ls C hR hl
  obtain ⟨hx, hb, hr, hts, hown, hlocks, hml, hK⟩ := C
  have hl : lv_has ls 3 [(0, .ref (σ + c)), (1, .int a1)] := hl
  have hS : va_S (SA σ) s.heap s.heap [] := va_S.rf
  have lk41 := hts (.fieldLink RX0 41 "MercuryLine$Line" "stationCount" "I") (by decide +kernel)
  have inX0 : ∀ w ∈ u_ws RX0 TX0 10, w ∈ wsX0_openStation := by decide +kernel
  have lk17 := hts (.fieldLink RX0 17 "MercuryLine$Line" "stations" "[LMercuryLine$Station;") (by decide +kernel)
  refine lv_aload_n hx hb dX0_openStation_0 rfl (lv_at hl 0 rfl) ?_
  refine va_get (D := D) (ci := 0) (v := .int (X c 3)) (C := RX0) (T := TX0) (N := 10) hx hb hts inX0 hown hK.1 (SR.mk1 hR (c := c) hc (bS_0 hk)) 0 rfl rfl 3 (by decide) lk41 (fun _ h9 => h9) rfl dX0_openStation_1 ?_
  refine lv_istore_n (lv' := [(2, .int (X c 3)), (0, .ref (σ + c)), (1, .int a1)]) hx hb dX0_openStation_4 rfl hl (by decide) rfl (fun ls hl => ?_)
  refine lv_iload_n hx hb dX0_openStation_5 rfl (lv_at hl 0 rfl) ?_
  refine lv_iconst (v := 0) hx hb dX0_openStation_6 (by decide) ?_
  refine lv_aload_n hx hb dX0_openStation_7 rfl (lv_at hl 1 rfl) ?_
  refine va_get (D := D) (ci := 0) (v := .ref (σ + (c + 2))) (C := RX0) (T := TX0) (N := 10) hx hb hts inX0 hown hK.1 (SR.mk1 hR (c := c) hc (bS_0 hk)) 0 rfl rfl 2 (by decide) lk17 (fun _ h9 => h9) rfl dX0_openStation_8 ?_
  refine va_alen (v := 6) hx hb hK.1 (SR.mk1 hR (c := c + 2) (kd_0 c hc hk).2.1.1 (bS_24 (kd_0 c hc hk).2.1.2)) 0 4 rfl rfl rfl dX0_openStation_11 ?_
  refine lv_iconst (v := 1) hx hb dX0_openStation_12 (by decide) ?_
  refine lv_isub hx hb dX0_openStation_13 ?_
  rw [show (6 - 1 : Int32) = 5 from by decide]
  refine gm_ci (gm_callN (As := [.int (X c 3), .int 0, .int 5]) (rest := []) ⟨hx, hb, hml, hown, hts⟩ hK (c_X8_within l D cy (X c 3) 0 5) ⟨va_cnB 3 hts gX0_openStation_X8_within_n59 rfl rfl rfl (hK.2.1 (RX0, 59, yX8_within, "MercuryLine") (by decide +kernel)) (hts (.initialized RX8) (by decide +kernel)) (by decide +kernel) ⟨Nat.le_of_ble_eq_true rfl, Nat.le_of_ble_eq_true rfl⟩, hts (.static yX8_within) (by decide +kernel), trivial⟩ trivial rfl hl.1 rfl (Nat.le_of_ble_eq_true rfl) dX0_openStation_14 (Nat.zero_le _) (Nat.zero_le _)) hS (fun _ h => h.elim) (fun H locs _ _ hfr hS => ?_)
  have hR := gRep.keep hR hfr (fun _ _ h => h)
  refine lv_if_eq (tgt := 40) hx hb dX0_openStation_17 (by decide) (fun c_1 => ?_) (fun c_1 => ?_)
  · refine lv_iload_n hx hb dX0_openStation_40 rfl (lv_at hl 0 rfl) ?_
    exact gm_iret hx hb hr hlocks hS (by (try simp only [p_X0_openStation, ↓if_pos c_1]); (try rfl)) (by (try simp only [p_X0_openStation, ↓if_pos c_1]); exact hR) dX0_openStation_41
  · refine lv_aload_n hx hb dX0_openStation_20 rfl (lv_at hl 1 rfl) ?_
    refine va_get (D := D) (ci := 0) (v := .ref (σ + (c + 2))) (C := RX0) (T := TX0) (N := 10) hx hb hts inX0 hown hK.1 (SR.mk1 hR (c := c) hc (bS_0 hk)) 0 rfl rfl 2 (by decide) lk17 (fun _ h9 => h9) rfl dX0_openStation_21 ?_
    refine lv_iload_n hx hb dX0_openStation_24 rfl (lv_at hl 0 rfl) ?_
    refine gm_aald (b := (σ + (c + 2 + 1 + 2 * ((X c 3).toNatClampNeg)))) hx hb hK.1 (SR.mk1 hR (c := c + 2) (kd_0 c hc hk).2.1.1 (bS_24 (kd_0 c hc hk).2.1.2)) 4 rfl (by
      refine vp_in_iff.mpr ?_
      try simp only [w_ne] at c_1
      simp only [Int32.le_iff_toInt_le, Int32.lt_iff_toInt_lt, ← Int32.toInt_inj, ti_m5, ti_0, ti_1, ti_2, ti_3, ti_4, ti_5, ti_6, ti_12, ti_19, ti_23, ti_24, ti_39, ti_40, ti_59, ti_60] at c_1 ⊢
      omega) rfl dX0_openStation_25 ?_
    refine lv_iload_n hx hb dX0_openStation_26 rfl (lv_at hl 2 rfl) ?_
    refine gm_cv (gm_call (As := [.int a1]) (rest := []) (ci := 4) (q := (RX4, TX4, 10)) ⟨hx, hb, hml, hown, hts⟩ hK (c_X4_open l D cy σ X (c + 2 + 1 + 2 * ((X c 3).toNatClampNeg)) a1 (kd_24 (c + 2) (kd_0 c hc hk).2.1.1 (kd_0 c hc hk).2.1.2 ((X c 3).toNatClampNeg) (g_vl (by
      refine vp_in_iff.mpr ?_
      try simp only [w_ne] at c_1
      simp only [Int32.le_iff_toInt_le, Int32.lt_iff_toInt_lt, ← Int32.toInt_inj, ti_m5, ti_0, ti_1, ti_2, ti_3, ti_4, ti_5, ti_6, ti_12, ti_19, ti_23, ti_24, ti_39, ti_40, ti_59, ti_60] at c_1 ⊢
      omega))).1 (kd_24 (c + 2) (kd_0 c hc hk).2.1.1 (kd_0 c hc hk).2.1.2 ((X c 3).toNatClampNeg) (g_vl (by
      refine vp_in_iff.mpr ?_
      try simp only [w_ne] at c_1
      simp only [Int32.le_iff_toInt_le, Int32.lt_iff_toInt_lt, ← Int32.toInt_inj, ti_m5, ti_0, ti_1, ti_2, ti_3, ti_4, ti_5, ti_6, ti_12, ti_19, ti_23, ti_24, ti_39, ti_40, ti_59, ti_60] at c_1 ⊢
      omega))).2) (cwV 1 hts gX0_openStation_X4_open rfl rfl rfl (by decide +kernel) ⟨Nat.le_of_ble_eq_true rfl, Nat.le_of_ble_eq_true rfl⟩) (SR.mk1 hR (c := c + 2 + 1 + 2 * ((X c 3).toNatClampNeg)) (kd_24 (c + 2) (kd_0 c hc hk).2.1.1 (kd_0 c hc hk).2.1.2 ((X c 3).toNatClampNeg) (g_vl (by
      refine vp_in_iff.mpr ?_
      try simp only [w_ne] at c_1
      simp only [Int32.le_iff_toInt_le, Int32.lt_iff_toInt_lt, ← Int32.toInt_inj, ti_m5, ti_0, ti_1, ti_2, ti_3, ti_4, ti_5, ti_6, ti_12, ti_19, ti_23, ti_24, ti_39, ti_40, ti_59, ti_60] at c_1 ⊢
      omega))).1 (bS_4 (kd_24 (c + 2) (kd_0 c hc hk).2.1.1 (kd_0 c hc hk).2.1.2 ((X c 3).toNatClampNeg) (g_vl (by
      refine vp_in_iff.mpr ?_
      try simp only [w_ne] at c_1
      simp only [Int32.le_iff_toInt_le, Int32.lt_iff_toInt_lt, ← Int32.toInt_inj, ti_m5, ti_0, ti_1, ti_2, ti_3, ti_4, ti_5, ti_6, ti_12, ti_19, ti_23, ti_24, ti_39, ti_40, ti_59, ti_60] at c_1 ⊢
      omega))).2)) rfl hR rfl hl.1 rfl (Nat.le_of_ble_eq_true rfl) dX0_openStation_27 (Nat.zero_le _) (Nat.zero_le _)) hS (fun _ h => h) (fun H locs hR _ _ hS => ?_)
    obtain ⟨X1, eX1⟩ : ∃ Y : gM, Y = p_X4_open X (c + 2 + 1 + 2 * ((X c 3).toNatClampNeg)) a1 := ⟨_, rfl⟩
    rw [← eX1] at hR
    refine lv_aload_n hx hb dX0_openStation_30 rfl (lv_at hl 1 rfl) ?_
    refine lv_dup hx hb dX0_openStation_31 rfl ?_
    refine va_get (D := D) (ci := 0) (v := .int (X1 c 3)) (C := RX0) (T := TX0) (N := 10) hx hb hts inX0 hown hK.1 (SR.mk1 hR (c := c) hc (bS_0 hk)) 0 rfl rfl 3 (by decide) lk41 (fun _ h9 => h9) rfl dX0_openStation_32 ?_
    refine lv_iconst (v := 1) hx hb dX0_openStation_35 (by decide) ?_
    refine lv_iadd hx hb dX0_openStation_36 ?_
    refine gm_put (v := .int ((X1 c 3) + 1)) (ty := .int) (ci := 0) (C := RX0) (T := TX0) (N := 10) hx hb hts inX0 tyX0 tyX0_ok nmX0 hown hK.1 hR injS hS (a := c) hc rfl (bS_0 hk) rfl 3 (by decide) lk41 (fun _ h9 => h9) rfl (by decide +kernel) rfl rfl (Nat.le_of_ble_eq_true rfl) (j := 3) (x := (X1 c 3) + 1) (by rw [bS_0 hk]; rfl) dX0_openStation_37 (fun H locs hR hS => ?_)
    obtain ⟨X2, eX2⟩ : ∃ Y : gM, Y = updM X1 c 3 ((X1 c 3) + 1) := ⟨_, rfl⟩
    rw [← eX2] at hR
    refine lv_iload_n hx hb dX0_openStation_40 rfl (lv_at hl 0 rfl) ?_
    exact gm_iret hx hb hr hlocks hS (by (try simp only [p_X0_openStation, ↓if_neg c_1, ← eX1, ← eX2]); (try rfl)) (by (try simp only [p_X0_openStation, ↓if_neg c_1, ← eX1, ← eX2]); exact hR) dX0_openStation_41
def f_X0_stationAt (X : gM) (c : Nat) (a1 : Int32) : Option Nat :=
  if f_X8_within a1 0 ((X c 3) - 1) = 0 then
    none
  else
    if 6 ≤ a1 then
      none
    else
      some (c + 2 + 1 + 2 * a1.toNatClampNeg)
set_option maxHeartbeats 4000000 in
set_option maxRecDepth 100000 in
theorem c_X0_stationAt (l : Launch) (D : va_G) (cy : Nat → ClassId) (σ : Nat) (X : gM) (c : Nat) (a1 : Int32) (hc : c < 123) (hk : kdS c = 0) : Met l yX0_stationAt wsX0_stationAt ({ frames := 1, cells := 0, slots := 0, locals := 22 }) (gP [.ref (σ + c), .int a1] D cy (SR D cy σ X)) (gQq (Option.map (fun c => σ + c) (f_X0_stationAt X c a1)) (fun _ => True) gNo) 0 0 gNo := by
  refine gm_met (cc := cX0_stationAt) (maxL := 3) (ret := (some (.object "MercuryLine$Station"))) [.ref (σ + c), .int a1] (by decide) rfl (Nat.le_of_ble_eq_true rfl) ?_
  intro p e s m args below meth c0 ls C hR hl
  obtain ⟨hx, hb, hr, hts, hown, hlocks, hml, hK⟩ := C
  have hl : lv_has ls 3 [(0, .ref (σ + c)), (1, .int a1)] := hl
  have hS : va_S gNo s.heap s.heap [] := va_S.rf
  have lk41 := hts (.fieldLink RX0 41 "MercuryLine$Line" "stationCount" "I") (by decide +kernel)
  have inX0 : ∀ w ∈ u_ws RX0 TX0 10, w ∈ wsX0_stationAt := by decide +kernel
  have lk17 := hts (.fieldLink RX0 17 "MercuryLine$Line" "stations" "[LMercuryLine$Station;") (by decide +kernel)
  refine lv_iload_n hx hb dX0_stationAt_0 rfl (lv_at hl 1 rfl) ?_
  refine lv_iconst (v := 0) hx hb dX0_stationAt_1 (by decide) ?_
  refine lv_aload_n hx hb dX0_stationAt_2 rfl (lv_at hl 0 rfl) ?_
  refine va_get (D := D) (ci := 0) (v := .int (X c 3)) (C := RX0) (T := TX0) (N := 10) hx hb hts inX0 hown hK.1 (SR.mk1 hR (c := c) hc (bS_0 hk)) 0 rfl rfl 3 (by decide) lk41 (fun _ h9 => h9) rfl dX0_stationAt_3 ?_
  refine lv_iconst (v := 1) hx hb dX0_stationAt_6 (by decide) ?_
  refine lv_isub hx hb dX0_stationAt_7 ?_
  refine gm_ci (gm_callN (As := [.int a1, .int 0, .int ((X c 3) - 1)]) (rest := []) ⟨hx, hb, hml, hown, hts⟩ hK (c_X8_within l D cy a1 0 ((X c 3) - 1)) ⟨va_cnB 3 hts gX0_stationAt_X8_within_n59 rfl rfl rfl (hK.2.1 (RX0, 59, yX8_within, "MercuryLine") (by decide +kernel)) (hts (.initialized RX8) (by decide +kernel)) (by decide +kernel) ⟨Nat.le_of_ble_eq_true rfl, Nat.le_of_ble_eq_true rfl⟩, hts (.static yX8_within) (by decide +kernel), trivial⟩ trivial rfl hl.1 rfl (Nat.le_of_ble_eq_true rfl) dX0_stationAt_8 (Nat.zero_le _) (Nat.zero_le _)) hS (fun _ h => h.elim) (fun H locs _ _ hfr hS => ?_)
  have hR := gRep.keep hR hfr (fun _ _ h => h)
  refine lv_if_eq (tgt := 27) hx hb dX0_stationAt_11 (by decide) (fun c_1 => ?_) (fun c_1 => ?_)
  · refine lv_iconst (v := 0) hx hb dX0_stationAt_27 (by decide) ?_
    refine lv_istore_n (lv' := [(2, .int 0), (0, .ref (σ + c)), (1, .int a1)]) hx hb dX0_stationAt_28 rfl hl (by decide) rfl (fun ls hl => ?_)
    refine lv_iload_n hx hb dX0_stationAt_29 rfl (lv_at hl 0 rfl) ?_
    refine lv_if_eq (tgt := 42) hx hb dX0_stationAt_30 (by decide) (fun c_2 => ?_) (fun c_2 => ?_)
    · refine lv_null hx hb dX0_stationAt_42 ?_
      exact gm_aret hx hb hr hlocks hS (by (try simp only [f_X0_stationAt, ↓if_pos c_1]); (try rfl)) trivial dX0_stationAt_43
    · exact absurd c_2 (by decide)
  · refine lv_iload_n hx hb dX0_stationAt_14 rfl (lv_at hl 1 rfl) ?_
    refine lv_aload_n hx hb dX0_stationAt_15 rfl (lv_at hl 0 rfl) ?_
    refine va_get (D := D) (ci := 0) (v := .ref (σ + (c + 2))) (C := RX0) (T := TX0) (N := 10) hx hb hts inX0 hown hK.1 (SR.mk1 hR (c := c) hc (bS_0 hk)) 0 rfl rfl 2 (by decide) lk17 (fun _ h9 => h9) rfl dX0_stationAt_16 ?_
    refine va_alen (v := 6) hx hb hK.1 (SR.mk1 hR (c := c + 2) (kd_0 c hc hk).2.1.1 (bS_24 (kd_0 c hc hk).2.1.2)) 0 4 rfl rfl rfl dX0_stationAt_19 ?_
    refine lv_icmp_ge (tgt := 27) hx hb dX0_stationAt_20 (by decide) (fun c_3 => ?_) (fun c_3 => ?_)
    · refine lv_iconst (v := 0) hx hb dX0_stationAt_27 (by decide) ?_
      refine lv_istore_n (lv' := [(2, .int 0), (0, .ref (σ + c)), (1, .int a1)]) hx hb dX0_stationAt_28 rfl hl (by decide) rfl (fun ls hl => ?_)
      refine lv_iload_n hx hb dX0_stationAt_29 rfl (lv_at hl 0 rfl) ?_
      refine lv_if_eq (tgt := 42) hx hb dX0_stationAt_30 (by decide) (fun c_4 => ?_) (fun c_4 => ?_)
      · refine lv_null hx hb dX0_stationAt_42 ?_
        exact gm_aret hx hb hr hlocks hS (by (try simp only [f_X0_stationAt, ↓if_neg c_1, ↓if_pos c_3]); (try rfl)) trivial dX0_stationAt_43
      · exact absurd c_4 (by decide)
    · refine lv_iconst (v := 1) hx hb dX0_stationAt_23 (by decide) ?_
      refine lv_goto (tgt := 28) hx hb dX0_stationAt_24 (by decide) ?_
      refine lv_istore_n (lv' := [(2, .int 1), (0, .ref (σ + c)), (1, .int a1)]) hx hb dX0_stationAt_28 rfl hl (by decide) rfl (fun ls hl => ?_)
      refine lv_iload_n hx hb dX0_stationAt_29 rfl (lv_at hl 0 rfl) ?_
      refine lv_if_eq (tgt := 42) hx hb dX0_stationAt_30 (by decide) (fun c_5 => ?_) (fun c_5 => ?_)
      · exact absurd c_5 (by decide)
      · refine lv_aload_n hx hb dX0_stationAt_33 rfl (lv_at hl 1 rfl) ?_
        refine va_get (D := D) (ci := 0) (v := .ref (σ + (c + 2))) (C := RX0) (T := TX0) (N := 10) hx hb hts inX0 hown hK.1 (SR.mk1 hR (c := c) hc (bS_0 hk)) 0 rfl rfl 2 (by decide) lk17 (fun _ h9 => h9) rfl dX0_stationAt_34 ?_
        refine lv_iload_n hx hb dX0_stationAt_37 rfl (lv_at hl 2 rfl) ?_
        refine gm_aald (b := (σ + (c + 2 + 1 + 2 * a1.toNatClampNeg))) hx hb hK.1 (SR.mk1 hR (c := c + 2) (kd_0 c hc hk).2.1.1 (bS_24 (kd_0 c hc hk).2.1.2)) 4 rfl (by
      refine vp_in_iff.mpr ?_
      try simp only [w_ne] at c_1 c_3
      simp only [Int32.le_iff_toInt_le, Int32.lt_iff_toInt_lt, ← Int32.toInt_inj, ti_m5, ti_0, ti_1, ti_2, ti_3, ti_4, ti_5, ti_6, ti_12, ti_19, ti_23, ti_24, ti_39, ti_40, ti_59, ti_60] at c_1 c_3 ⊢
      omega) rfl dX0_stationAt_38 ?_
        refine lv_goto (tgt := 43) hx hb dX0_stationAt_39 (by decide) ?_
        exact gm_aret hx hb hr hlocks hS (by (try simp only [f_X0_stationAt, ↓if_neg c_1, ↓if_neg c_3]); (try rfl)) trivial dX0_stationAt_43
theorem fk_X0_stationAt {X : gM} {c : Nat} {a1 : Int32} {q : Nat} (hc : c < 123) (hk : kdS c = 0) (h : f_X0_stationAt X c a1 = some q) : q < 123 ∧ kdS q = 4 := by
  unfold f_X0_stationAt at h
  split at h
  · cases h
  · rename_i h1
    split at h
    · cases h
    · rename_i h2
      cases h
      have hv : a1.toNatClampNeg < 6 := g_vl (n := 6) (vp_in_iff.mpr (by
        simp only [w_ne] at h1
        simp only [Int32.le_iff_toInt_le, Int32.lt_iff_toInt_lt, ti_0, ti_6] at h1 h2 ⊢
        omega))
      exact ⟨((kd_0 c hc hk).2.2 _ hv).1, ((kd_0 c hc hk).2.2 _ hv).2.1⟩
def lf_X0_hasOffset_2 (X : gM) (c : Nat) (a1 : Int32) (K : (Nat) → (Int32)) : Nat → (Nat) → (Int32)
  | 0, k_2 => K k_2
  | n + 1, k_2 =>
    if X c 3 ≤ nI k_2 then
      K k_2
    else
      if 6 ≤ nI k_2 then
        K k_2
      else
        if X (c + 2 + 1 + 2 * k_2) 5 = a1 then
          1
        else
          lf_X0_hasOffset_2 X c a1 K n (k_2 + 1)
def f_X0_hasOffset (X : gM) (c : Nat) (a1 : Int32) : Int32 :=
  lf_X0_hasOffset_2 X c a1 (fun k_2w1 =>
        0) 7 0
set_option maxHeartbeats 4000000 in
set_option maxRecDepth 100000 in
theorem lp_X0_hasOffset_2 {p : Program} {l : Launch} {e : Env} {s : State} {m : MethodId} {args : Array Value} {below : List Frame} {meth : Method} {c0 : Code} {D : va_G} {cy : Nat → ClassId} (C : gCtx cX0_hasOffset 3 (some .boolean) RX0 wsX0_hasOffset D cy p s m args meth c0) (σ : Nat) (X : gM) (c : Nat) (a1 : Int32) (hc : c < 123) (hk : kdS c = 0)
    (K : (Nat) → (Int32)) (hexit : ∀ (k_2 : Nat), k_2 ≤ 6 → ∀ (H : Heap) (locs : List Loc) (ls : Array Slot), SR D cy σ X H → va_S gNo s.heap H locs → lv_has ls 3 [(0, .ref (σ + c)), (1, .int a1), (2, .int (nI k_2))] → W p l e { frames := 0, cells := 0, slots := 0, locals := 0 } s m args below meth c0 H locs 0 0 (MQ below (gQi (K k_2) (fun _ => True) gNo) args s 0 0 gNo) (F0 m 40 ls [])) :
    ∀ (n : Nat) (k_2 : Nat), k_2 ≤ 6 → 6 < k_2 + n → ∀ (H : Heap) (locs : List Loc) (ls : Array Slot), SR D cy σ X H → va_S gNo s.heap H locs → lv_has ls 3 [(0, .ref (σ + c)), (1, .int a1), (2, .int (nI k_2))] → W p l e { frames := 0, cells := 0, slots := 0, locals := 0 } s m args below meth c0 H locs 0 0 (MQ below (gQi (lf_X0_hasOffset_2 X c a1 K n k_2) (fun _ => True) gNo) args s 0 0 gNo) (F0 m 2 ls []) := by
  obtain ⟨hx, hb, hr, hts, hown, hlocks, hml, hK⟩ := C
  have lk41 := hts (.fieldLink RX0 41 "MercuryLine$Line" "stationCount" "I") (by decide +kernel)
  have inX0 : ∀ w ∈ u_ws RX0 TX0 10, w ∈ wsX0_hasOffset := by decide +kernel
  have lk17 := hts (.fieldLink RX0 17 "MercuryLine$Line" "stations" "[LMercuryLine$Station;") (by decide +kernel)
  have lk67 := hts (.fieldLink RX0 67 "MercuryLine$Station" "offset" "I") (by decide +kernel)
  have inX4 : ∀ w ∈ u_ws RX4 TX4 10, w ∈ wsX0_hasOffset := by decide +kernel
  intro n
  induction n with
  | zero =>
    intro k_2 hb_2 hme
    exact absurd hme (by omega)
  | succ n ih =>
    intro k_2 hb_2 hme H locs ls hR hS hl
    refine lv_iload_n hx hb dX0_hasOffset_2 rfl (lv_at hl 2 rfl) ?_
    refine lv_aload_n hx hb dX0_hasOffset_3 rfl (lv_at hl 0 rfl) ?_
    refine va_get (D := D) (ci := 0) (v := .int (X c 3)) (C := RX0) (T := TX0) (N := 10) hx hb hts inX0 hown hK.1 (SR.mk1 hR (c := c) hc (bS_0 hk)) 0 rfl rfl 3 (by decide) lk41 (fun _ h9 => h9) rfl dX0_hasOffset_4 ?_
    refine lv_icmp_ge (tgt := 40) hx hb dX0_hasOffset_7 (by decide) (fun c_1 => ?_) (fun c_1 => ?_)
    · refine gm_q (Q2 := MQ below (gQi (K k_2) (fun _ => True) gNo) args s 0 0 gNo) (by simp only [lf_X0_hasOffset_2, ↓if_pos c_1]) ?_
      exact hexit k_2 hb_2  _ _ _ hR hS (lv_sub hl [0, 1, 2] rfl)
    · have lt_2 : k_2 < 2147483647 := g_big (Nat.lt_of_le_of_lt hb_2 (by decide)) c_1
      refine lv_iload_n hx hb dX0_hasOffset_10 rfl (lv_at hl 2 rfl) ?_
      refine lv_aload_n hx hb dX0_hasOffset_11 rfl (lv_at hl 0 rfl) ?_
      refine va_get (D := D) (ci := 0) (v := .ref (σ + (c + 2))) (C := RX0) (T := TX0) (N := 10) hx hb hts inX0 hown hK.1 (SR.mk1 hR (c := c) hc (bS_0 hk)) 0 rfl rfl 2 (by decide) lk17 (fun _ h9 => h9) rfl dX0_hasOffset_12 ?_
      refine va_alen (v := 6) hx hb hK.1 (SR.mk1 hR (c := c + 2) (kd_0 c hc hk).2.1.1 (bS_24 (kd_0 c hc hk).2.1.2)) 0 4 rfl rfl rfl dX0_hasOffset_15 ?_
      refine lv_icmp_ge (tgt := 40) hx hb dX0_hasOffset_16 (by decide) (fun c_3 => ?_) (fun c_3 => ?_)
      · have ge_4 : 6 ≤ k_2 := g_ge2 (Nat.lt_of_le_of_lt hb_2 (by decide)) (by decide) c_3
        refine gm_q (Q2 := MQ below (gQi (K k_2) (fun _ => True) gNo) args s 0 0 gNo) (by simp only [lf_X0_hasOffset_2, ↓if_neg c_1, ↓if_pos c_3]) ?_
        exact hexit k_2 hb_2  _ _ _ hR hS (lv_sub hl [0, 1, 2] rfl)
      · have lt_5 : k_2 < 6 := g_lt (Nat.lt_of_le_of_lt hb_2 (by decide)) (by decide) c_3
        refine lv_aload_n hx hb dX0_hasOffset_19 rfl (lv_at hl 0 rfl) ?_
        refine va_get (D := D) (ci := 0) (v := .ref (σ + (c + 2))) (C := RX0) (T := TX0) (N := 10) hx hb hts inX0 hown hK.1 (SR.mk1 hR (c := c) hc (bS_0 hk)) 0 rfl rfl 2 (by decide) lk17 (fun _ h9 => h9) rfl dX0_hasOffset_20 ?_
        refine lv_iload_n hx hb dX0_hasOffset_23 rfl (lv_at hl 2 rfl) ?_
        refine gm_aald (b := (σ + (c + 2 + 1 + 2 * k_2))) hx hb hK.1 (SR.mk1 hR (c := c + 2) (kd_0 c hc hk).2.1.1 (bS_24 (kd_0 c hc hk).2.1.2)) 4 rfl (vp_in_nI lt_5 (by decide)) (by rw [nI_clamp (n := k_2) (by omega)]) dX0_hasOffset_24 ?_
        refine va_get (D := D) (ci := 4) (v := .int (X (c + 2 + 1 + 2 * k_2) 5)) (C := RX4) (T := TX4) (N := 10) hx hb hts inX4 hown hK.1 (SR.mk1 hR (c := c + 2 + 1 + 2 * k_2) (kd_24 (c + 2) (kd_0 c hc hk).2.1.1 (kd_0 c hc hk).2.1.2 k_2 lt_5).1 (bS_4 (kd_24 (c + 2) (kd_0 c hc hk).2.1.1 (kd_0 c hc hk).2.1.2 k_2 lt_5).2)) 0 rfl rfl 5 (by decide) lk67 (fun _ h9 => h9) rfl dX0_hasOffset_25 ?_
        refine lv_iload_n hx hb dX0_hasOffset_28 rfl (lv_at hl 1 rfl) ?_
        refine lv_icmp_ne (tgt := 34) hx hb dX0_hasOffset_29 (by decide) (fun c_6 => ?_) (fun c_6 => ?_)
        · refine lv_iinc (v := nI (k_2 + 1)) (lv' := [(2, .int (nI (k_2 + 1))), (0, .ref (σ + c)), (1, .int a1)]) hx hb dX0_hasOffset_34 hl (k := 2) rfl (nI_1 _) (by decide) rfl (fun ls hl => ?_)
          refine lv_goto (tgt := 2) hx hb dX0_hasOffset_37 (by decide) ?_
          refine gm_q (Q2 := MQ below (gQi (lf_X0_hasOffset_2 X c a1 K n (k_2 + 1)) (fun _ => True) gNo) args s 0 0 gNo) (by simp only [lf_X0_hasOffset_2, ↓if_neg c_1, ↓if_neg c_3, ↓if_neg c_6]) ?_
          exact ih (k_2 + 1) lt_5 (by omega) _ _ _ hR hS (lv_sub hl [1, 2, 0] rfl)
        · refine lv_iconst (v := 1) hx hb dX0_hasOffset_32 (by decide) ?_
          exact gm_zret hx hb hr hlocks rfl hS (by (try simp only [lf_X0_hasOffset_2, ↓if_neg c_1, ↓if_neg c_3, ↓if_pos c_6]); (try rfl)) trivial dX0_hasOffset_33
set_option maxHeartbeats 4000000 in
set_option maxRecDepth 100000 in
theorem c_X0_hasOffset (l : Launch) (D : va_G) (cy : Nat → ClassId) (σ : Nat) (X : gM) (c : Nat) (a1 : Int32) (hc : c < 123) (hk : kdS c = 0) : Met l yX0_hasOffset wsX0_hasOffset ({ frames := 0, cells := 0, slots := 0, locals := 0 }) (gP [.ref (σ + c), .int a1] D cy (SR D cy σ X)) (gQi (f_X0_hasOffset X c a1) (fun _ => True) gNo) 0 0 gNo := by
  refine gm_met (cc := cX0_hasOffset) (maxL := 3) (ret := (some .boolean)) [.ref (σ + c), .int a1] (by decide) rfl (Nat.le_of_ble_eq_true rfl) ?_
  intro p e s m args below meth c0 ls C hR hl
  obtain ⟨hx, hb, hr, hts, hown, hlocks, hml, hK⟩ := C
  have hl : lv_has ls 3 [(0, .ref (σ + c)), (1, .int a1)] := hl
  have hS : va_S gNo s.heap s.heap [] := va_S.rf
  refine lv_iconst (v := 0) hx hb dX0_hasOffset_0 (by decide) ?_
  refine lv_istore_n (lv' := [(2, .int 0), (0, .ref (σ + c)), (1, .int a1)]) hx hb dX0_hasOffset_1 rfl hl (by decide) rfl (fun ls hl => ?_)
  refine gm_q (Q2 := MQ below (gQi (lf_X0_hasOffset_2 X c a1 (fun k_2w1 =>
        0) 7 0) (fun _ => True) gNo) args s 0 0 gNo) (by simp only [f_X0_hasOffset]) ?_
  refine lp_X0_hasOffset_2 ⟨hx, hb, hr, hts, hown, hlocks, hml, hK⟩ σ X c a1 hc hk _ (fun k_2w1 hbk_2w1 H locs ls hR hS hl => ?_) 7 0 (by decide) (by omega) _ _ _ hR hS (lv_sub hl [1, 2, 0] rfl)
  refine lv_iconst (v := 0) hx hb dX0_hasOffset_40 (by decide) ?_
  exact gm_zret hx hb hr hlocks rfl hS (by (try simp only [f_X0_hasOffset]); (try rfl)) trivial dX0_hasOffset_41
def lf_X0_hasOffsetFrom_2 (X : gM) (c : Nat) (a1 : Int32) (K : (Nat) → (Int32)) : Nat → (Nat) → (Int32)
  | 0, k_2 => K k_2
  | n + 1, k_2 =>
    if X c 3 ≤ nI k_2 then
      K k_2
    else
      if 6 ≤ nI k_2 then
        K k_2
      else
        if X (c + 2 + 1 + 2 * k_2) 5 < a1 then
          lf_X0_hasOffsetFrom_2 X c a1 K n (k_2 + 1)
        else
          1
def f_X0_hasOffsetFrom (X : gM) (c : Nat) (a1 : Int32) : Int32 :=
  lf_X0_hasOffsetFrom_2 X c a1 (fun k_2w1 =>
        0) 7 0
set_option maxHeartbeats 4000000 in
set_option maxRecDepth 100000 in
theorem lp_X0_hasOffsetFrom_2 {p : Program} {l : Launch} {e : Env} {s : State} {m : MethodId} {args : Array Value} {below : List Frame} {meth : Method} {c0 : Code} {D : va_G} {cy : Nat → ClassId} (C : gCtx cX0_hasOffsetFrom 3 (some .boolean) RX0 wsX0_hasOffsetFrom D cy p s m args meth c0) (σ : Nat) (X : gM) (c : Nat) (a1 : Int32) (hc : c < 123) (hk : kdS c = 0)
    (K : (Nat) → (Int32)) (hexit : ∀ (k_2 : Nat), k_2 ≤ 6 → ∀ (H : Heap) (locs : List Loc) (ls : Array Slot), SR D cy σ X H → va_S gNo s.heap H locs → lv_has ls 3 [(0, .ref (σ + c)), (1, .int a1), (2, .int (nI k_2))] → W p l e { frames := 0, cells := 0, slots := 0, locals := 0 } s m args below meth c0 H locs 0 0 (MQ below (gQi (K k_2) (fun _ => True) gNo) args s 0 0 gNo) (F0 m 40 ls [])) :
    ∀ (n : Nat) (k_2 : Nat), k_2 ≤ 6 → 6 < k_2 + n → ∀ (H : Heap) (locs : List Loc) (ls : Array Slot), SR D cy σ X H → va_S gNo s.heap H locs → lv_has ls 3 [(0, .ref (σ + c)), (1, .int a1), (2, .int (nI k_2))] → W p l e { frames := 0, cells := 0, slots := 0, locals := 0 } s m args below meth c0 H locs 0 0 (MQ below (gQi (lf_X0_hasOffsetFrom_2 X c a1 K n k_2) (fun _ => True) gNo) args s 0 0 gNo) (F0 m 2 ls []) := by
  obtain ⟨hx, hb, hr, hts, hown, hlocks, hml, hK⟩ := C
  have lk41 := hts (.fieldLink RX0 41 "MercuryLine$Line" "stationCount" "I") (by decide +kernel)
  have inX0 : ∀ w ∈ u_ws RX0 TX0 10, w ∈ wsX0_hasOffsetFrom := by decide +kernel
  have lk17 := hts (.fieldLink RX0 17 "MercuryLine$Line" "stations" "[LMercuryLine$Station;") (by decide +kernel)
  have lk67 := hts (.fieldLink RX0 67 "MercuryLine$Station" "offset" "I") (by decide +kernel)
  have inX4 : ∀ w ∈ u_ws RX4 TX4 10, w ∈ wsX0_hasOffsetFrom := by decide +kernel
  intro n
  induction n with
  | zero =>
    intro k_2 hb_2 hme
    exact absurd hme (by omega)
  | succ n ih =>
    intro k_2 hb_2 hme H locs ls hR hS hl
    refine lv_iload_n hx hb dX0_hasOffsetFrom_2 rfl (lv_at hl 2 rfl) ?_
    refine lv_aload_n hx hb dX0_hasOffsetFrom_3 rfl (lv_at hl 0 rfl) ?_
    refine va_get (D := D) (ci := 0) (v := .int (X c 3)) (C := RX0) (T := TX0) (N := 10) hx hb hts inX0 hown hK.1 (SR.mk1 hR (c := c) hc (bS_0 hk)) 0 rfl rfl 3 (by decide) lk41 (fun _ h9 => h9) rfl dX0_hasOffsetFrom_4 ?_
    refine lv_icmp_ge (tgt := 40) hx hb dX0_hasOffsetFrom_7 (by decide) (fun c_1 => ?_) (fun c_1 => ?_)
    · refine gm_q (Q2 := MQ below (gQi (K k_2) (fun _ => True) gNo) args s 0 0 gNo) (by simp only [lf_X0_hasOffsetFrom_2, ↓if_pos c_1]) ?_
      exact hexit k_2 hb_2  _ _ _ hR hS (lv_sub hl [0, 1, 2] rfl)
    · have lt_2 : k_2 < 2147483647 := g_big (Nat.lt_of_le_of_lt hb_2 (by decide)) c_1
      refine lv_iload_n hx hb dX0_hasOffsetFrom_10 rfl (lv_at hl 2 rfl) ?_
      refine lv_aload_n hx hb dX0_hasOffsetFrom_11 rfl (lv_at hl 0 rfl) ?_
      refine va_get (D := D) (ci := 0) (v := .ref (σ + (c + 2))) (C := RX0) (T := TX0) (N := 10) hx hb hts inX0 hown hK.1 (SR.mk1 hR (c := c) hc (bS_0 hk)) 0 rfl rfl 2 (by decide) lk17 (fun _ h9 => h9) rfl dX0_hasOffsetFrom_12 ?_
      refine va_alen (v := 6) hx hb hK.1 (SR.mk1 hR (c := c + 2) (kd_0 c hc hk).2.1.1 (bS_24 (kd_0 c hc hk).2.1.2)) 0 4 rfl rfl rfl dX0_hasOffsetFrom_15 ?_
      refine lv_icmp_ge (tgt := 40) hx hb dX0_hasOffsetFrom_16 (by decide) (fun c_3 => ?_) (fun c_3 => ?_)
      · have ge_4 : 6 ≤ k_2 := g_ge2 (Nat.lt_of_le_of_lt hb_2 (by decide)) (by decide) c_3
        refine gm_q (Q2 := MQ below (gQi (K k_2) (fun _ => True) gNo) args s 0 0 gNo) (by simp only [lf_X0_hasOffsetFrom_2, ↓if_neg c_1, ↓if_pos c_3]) ?_
        exact hexit k_2 hb_2  _ _ _ hR hS (lv_sub hl [0, 1, 2] rfl)
      · have lt_5 : k_2 < 6 := g_lt (Nat.lt_of_le_of_lt hb_2 (by decide)) (by decide) c_3
        refine lv_aload_n hx hb dX0_hasOffsetFrom_19 rfl (lv_at hl 0 rfl) ?_
        refine va_get (D := D) (ci := 0) (v := .ref (σ + (c + 2))) (C := RX0) (T := TX0) (N := 10) hx hb hts inX0 hown hK.1 (SR.mk1 hR (c := c) hc (bS_0 hk)) 0 rfl rfl 2 (by decide) lk17 (fun _ h9 => h9) rfl dX0_hasOffsetFrom_20 ?_
        refine lv_iload_n hx hb dX0_hasOffsetFrom_23 rfl (lv_at hl 2 rfl) ?_
        refine gm_aald (b := (σ + (c + 2 + 1 + 2 * k_2))) hx hb hK.1 (SR.mk1 hR (c := c + 2) (kd_0 c hc hk).2.1.1 (bS_24 (kd_0 c hc hk).2.1.2)) 4 rfl (vp_in_nI lt_5 (by decide)) (by rw [nI_clamp (n := k_2) (by omega)]) dX0_hasOffsetFrom_24 ?_
        refine va_get (D := D) (ci := 4) (v := .int (X (c + 2 + 1 + 2 * k_2) 5)) (C := RX4) (T := TX4) (N := 10) hx hb hts inX4 hown hK.1 (SR.mk1 hR (c := c + 2 + 1 + 2 * k_2) (kd_24 (c + 2) (kd_0 c hc hk).2.1.1 (kd_0 c hc hk).2.1.2 k_2 lt_5).1 (bS_4 (kd_24 (c + 2) (kd_0 c hc hk).2.1.1 (kd_0 c hc hk).2.1.2 k_2 lt_5).2)) 0 rfl rfl 5 (by decide) lk67 (fun _ h9 => h9) rfl dX0_hasOffsetFrom_25 ?_
        refine lv_iload_n hx hb dX0_hasOffsetFrom_28 rfl (lv_at hl 1 rfl) ?_
        refine lv_icmp_lt (tgt := 34) hx hb dX0_hasOffsetFrom_29 (by decide) (fun c_6 => ?_) (fun c_6 => ?_)
        · refine lv_iinc (v := nI (k_2 + 1)) (lv' := [(2, .int (nI (k_2 + 1))), (0, .ref (σ + c)), (1, .int a1)]) hx hb dX0_hasOffsetFrom_34 hl (k := 2) rfl (nI_1 _) (by decide) rfl (fun ls hl => ?_)
          refine lv_goto (tgt := 2) hx hb dX0_hasOffsetFrom_37 (by decide) ?_
          refine gm_q (Q2 := MQ below (gQi (lf_X0_hasOffsetFrom_2 X c a1 K n (k_2 + 1)) (fun _ => True) gNo) args s 0 0 gNo) (by simp only [lf_X0_hasOffsetFrom_2, ↓if_neg c_1, ↓if_neg c_3, ↓if_pos c_6]) ?_
          exact ih (k_2 + 1) lt_5 (by omega) _ _ _ hR hS (lv_sub hl [1, 2, 0] rfl)
        · refine lv_iconst (v := 1) hx hb dX0_hasOffsetFrom_32 (by decide) ?_
          exact gm_zret hx hb hr hlocks rfl hS (by (try simp only [lf_X0_hasOffsetFrom_2, ↓if_neg c_1, ↓if_neg c_3, ↓if_neg c_6]); (try rfl)) trivial dX0_hasOffsetFrom_33
set_option maxHeartbeats 4000000 in
set_option maxRecDepth 100000 in
theorem c_X0_hasOffsetFrom (l : Launch) (D : va_G) (cy : Nat → ClassId) (σ : Nat) (X : gM) (c : Nat) (a1 : Int32) (hc : c < 123) (hk : kdS c = 0) : Met l yX0_hasOffsetFrom wsX0_hasOffsetFrom ({ frames := 0, cells := 0, slots := 0, locals := 0 }) (gP [.ref (σ + c), .int a1] D cy (SR D cy σ X)) (gQi (f_X0_hasOffsetFrom X c a1) (fun _ => True) gNo) 0 0 gNo := by
  refine gm_met (cc := cX0_hasOffsetFrom) (maxL := 3) (ret := (some .boolean)) [.ref (σ + c), .int a1] (by decide) rfl (Nat.le_of_ble_eq_true rfl) ?_
  intro p e s m args below meth c0 ls C hR hl
  obtain ⟨hx, hb, hr, hts, hown, hlocks, hml, hK⟩ := C
  have hl : lv_has ls 3 [(0, .ref (σ + c)), (1, .int a1)] := hl
  have hS : va_S gNo s.heap s.heap [] := va_S.rf
  refine lv_iconst (v := 0) hx hb dX0_hasOffsetFrom_0 (by decide) ?_
  refine lv_istore_n (lv' := [(2, .int 0), (0, .ref (σ + c)), (1, .int a1)]) hx hb dX0_hasOffsetFrom_1 rfl hl (by decide) rfl (fun ls hl => ?_)
  refine gm_q (Q2 := MQ below (gQi (lf_X0_hasOffsetFrom_2 X c a1 (fun k_2w1 =>
        0) 7 0) (fun _ => True) gNo) args s 0 0 gNo) (by simp only [f_X0_hasOffsetFrom]) ?_
  refine lp_X0_hasOffsetFrom_2 ⟨hx, hb, hr, hts, hown, hlocks, hml, hK⟩ σ X c a1 hc hk _ (fun k_2w1 hbk_2w1 H locs ls hR hS hl => ?_) 7 0 (by decide) (by omega) _ _ _ hR hS (lv_sub hl [1, 2, 0] rfl)
  refine lv_iconst (v := 0) hx hb dX0_hasOffsetFrom_40 (by decide) ?_
  exact gm_zret hx hb hr hlocks rfl hS (by (try simp only [f_X0_hasOffsetFrom]); (try rfl)) trivial dX0_hasOffsetFrom_41
def f_X0_hall (X : gM) (c : Nat) : Int32 :=
  20 + (nI (nLin c))
set_option maxHeartbeats 4000000 in
set_option maxRecDepth 100000 in
theorem c_X0_hall (l : Launch) (D : va_G) (cy : Nat → ClassId) (σ : Nat) (X : gM) (c : Nat) (hc : c < 123) (hk : kdS c = 0) : Met l yX0_hall wsX0_hall ({ frames := 0, cells := 0, slots := 0, locals := 0 }) (gP [.ref (σ + c)] D cy (SR D cy σ X)) (gQi (f_X0_hall X c) (fun _ => True) gNo) 0 0 gNo := by
  refine gm_met (cc := cX0_hall) (maxL := 1) (ret := (some .int)) [.ref (σ + c)] (by decide) rfl (Nat.le_of_ble_eq_true rfl) ?_
  intro p e s m args below meth c0 ls C hR hl
  obtain ⟨hx, hb, hr, hts, hown, hlocks, hml, hK⟩ := C
  have hl : lv_has ls 1 [(0, .ref (σ + c))] := hl
  have hS : va_S gNo s.heap s.heap [] := va_S.rf
  have lk25 := hts (.fieldLink RX0 25 "MercuryLine$Line" "number" "I") (by decide +kernel)
  have inX0 : ∀ w ∈ u_ws RX0 TX0 10, w ∈ wsX0_hall := by decide +kernel
  refine lv_bipush (v := 20) hx hb dX0_hall_0 (by decide) ?_
  refine lv_aload_n hx hb dX0_hall_2 rfl (lv_at hl 0 rfl) ?_
  refine va_get (D := D) (ci := 0) (v := .int (nI (nLin c))) (C := RX0) (T := TX0) (N := 10) hx hb hts inX0 hown hK.1 (SR.mk1 hR (c := c) hc (bS_0 hk)) 0 rfl rfl 0 (by decide) lk25 (fun _ h9 => h9) rfl dX0_hall_3 ?_
  refine lv_iadd hx hb dX0_hall_6 ?_
  exact gm_iret hx hb hr hlocks hS (by (try simp only [f_X0_hall]); (try rfl)) trivial dX0_hall_7
def f_X0_around (X : gM) (c : Nat) (a1 : Int32) : Int32 :=
  if X c 4 ≤ 0 then
    0
  else
    a1 - a1 / (X c 4) * (X c 4)
set_option maxHeartbeats 4000000 in
set_option maxRecDepth 100000 in
theorem c_X0_around (l : Launch) (D : va_G) (cy : Nat → ClassId) (σ : Nat) (X : gM) (c : Nat) (a1 : Int32) (hc : c < 123) (hk : kdS c = 0) : Met l yX0_around wsX0_around ({ frames := 0, cells := 0, slots := 0, locals := 0 }) (gP [.ref (σ + c), .int a1] D cy (SR D cy σ X)) (gQi (f_X0_around X c a1) (fun _ => True) gNo) 0 0 gNo := by
  refine gm_met (cc := cX0_around) (maxL := 2) (ret := (some .int)) [.ref (σ + c), .int a1] (by decide) rfl (Nat.le_of_ble_eq_true rfl) ?_
  intro p e s m args below meth c0 ls C hR hl
  obtain ⟨hx, hb, hr, hts, hown, hlocks, hml, hK⟩ := C
  have hl : lv_has ls 2 [(0, .ref (σ + c)), (1, .int a1)] := hl
  have hS : va_S gNo s.heap s.heap [] := va_S.rf
  have lk21 := hts (.fieldLink RX0 21 "MercuryLine$Line" "slots" "I") (by decide +kernel)
  have inX0 : ∀ w ∈ u_ws RX0 TX0 10, w ∈ wsX0_around := by decide +kernel
  refine lv_aload_n hx hb dX0_around_0 rfl (lv_at hl 0 rfl) ?_
  refine va_get (D := D) (ci := 0) (v := .int (X c 4)) (C := RX0) (T := TX0) (N := 10) hx hb hts inX0 hown hK.1 (SR.mk1 hR (c := c) hc (bS_0 hk)) 0 rfl rfl 4 (by decide) lk21 (fun _ h9 => h9) rfl dX0_around_1 ?_
  refine lv_if_le (tgt := 16) hx hb dX0_around_4 (by decide) (fun c_1 => ?_) (fun c_1 => ?_)
  · refine lv_iconst (v := 0) hx hb dX0_around_16 (by decide) ?_
    exact gm_iret hx hb hr hlocks hS (by (try simp only [f_X0_around, ↓if_pos c_1]); (try rfl)) trivial dX0_around_17
  · refine lv_iload_n hx hb dX0_around_7 rfl (lv_at hl 1 rfl) ?_
    refine lv_aload_n hx hb dX0_around_8 rfl (lv_at hl 0 rfl) ?_
    refine va_get (D := D) (ci := 0) (v := .int (X c 4)) (C := RX0) (T := TX0) (N := 10) hx hb hts inX0 hown hK.1 (SR.mk1 hR (c := c) hc (bS_0 hk)) 0 rfl rfl 4 (by decide) lk21 (fun _ h9 => h9) rfl dX0_around_9 ?_
    refine lv_irem hx hb dX0_around_12 (fun h0 => by
      have h1 := congrArg Int32.toInt h0
      simp only [ti_0] at h1
      simp only [Int32.le_iff_toInt_le, Int32.lt_iff_toInt_lt, ← Int32.toInt_inj, ti_m5, ti_0, ti_1, ti_2, ti_3, ti_4, ti_5, ti_6, ti_12, ti_19, ti_23, ti_24, ti_39, ti_40, ti_59, ti_60] at c_1
      omega) ?_
    refine lv_goto (tgt := 17) hx hb dX0_around_13 (by decide) ?_
    exact gm_iret hx hb hr hlocks hS (by (try simp only [f_X0_around, ↓if_neg c_1]); (try rfl)) trivial dX0_around_17
def f_X0_slotAt (X : gM) (c : Nat) (a1 : Int32) : Int32 :=
  f_X0_around X c ((X c 5) + a1)
set_option maxHeartbeats 4000000 in
set_option maxRecDepth 100000 in
theorem c_X0_slotAt (l : Launch) (D : va_G) (cy : Nat → ClassId) (σ : Nat) (X : gM) (c : Nat) (a1 : Int32) (hc : c < 123) (hk : kdS c = 0) : Met l yX0_slotAt wsX0_slotAt ({ frames := 1, cells := 0, slots := 0, locals := 21 }) (gP [.ref (σ + c), .int a1] D cy (SR D cy σ X)) (gQi (f_X0_slotAt X c a1) (fun _ => True) gNo) 0 0 gNo := by
  refine gm_met (cc := cX0_slotAt) (maxL := 2) (ret := (some .int)) [.ref (σ + c), .int a1] (by decide) rfl (Nat.le_of_ble_eq_true rfl) ?_
  intro p e s m args below meth c0 ls C hR hl
  obtain ⟨hx, hb, hr, hts, hown, hlocks, hml, hK⟩ := C
  have hl : lv_has ls 2 [(0, .ref (σ + c)), (1, .int a1)] := hl
  have hS : va_S gNo s.heap s.heap [] := va_S.rf
  have lk44 := hts (.fieldLink RX0 44 "MercuryLine$Line" "phase" "I") (by decide +kernel)
  have inX0 : ∀ w ∈ u_ws RX0 TX0 10, w ∈ wsX0_slotAt := by decide +kernel
  refine lv_aload_n hx hb dX0_slotAt_0 rfl (lv_at hl 0 rfl) ?_
  refine lv_aload_n hx hb dX0_slotAt_1 rfl (lv_at hl 0 rfl) ?_
  refine va_get (D := D) (ci := 0) (v := .int (X c 5)) (C := RX0) (T := TX0) (N := 10) hx hb hts inX0 hown hK.1 (SR.mk1 hR (c := c) hc (bS_0 hk)) 0 rfl rfl 5 (by decide) lk44 (fun _ h9 => h9) rfl dX0_slotAt_2 ?_
  refine lv_iload_n hx hb dX0_slotAt_5 rfl (lv_at hl 1 rfl) ?_
  refine lv_iadd hx hb dX0_slotAt_6 ?_
  refine gm_ci (gm_call (As := [.int ((X c 5) + a1)]) (rest := []) (ci := 0) (q := (RX0, TX0, 10)) ⟨hx, hb, hml, hown, hts⟩ hK (c_X0_around l D cy σ X c ((X c 5) + a1) hc hk) (cwV 1 hts gX0_slotAt_X0_around rfl rfl rfl (by decide +kernel) ⟨Nat.le_of_ble_eq_true rfl, Nat.le_of_ble_eq_true rfl⟩) (SR.mk1 hR (c := c) hc (bS_0 hk)) rfl hR rfl hl.1 rfl (Nat.le_of_ble_eq_true rfl) dX0_slotAt_7 (Nat.zero_le _) (Nat.zero_le _)) hS (fun _ h => h.elim) (fun H locs _ _ hfr hS => ?_)
  have hR := gRep.keep hR hfr (fun _ _ h => h)
  exact gm_iret hx hb hr hlocks hS (by (try simp only [f_X0_slotAt]); (try rfl)) trivial dX0_slotAt_10
def f_X0_riderIn (X : gM) (c : Nat) (a1 : Int32) : Int32 :=
  if f_X8_within a1 0 23 = 0 then
    (-5)
  else
    X (c + 1) a1.toNatClampNeg
set_option maxHeartbeats 4000000 in
set_option maxRecDepth 100000 in
theorem c_X0_riderIn (l : Launch) (D : va_G) (cy : Nat → ClassId) (σ : Nat) (X : gM) (c : Nat) (a1 : Int32) (hc : c < 123) (hk : kdS c = 0) : Met l yX0_riderIn wsX0_riderIn ({ frames := 1, cells := 0, slots := 0, locals := 22 }) (gP [.ref (σ + c), .int a1] D cy (SR D cy σ X)) (gQi (f_X0_riderIn X c a1) (fun _ => True) gNo) 0 0 gNo := by
  refine gm_met (cc := cX0_riderIn) (maxL := 2) (ret := (some .int)) [.ref (σ + c), .int a1] (by decide) rfl (Nat.le_of_ble_eq_true rfl) ?_
  intro p e s m args below meth c0 ls C hR hl
  obtain ⟨hx, hb, hr, hts, hown, hlocks, hml, hK⟩ := C
  have hl : lv_has ls 2 [(0, .ref (σ + c)), (1, .int a1)] := hl
  have hS : va_S gNo s.heap s.heap [] := va_S.rf
  have lk11 := hts (.fieldLink RX0 11 "MercuryLine$Line" "riders" "[I") (by decide +kernel)
  have inX0 : ∀ w ∈ u_ws RX0 TX0 10, w ∈ wsX0_riderIn := by decide +kernel
  refine lv_iload_n hx hb dX0_riderIn_0 rfl (lv_at hl 1 rfl) ?_
  refine lv_iconst (v := 0) hx hb dX0_riderIn_1 (by decide) ?_
  refine lv_aload_n hx hb dX0_riderIn_2 rfl (lv_at hl 0 rfl) ?_
  refine va_get (D := D) (ci := 0) (v := .ref (σ + (c + 1))) (C := RX0) (T := TX0) (N := 10) hx hb hts inX0 hown hK.1 (SR.mk1 hR (c := c) hc (bS_0 hk)) 0 rfl rfl 1 (by decide) lk11 (fun _ h9 => h9) rfl dX0_riderIn_3 ?_
  refine va_alen (v := 24) hx hb hK.1 (SR.mk1 hR (c := c + 1) (kd_0 c hc hk).1.1 (bS_20 (kd_0 c hc hk).1.2)) 0 0 rfl rfl rfl dX0_riderIn_6 ?_
  refine lv_iconst (v := 1) hx hb dX0_riderIn_7 (by decide) ?_
  refine lv_isub hx hb dX0_riderIn_8 ?_
  rw [show (24 - 1 : Int32) = 23 from by decide]
  refine gm_ci (gm_callN (As := [.int a1, .int 0, .int 23]) (rest := []) ⟨hx, hb, hml, hown, hts⟩ hK (c_X8_within l D cy a1 0 23) ⟨va_cnB 3 hts gX0_riderIn_X8_within_n59 rfl rfl rfl (hK.2.1 (RX0, 59, yX8_within, "MercuryLine") (by decide +kernel)) (hts (.initialized RX8) (by decide +kernel)) (by decide +kernel) ⟨Nat.le_of_ble_eq_true rfl, Nat.le_of_ble_eq_true rfl⟩, hts (.static yX8_within) (by decide +kernel), trivial⟩ trivial rfl hl.1 rfl (Nat.le_of_ble_eq_true rfl) dX0_riderIn_9 (Nat.zero_le _) (Nat.zero_le _)) hS (fun _ h => h.elim) (fun H locs _ _ hfr hS => ?_)
  have hR := gRep.keep hR hfr (fun _ _ h => h)
  refine lv_if_eq (tgt := 24) hx hb dX0_riderIn_12 (by decide) (fun c_1 => ?_) (fun c_1 => ?_)
  · refine lv_bipush (v := (-5)) hx hb dX0_riderIn_24 (by decide) ?_
    exact gm_iret hx hb hr hlocks hS (by (try simp only [f_X0_riderIn, ↓if_pos c_1]); (try rfl)) trivial dX0_riderIn_26
  · refine lv_aload_n hx hb dX0_riderIn_15 rfl (lv_at hl 0 rfl) ?_
    refine va_get (D := D) (ci := 0) (v := .ref (σ + (c + 1))) (C := RX0) (T := TX0) (N := 10) hx hb hts inX0 hown hK.1 (SR.mk1 hR (c := c) hc (bS_0 hk)) 0 rfl rfl 1 (by decide) lk11 (fun _ h9 => h9) rfl dX0_riderIn_16 ?_
    refine lv_iload_n hx hb dX0_riderIn_19 rfl (lv_at hl 1 rfl) ?_
    refine gm_iald hx hb hK.1 (SR.mk1 hR (c := c + 1) (kd_0 c hc hk).1.1 (bS_20 (kd_0 c hc hk).1.2)) (by
      refine vp_in_iff.mpr ?_
      try simp only [w_ne] at c_1
      simp only [Int32.le_iff_toInt_le, Int32.lt_iff_toInt_lt, ← Int32.toInt_inj, ti_m5, ti_0, ti_1, ti_2, ti_3, ti_4, ti_5, ti_6, ti_12, ti_19, ti_23, ti_24, ti_39, ti_40, ti_59, ti_60] at c_1 ⊢
      omega) dX0_riderIn_20 ?_
    refine lv_goto (tgt := 26) hx hb dX0_riderIn_21 (by decide) ?_
    exact gm_iret hx hb hr hlocks hS (by (try simp only [f_X0_riderIn, ↓if_neg c_1]); (try rfl)) trivial dX0_riderIn_26
def p_X0_setRider (X : gM) (c : Nat) (a1 : Int32) (a2 : Int32) : gM :=
  if f_X8_within a1 0 23 = 0 then
    X
  else
    let X1 := updM X (c + 1) a1.toNatClampNeg a2
    X1
set_option maxHeartbeats 4000000 in
set_option maxRecDepth 100000 in
theorem c_X0_setRider (l : Launch) (D : va_G) (cy : Nat → ClassId) (σ : Nat) (X : gM) (c : Nat) (a1 : Int32) (a2 : Int32) (hc : c < 123) (hk : kdS c = 0) : Met l yX0_setRider wsX0_setRider ({ frames := 1, cells := 0, slots := 0, locals := 22 }) (gP [.ref (σ + c), .int a1, .int a2] D cy (SR D cy σ X)) (gQv (SR D cy σ (p_X0_setRider X c a1 a2)) (SA σ)) 0 0 (SA σ) := by
  refine gm_met (cc := cX0_setRider) (maxL := 3) (ret := none) [.ref (σ + c), .int a1, .int a2] (by decide) rfl (Nat.le_of_ble_eq_true rfl) ?_
  intro p e s m args below meth c0 ls C hR hl
  obtain ⟨hx, hb, hr, hts, hown, hlocks, hml, hK⟩ := C
  have hl : lv_has ls 3 [(0, .ref (σ + c)), (1, .int a1), (2, .int a2)] := hl
  have hS : va_S (SA σ) s.heap s.heap [] := va_S.rf
  have lk11 := hts (.fieldLink RX0 11 "MercuryLine$Line" "riders" "[I") (by decide +kernel)
  have inX0 : ∀ w ∈ u_ws RX0 TX0 10, w ∈ wsX0_setRider := by decide +kernel
  refine lv_iload_n hx hb dX0_setRider_0 rfl (lv_at hl 1 rfl) ?_
  refine lv_iconst (v := 0) hx hb dX0_setRider_1 (by decide) ?_
  refine lv_aload_n hx hb dX0_setRider_2 rfl (lv_at hl 0 rfl) ?_
  refine va_get (D := D) (ci := 0) (v := .ref (σ + (c + 1))) (C := RX0) (T := TX0) (N := 10) hx hb hts inX0 hown hK.1 (SR.mk1 hR (c := c) hc (bS_0 hk)) 0 rfl rfl 1 (by decide) lk11 (fun _ h9 => h9) rfl dX0_setRider_3 ?_
  refine va_alen (v := 24) hx hb hK.1 (SR.mk1 hR (c := c + 1) (kd_0 c hc hk).1.1 (bS_20 (kd_0 c hc hk).1.2)) 0 0 rfl rfl rfl dX0_setRider_6 ?_
  refine lv_iconst (v := 1) hx hb dX0_setRider_7 (by decide) ?_
  refine lv_isub hx hb dX0_setRider_8 ?_
  rw [show (24 - 1 : Int32) = 23 from by decide]
  refine gm_ci (gm_callN (As := [.int a1, .int 0, .int 23]) (rest := []) ⟨hx, hb, hml, hown, hts⟩ hK (c_X8_within l D cy a1 0 23) ⟨va_cnB 3 hts gX0_setRider_X8_within_n59 rfl rfl rfl (hK.2.1 (RX0, 59, yX8_within, "MercuryLine") (by decide +kernel)) (hts (.initialized RX8) (by decide +kernel)) (by decide +kernel) ⟨Nat.le_of_ble_eq_true rfl, Nat.le_of_ble_eq_true rfl⟩, hts (.static yX8_within) (by decide +kernel), trivial⟩ trivial rfl hl.1 rfl (Nat.le_of_ble_eq_true rfl) dX0_setRider_9 (Nat.zero_le _) (Nat.zero_le _)) hS (fun _ h => h.elim) (fun H locs _ _ hfr hS => ?_)
  have hR := gRep.keep hR hfr (fun _ _ h => h)
  refine lv_if_eq (tgt := 22) hx hb dX0_setRider_12 (by decide) (fun c_1 => ?_) (fun c_1 => ?_)
  · exact gm_vret hx hb hr hlocks hS (by (try simp only [p_X0_setRider, ↓if_pos c_1]); exact hR) dX0_setRider_22
  · refine lv_aload_n hx hb dX0_setRider_15 rfl (lv_at hl 0 rfl) ?_
    refine va_get (D := D) (ci := 0) (v := .ref (σ + (c + 1))) (C := RX0) (T := TX0) (N := 10) hx hb hts inX0 hown hK.1 (SR.mk1 hR (c := c) hc (bS_0 hk)) 0 rfl rfl 1 (by decide) lk11 (fun _ h9 => h9) rfl dX0_setRider_16 ?_
    refine lv_iload_n hx hb dX0_setRider_19 rfl (lv_at hl 1 rfl) ?_
    refine lv_iload_n hx hb dX0_setRider_20 rfl (lv_at hl 2 rfl) ?_
    refine gm_iast hx hb hK.1 hR injS hS (a := c + 1) (kd_0 c hc hk).1.1 rfl (fun r => (bS_20 (kd_0 c hc hk).1.2)) (by
      refine vp_in_iff.mpr ?_
      try simp only [w_ne] at c_1
      simp only [Int32.le_iff_toInt_le, Int32.lt_iff_toInt_lt, ← Int32.toInt_inj, ti_m5, ti_0, ti_1, ti_2, ti_3, ti_4, ti_5, ti_6, ti_12, ti_19, ti_23, ti_24, ti_39, ti_40, ti_59, ti_60] at c_1 ⊢
      omega) dX0_setRider_21 (fun H locs hR hS => ?_)
    obtain ⟨X1, eX1⟩ : ∃ Y : gM, Y = updM X (c + 1) a1.toNatClampNeg a2 := ⟨_, rfl⟩
    rw [← eX1] at hR
    exact gm_vret hx hb hr hlocks hS (by (try simp only [p_X0_setRider, ↓if_neg c_1, ← eX1]); exact hR) dX0_setRider_22
def lf_X0_riderCount_4 (X : gM) (c : Nat) (K : (Int32) → (Nat) → (Int32)) : Nat → (Int32) → (Nat) → (Int32)
  | 0, x_1, k_2 => K x_1 k_2
  | n + 1, x_1, k_2 =>
    if 24 ≤ nI k_2 then
      K x_1 k_2
    else
      if X (c + 1) k_2 = (-5) then
        lf_X0_riderCount_4 X c K n x_1 (k_2 + 1)
      else
        lf_X0_riderCount_4 X c K n (x_1 + 1) (k_2 + 1)
def f_X0_riderCount (X : gM) (c : Nat) : Int32 :=
  lf_X0_riderCount_4 X c (fun x_1w1 k_2w1 =>
        x_1w1) 25 0 0
set_option maxHeartbeats 4000000 in
set_option maxRecDepth 100000 in
theorem lp_X0_riderCount_4 {p : Program} {l : Launch} {e : Env} {s : State} {m : MethodId} {args : Array Value} {below : List Frame} {meth : Method} {c0 : Code} {D : va_G} {cy : Nat → ClassId} (C : gCtx cX0_riderCount 3 (some .int) RX0 wsX0_riderCount D cy p s m args meth c0) (σ : Nat) (X : gM) (c : Nat) (hc : c < 123) (hk : kdS c = 0)
    (K : (Int32) → (Nat) → (Int32)) (hexit : ∀ (x_1 : Int32) (k_2 : Nat), k_2 ≤ 24 → ∀ (H : Heap) (locs : List Loc) (ls : Array Slot), SR D cy σ X H → va_S gNo s.heap H locs → lv_has ls 3 [(0, .ref (σ + c)), (1, .int x_1), (2, .int (nI k_2))] → W p l e { frames := 0, cells := 0, slots := 0, locals := 0 } s m args below meth c0 H locs 0 0 (MQ below (gQi (K x_1 k_2) (fun _ => True) gNo) args s 0 0 gNo) (F0 m 33 ls [])) :
    ∀ (n : Nat) (x_1 : Int32) (k_2 : Nat), k_2 ≤ 24 → 24 < k_2 + n → ∀ (H : Heap) (locs : List Loc) (ls : Array Slot), SR D cy σ X H → va_S gNo s.heap H locs → lv_has ls 3 [(0, .ref (σ + c)), (1, .int x_1), (2, .int (nI k_2))] → W p l e { frames := 0, cells := 0, slots := 0, locals := 0 } s m args below meth c0 H locs 0 0 (MQ below (gQi (lf_X0_riderCount_4 X c K n x_1 k_2) (fun _ => True) gNo) args s 0 0 gNo) (F0 m 4 ls []) := by
  obtain ⟨hx, hb, hr, hts, hown, hlocks, hml, hK⟩ := C
  have lk11 := hts (.fieldLink RX0 11 "MercuryLine$Line" "riders" "[I") (by decide +kernel)
  have inX0 : ∀ w ∈ u_ws RX0 TX0 10, w ∈ wsX0_riderCount := by decide +kernel
  intro n
  induction n with
  | zero =>
    intro x_1 k_2 hb_2 hme
    exact absurd hme (by omega)
  | succ n ih =>
    intro x_1 k_2 hb_2 hme H locs ls hR hS hl
    refine lv_iload_n hx hb dX0_riderCount_4 rfl (lv_at hl 2 rfl) ?_
    refine lv_aload_n hx hb dX0_riderCount_5 rfl (lv_at hl 0 rfl) ?_
    refine va_get (D := D) (ci := 0) (v := .ref (σ + (c + 1))) (C := RX0) (T := TX0) (N := 10) hx hb hts inX0 hown hK.1 (SR.mk1 hR (c := c) hc (bS_0 hk)) 0 rfl rfl 1 (by decide) lk11 (fun _ h9 => h9) rfl dX0_riderCount_6 ?_
    refine va_alen (v := 24) hx hb hK.1 (SR.mk1 hR (c := c + 1) (kd_0 c hc hk).1.1 (bS_20 (kd_0 c hc hk).1.2)) 0 0 rfl rfl rfl dX0_riderCount_9 ?_
    refine lv_icmp_ge (tgt := 33) hx hb dX0_riderCount_10 (by decide) (fun c_1 => ?_) (fun c_1 => ?_)
    · have ge_2 : 24 ≤ k_2 := g_ge2 (Nat.lt_of_le_of_lt hb_2 (by decide)) (by decide) c_1
      refine gm_q (Q2 := MQ below (gQi (K x_1 k_2) (fun _ => True) gNo) args s 0 0 gNo) (by simp only [lf_X0_riderCount_4, ↓if_pos c_1]) ?_
      exact hexit x_1 k_2 hb_2  _ _ _ hR hS (lv_sub hl [0, 1, 2] rfl)
    · have lt_3 : k_2 < 24 := g_lt (Nat.lt_of_le_of_lt hb_2 (by decide)) (by decide) c_1
      refine lv_aload_n hx hb dX0_riderCount_13 rfl (lv_at hl 0 rfl) ?_
      refine va_get (D := D) (ci := 0) (v := .ref (σ + (c + 1))) (C := RX0) (T := TX0) (N := 10) hx hb hts inX0 hown hK.1 (SR.mk1 hR (c := c) hc (bS_0 hk)) 0 rfl rfl 1 (by decide) lk11 (fun _ h9 => h9) rfl dX0_riderCount_14 ?_
      refine lv_iload_n hx hb dX0_riderCount_17 rfl (lv_at hl 2 rfl) ?_
      refine gm_iald hx hb hK.1 (SR.mk1 hR (c := c + 1) (kd_0 c hc hk).1.1 (bS_20 (kd_0 c hc hk).1.2)) (vp_in_nI lt_3 (by decide)) dX0_riderCount_18 ?_
      rw [nI_clamp (n := k_2) (by omega)]
      refine lv_bipush (v := (-5)) hx hb dX0_riderCount_19 (by decide) ?_
      refine lv_icmp_eq (tgt := 27) hx hb dX0_riderCount_21 (by decide) (fun c_4 => ?_) (fun c_4 => ?_)
      · refine lv_iinc (v := nI (k_2 + 1)) (lv' := [(2, .int (nI (k_2 + 1))), (0, .ref (σ + c)), (1, .int x_1)]) hx hb dX0_riderCount_27 hl (k := 2) rfl (nI_1 _) (by decide) rfl (fun ls hl => ?_)
        refine lv_goto (tgt := 4) hx hb dX0_riderCount_30 (by decide) ?_
        refine gm_q (Q2 := MQ below (gQi (lf_X0_riderCount_4 X c K n x_1 (k_2 + 1)) (fun _ => True) gNo) args s 0 0 gNo) (by simp only [lf_X0_riderCount_4, ↓if_neg c_1, ↓if_pos c_4]) ?_
        exact ih x_1 (k_2 + 1) lt_3 (by omega) _ _ _ hR hS (lv_sub hl [1, 2, 0] rfl)
      · refine lv_iinc (v := x_1 + 1) (lv' := [(1, .int (x_1 + 1)), (0, .ref (σ + c)), (2, .int (nI k_2))]) hx hb dX0_riderCount_24 hl (k := 1) rfl rfl (by decide) rfl (fun ls hl => ?_)
        refine lv_iinc (v := nI (k_2 + 1)) (lv' := [(2, .int (nI (k_2 + 1))), (1, .int (x_1 + 1)), (0, .ref (σ + c))]) hx hb dX0_riderCount_27 hl (k := 2) rfl (nI_1 _) (by decide) rfl (fun ls hl => ?_)
        refine lv_goto (tgt := 4) hx hb dX0_riderCount_30 (by decide) ?_
        refine gm_q (Q2 := MQ below (gQi (lf_X0_riderCount_4 X c K n (x_1 + 1) (k_2 + 1)) (fun _ => True) gNo) args s 0 0 gNo) (by simp only [lf_X0_riderCount_4, ↓if_neg c_1, ↓if_neg c_4]) ?_
        exact ih (x_1 + 1) (k_2 + 1) lt_3 (by omega) _ _ _ hR hS (lv_sub hl [2, 1, 0] rfl)
set_option maxHeartbeats 4000000 in
set_option maxRecDepth 100000 in
theorem c_X0_riderCount (l : Launch) (D : va_G) (cy : Nat → ClassId) (σ : Nat) (X : gM) (c : Nat) (hc : c < 123) (hk : kdS c = 0) : Met l yX0_riderCount wsX0_riderCount ({ frames := 0, cells := 0, slots := 0, locals := 0 }) (gP [.ref (σ + c)] D cy (SR D cy σ X)) (gQi (f_X0_riderCount X c) (fun _ => True) gNo) 0 0 gNo := by
  refine gm_met (cc := cX0_riderCount) (maxL := 3) (ret := (some .int)) [.ref (σ + c)] (by decide) rfl (Nat.le_of_ble_eq_true rfl) ?_
  intro p e s m args below meth c0 ls C hR hl
  obtain ⟨hx, hb, hr, hts, hown, hlocks, hml, hK⟩ := C
  have hl : lv_has ls 3 [(0, .ref (σ + c))] := hl
  have hS : va_S gNo s.heap s.heap [] := va_S.rf
  refine lv_iconst (v := 0) hx hb dX0_riderCount_0 (by decide) ?_
  refine lv_istore_n (lv' := [(1, .int 0), (0, .ref (σ + c))]) hx hb dX0_riderCount_1 rfl hl (by decide) rfl (fun ls hl => ?_)
  refine lv_iconst (v := 0) hx hb dX0_riderCount_2 (by decide) ?_
  refine lv_istore_n (lv' := [(2, .int 0), (1, .int 0), (0, .ref (σ + c))]) hx hb dX0_riderCount_3 rfl hl (by decide) rfl (fun ls hl => ?_)
  refine gm_q (Q2 := MQ below (gQi (lf_X0_riderCount_4 X c (fun x_1w1 k_2w1 =>
        x_1w1) 25 0 0) (fun _ => True) gNo) args s 0 0 gNo) (by simp only [f_X0_riderCount]) ?_
  refine lp_X0_riderCount_4 ⟨hx, hb, hr, hts, hown, hlocks, hml, hK⟩ σ X c hc hk _ (fun x_1w1 k_2w1 hbk_2w1 H locs ls hR hS hl => ?_) 25 0 0 (by decide) (by omega) _ _ _ hR hS (lv_sub hl [2, 1, 0] rfl)
  refine lv_iload_n hx hb dX0_riderCount_33 rfl (lv_at hl 1 rfl) ?_
  exact gm_iret hx hb hr hlocks hS (by (try simp only [f_X0_riderCount]); (try rfl)) trivial dX0_riderCount_34
def p_X0_advance (X : gM) (c : Nat) : Int32 × gM :=
  let X1 := updM X c 6 ((X c 6) + (X c 7))
  if X1 c 6 < 10 then
    if (-10) < X1 c 6 then
      let X2 := updM X1 c 5 (f_X0_around X1 c ((X1 c 5) + 1))
      ((-5), X2)
    else
      let X3 := updM X1 c 6 ((X1 c 6) + 10)
      let X4 := updM X3 c 9 ((X3 c 9) + 1)
      let X5 := updM X4 c 5 (f_X0_around X4 c ((X4 c 5) + 2))
      (7, X5)
  else
    let X6 := updM X1 c 6 ((X1 c 6) - 10)
    let X7 := updM X6 c 8 ((X6 c 8) + 1)
    (6, X7)
set_option maxHeartbeats 4000000 in
set_option maxRecDepth 100000 in
theorem c_X0_advance (l : Launch) (D : va_G) (cy : Nat → ClassId) (σ : Nat) (X : gM) (c : Nat) (hc : c < 123) (hk : kdS c = 0) : Met l yX0_advance wsX0_advance ({ frames := 1, cells := 0, slots := 0, locals := 21 }) (gP [.ref (σ + c)] D cy (SR D cy σ X)) (gQi (p_X0_advance X c).1 (SR D cy σ (p_X0_advance X c).2) (SA σ)) 0 0 (SA σ) := by
  refine gm_met (cc := cX0_advance) (maxL := 1) (ret := (some .int)) [.ref (σ + c)] (by decide) rfl (Nat.le_of_ble_eq_true rfl) ?_
  intro p e s m args below meth c0 ls C hR hl
  obtain ⟨hx, hb, hr, hts, hown, hlocks, hml, hK⟩ := C
  have hl : lv_has ls 1 [(0, .ref (σ + c))] := hl
  have hS : va_S (SA σ) s.heap s.heap [] := va_S.rf
  have lk47 := hts (.fieldLink RX0 47 "MercuryLine$Line" "drift" "I") (by decide +kernel)
  have inX0 : ∀ w ∈ u_ws RX0 TX0 10, w ∈ wsX0_advance := by decide +kernel
  have lk50 := hts (.fieldLink RX0 50 "MercuryLine$Line" "heat" "I") (by decide +kernel)
  have lk44 := hts (.fieldLink RX0 44 "MercuryLine$Line" "phase" "I") (by decide +kernel)
  have lk56 := hts (.fieldLink RX0 56 "MercuryLine$Line" "skipped" "I") (by decide +kernel)
  have lk53 := hts (.fieldLink RX0 53 "MercuryLine$Line" "paused" "I") (by decide +kernel)
  refine lv_aload_n hx hb dX0_advance_0 rfl (lv_at hl 0 rfl) ?_
  refine lv_dup hx hb dX0_advance_1 rfl ?_
  refine va_get (D := D) (ci := 0) (v := .int (X c 6)) (C := RX0) (T := TX0) (N := 10) hx hb hts inX0 hown hK.1 (SR.mk1 hR (c := c) hc (bS_0 hk)) 0 rfl rfl 6 (by decide) lk47 (fun _ h9 => h9) rfl dX0_advance_2 ?_
  refine lv_aload_n hx hb dX0_advance_5 rfl (lv_at hl 0 rfl) ?_
  refine va_get (D := D) (ci := 0) (v := .int (X c 7)) (C := RX0) (T := TX0) (N := 10) hx hb hts inX0 hown hK.1 (SR.mk1 hR (c := c) hc (bS_0 hk)) 0 rfl rfl 7 (by decide) lk50 (fun _ h9 => h9) rfl dX0_advance_6 ?_
  refine lv_iadd hx hb dX0_advance_9 ?_
  refine gm_put (v := .int ((X c 6) + (X c 7))) (ty := .int) (ci := 0) (C := RX0) (T := TX0) (N := 10) hx hb hts inX0 tyX0 tyX0_ok nmX0 hown hK.1 hR injS hS (a := c) hc rfl (bS_0 hk) rfl 6 (by decide) lk47 (fun _ h9 => h9) rfl (by decide +kernel) rfl rfl (Nat.le_of_ble_eq_true rfl) (j := 6) (x := (X c 6) + (X c 7)) (by rw [bS_0 hk]; rfl) dX0_advance_10 (fun H locs hR hS => ?_)
  obtain ⟨X1, eX1⟩ : ∃ Y : gM, Y = updM X c 6 ((X c 6) + (X c 7)) := ⟨_, rfl⟩
  rw [← eX1] at hR
  refine lv_aload_n hx hb dX0_advance_13 rfl (lv_at hl 0 rfl) ?_
  refine va_get (D := D) (ci := 0) (v := .int (X1 c 6)) (C := RX0) (T := TX0) (N := 10) hx hb hts inX0 hown hK.1 (SR.mk1 hR (c := c) hc (bS_0 hk)) 0 rfl rfl 6 (by decide) lk47 (fun _ h9 => h9) rfl dX0_advance_14 ?_
  refine lv_bipush (v := 10) hx hb dX0_advance_17 (by decide) ?_
  refine lv_icmp_lt (tgt := 46) hx hb dX0_advance_19 (by decide) (fun c_1 => ?_) (fun c_1 => ?_)
  · refine lv_aload_n hx hb dX0_advance_46 rfl (lv_at hl 0 rfl) ?_
    refine va_get (D := D) (ci := 0) (v := .int (X1 c 6)) (C := RX0) (T := TX0) (N := 10) hx hb hts inX0 hown hK.1 (SR.mk1 hR (c := c) hc (bS_0 hk)) 0 rfl rfl 6 (by decide) lk47 (fun _ h9 => h9) rfl dX0_advance_47 ?_
    refine lv_bipush (v := (-10)) hx hb dX0_advance_50 (by decide) ?_
    refine lv_icmp_gt (tgt := 93) hx hb dX0_advance_52 (by decide) (fun c_2 => ?_) (fun c_2 => ?_)
    · refine lv_aload_n hx hb dX0_advance_93 rfl (lv_at hl 0 rfl) ?_
      refine lv_aload_n hx hb dX0_advance_94 rfl (lv_at hl 0 rfl) ?_
      refine lv_aload_n hx hb dX0_advance_95 rfl (lv_at hl 0 rfl) ?_
      refine va_get (D := D) (ci := 0) (v := .int (X1 c 5)) (C := RX0) (T := TX0) (N := 10) hx hb hts inX0 hown hK.1 (SR.mk1 hR (c := c) hc (bS_0 hk)) 0 rfl rfl 5 (by decide) lk44 (fun _ h9 => h9) rfl dX0_advance_96 ?_
      refine lv_iconst (v := 1) hx hb dX0_advance_99 (by decide) ?_
      refine lv_iadd hx hb dX0_advance_100 ?_
      refine gm_ci (gm_call (As := [.int ((X1 c 5) + 1)]) (rest := [.ref (σ + c)]) (ci := 0) (q := (RX0, TX0, 10)) ⟨hx, hb, hml, hown, hts⟩ hK (c_X0_around l D cy σ X1 c ((X1 c 5) + 1) hc hk) (cwV 1 hts gX0_advance_X0_around rfl rfl rfl (by decide +kernel) ⟨Nat.le_of_ble_eq_true rfl, Nat.le_of_ble_eq_true rfl⟩) (SR.mk1 hR (c := c) hc (bS_0 hk)) rfl hR rfl hl.1 rfl (Nat.le_of_ble_eq_true rfl) dX0_advance_101 (Nat.zero_le _) (Nat.zero_le _)) hS (fun _ h => h.elim) (fun H locs _ _ hfr hS => ?_)
      have hR := gRep.keep hR hfr (fun _ _ h => h)
      refine gm_put (v := .int (f_X0_around X1 c ((X1 c 5) + 1))) (ty := .int) (ci := 0) (C := RX0) (T := TX0) (N := 10) hx hb hts inX0 tyX0 tyX0_ok nmX0 hown hK.1 hR injS hS (a := c) hc rfl (bS_0 hk) rfl 5 (by decide) lk44 (fun _ h9 => h9) rfl (by decide +kernel) rfl rfl (Nat.le_of_ble_eq_true rfl) (j := 5) (x := f_X0_around X1 c ((X1 c 5) + 1)) (by rw [bS_0 hk]; rfl) dX0_advance_104 (fun H locs hR hS => ?_)
      obtain ⟨X2, eX2⟩ : ∃ Y : gM, Y = updM X1 c 5 (f_X0_around X1 c ((X1 c 5) + 1)) := ⟨_, rfl⟩
      rw [← eX2] at hR
      refine lv_bipush (v := (-5)) hx hb dX0_advance_107 (by decide) ?_
      exact gm_iret hx hb hr hlocks hS (by (try simp only [p_X0_advance, ↓if_pos c_1, ↓if_pos c_2, ← eX1, ← eX2]); (try rfl)) (by (try simp only [p_X0_advance, ↓if_pos c_1, ↓if_pos c_2, ← eX1, ← eX2]); exact hR) dX0_advance_109
    · refine lv_aload_n hx hb dX0_advance_55 rfl (lv_at hl 0 rfl) ?_
      refine lv_dup hx hb dX0_advance_56 rfl ?_
      refine va_get (D := D) (ci := 0) (v := .int (X1 c 6)) (C := RX0) (T := TX0) (N := 10) hx hb hts inX0 hown hK.1 (SR.mk1 hR (c := c) hc (bS_0 hk)) 0 rfl rfl 6 (by decide) lk47 (fun _ h9 => h9) rfl dX0_advance_57 ?_
      refine lv_bipush (v := 10) hx hb dX0_advance_60 (by decide) ?_
      refine lv_iadd hx hb dX0_advance_62 ?_
      refine gm_put (v := .int ((X1 c 6) + 10)) (ty := .int) (ci := 0) (C := RX0) (T := TX0) (N := 10) hx hb hts inX0 tyX0 tyX0_ok nmX0 hown hK.1 hR injS hS (a := c) hc rfl (bS_0 hk) rfl 6 (by decide) lk47 (fun _ h9 => h9) rfl (by decide +kernel) rfl rfl (Nat.le_of_ble_eq_true rfl) (j := 6) (x := (X1 c 6) + 10) (by rw [bS_0 hk]; rfl) dX0_advance_63 (fun H locs hR hS => ?_)
      obtain ⟨X3, eX3⟩ : ∃ Y : gM, Y = updM X1 c 6 ((X1 c 6) + 10) := ⟨_, rfl⟩
      rw [← eX3] at hR
      refine lv_aload_n hx hb dX0_advance_66 rfl (lv_at hl 0 rfl) ?_
      refine lv_dup hx hb dX0_advance_67 rfl ?_
      refine va_get (D := D) (ci := 0) (v := .int (X3 c 9)) (C := RX0) (T := TX0) (N := 10) hx hb hts inX0 hown hK.1 (SR.mk1 hR (c := c) hc (bS_0 hk)) 0 rfl rfl 9 (by decide) lk56 (fun _ h9 => h9) rfl dX0_advance_68 ?_
      refine lv_iconst (v := 1) hx hb dX0_advance_71 (by decide) ?_
      refine lv_iadd hx hb dX0_advance_72 ?_
      refine gm_put (v := .int ((X3 c 9) + 1)) (ty := .int) (ci := 0) (C := RX0) (T := TX0) (N := 10) hx hb hts inX0 tyX0 tyX0_ok nmX0 hown hK.1 hR injS hS (a := c) hc rfl (bS_0 hk) rfl 9 (by decide) lk56 (fun _ h9 => h9) rfl (by decide +kernel) rfl rfl (Nat.le_of_ble_eq_true rfl) (j := 9) (x := (X3 c 9) + 1) (by rw [bS_0 hk]; rfl) dX0_advance_73 (fun H locs hR hS => ?_)
      obtain ⟨X4, eX4⟩ : ∃ Y : gM, Y = updM X3 c 9 ((X3 c 9) + 1) := ⟨_, rfl⟩
      rw [← eX4] at hR
      refine lv_aload_n hx hb dX0_advance_76 rfl (lv_at hl 0 rfl) ?_
      refine lv_aload_n hx hb dX0_advance_77 rfl (lv_at hl 0 rfl) ?_
      refine lv_aload_n hx hb dX0_advance_78 rfl (lv_at hl 0 rfl) ?_
      refine va_get (D := D) (ci := 0) (v := .int (X4 c 5)) (C := RX0) (T := TX0) (N := 10) hx hb hts inX0 hown hK.1 (SR.mk1 hR (c := c) hc (bS_0 hk)) 0 rfl rfl 5 (by decide) lk44 (fun _ h9 => h9) rfl dX0_advance_79 ?_
      refine lv_iconst (v := 2) hx hb dX0_advance_82 (by decide) ?_
      refine lv_iadd hx hb dX0_advance_83 ?_
      refine gm_ci (gm_call (As := [.int ((X4 c 5) + 2)]) (rest := [.ref (σ + c)]) (ci := 0) (q := (RX0, TX0, 10)) ⟨hx, hb, hml, hown, hts⟩ hK (c_X0_around l D cy σ X4 c ((X4 c 5) + 2) hc hk) (cwV 1 hts gX0_advance_X0_around rfl rfl rfl (by decide +kernel) ⟨Nat.le_of_ble_eq_true rfl, Nat.le_of_ble_eq_true rfl⟩) (SR.mk1 hR (c := c) hc (bS_0 hk)) rfl hR rfl hl.1 rfl (Nat.le_of_ble_eq_true rfl) dX0_advance_84 (Nat.zero_le _) (Nat.zero_le _)) hS (fun _ h => h.elim) (fun H locs _ _ hfr hS => ?_)
      have hR := gRep.keep hR hfr (fun _ _ h => h)
      refine gm_put (v := .int (f_X0_around X4 c ((X4 c 5) + 2))) (ty := .int) (ci := 0) (C := RX0) (T := TX0) (N := 10) hx hb hts inX0 tyX0 tyX0_ok nmX0 hown hK.1 hR injS hS (a := c) hc rfl (bS_0 hk) rfl 5 (by decide) lk44 (fun _ h9 => h9) rfl (by decide +kernel) rfl rfl (Nat.le_of_ble_eq_true rfl) (j := 5) (x := f_X0_around X4 c ((X4 c 5) + 2)) (by rw [bS_0 hk]; rfl) dX0_advance_87 (fun H locs hR hS => ?_)
      obtain ⟨X5, eX5⟩ : ∃ Y : gM, Y = updM X4 c 5 (f_X0_around X4 c ((X4 c 5) + 2)) := ⟨_, rfl⟩
      rw [← eX5] at hR
      refine lv_bipush (v := 7) hx hb dX0_advance_90 (by decide) ?_
      exact gm_iret hx hb hr hlocks hS (by (try simp only [p_X0_advance, ↓if_pos c_1, ↓if_neg c_2, ← eX1, ← eX3, ← eX4, ← eX5]); (try rfl)) (by (try simp only [p_X0_advance, ↓if_pos c_1, ↓if_neg c_2, ← eX1, ← eX3, ← eX4, ← eX5]); exact hR) dX0_advance_92
  · refine lv_aload_n hx hb dX0_advance_22 rfl (lv_at hl 0 rfl) ?_
    refine lv_dup hx hb dX0_advance_23 rfl ?_
    refine va_get (D := D) (ci := 0) (v := .int (X1 c 6)) (C := RX0) (T := TX0) (N := 10) hx hb hts inX0 hown hK.1 (SR.mk1 hR (c := c) hc (bS_0 hk)) 0 rfl rfl 6 (by decide) lk47 (fun _ h9 => h9) rfl dX0_advance_24 ?_
    refine lv_bipush (v := 10) hx hb dX0_advance_27 (by decide) ?_
    refine lv_isub hx hb dX0_advance_29 ?_
    refine gm_put (v := .int ((X1 c 6) - 10)) (ty := .int) (ci := 0) (C := RX0) (T := TX0) (N := 10) hx hb hts inX0 tyX0 tyX0_ok nmX0 hown hK.1 hR injS hS (a := c) hc rfl (bS_0 hk) rfl 6 (by decide) lk47 (fun _ h9 => h9) rfl (by decide +kernel) rfl rfl (Nat.le_of_ble_eq_true rfl) (j := 6) (x := (X1 c 6) - 10) (by rw [bS_0 hk]; rfl) dX0_advance_30 (fun H locs hR hS => ?_)
    obtain ⟨X6, eX6⟩ : ∃ Y : gM, Y = updM X1 c 6 ((X1 c 6) - 10) := ⟨_, rfl⟩
    rw [← eX6] at hR
    refine lv_aload_n hx hb dX0_advance_33 rfl (lv_at hl 0 rfl) ?_
    refine lv_dup hx hb dX0_advance_34 rfl ?_
    refine va_get (D := D) (ci := 0) (v := .int (X6 c 8)) (C := RX0) (T := TX0) (N := 10) hx hb hts inX0 hown hK.1 (SR.mk1 hR (c := c) hc (bS_0 hk)) 0 rfl rfl 8 (by decide) lk53 (fun _ h9 => h9) rfl dX0_advance_35 ?_
    refine lv_iconst (v := 1) hx hb dX0_advance_38 (by decide) ?_
    refine lv_iadd hx hb dX0_advance_39 ?_
    refine gm_put (v := .int ((X6 c 8) + 1)) (ty := .int) (ci := 0) (C := RX0) (T := TX0) (N := 10) hx hb hts inX0 tyX0 tyX0_ok nmX0 hown hK.1 hR injS hS (a := c) hc rfl (bS_0 hk) rfl 8 (by decide) lk53 (fun _ h9 => h9) rfl (by decide +kernel) rfl rfl (Nat.le_of_ble_eq_true rfl) (j := 8) (x := (X6 c 8) + 1) (by rw [bS_0 hk]; rfl) dX0_advance_40 (fun H locs hR hS => ?_)
    obtain ⟨X7, eX7⟩ : ∃ Y : gM, Y = updM X6 c 8 ((X6 c 8) + 1) := ⟨_, rfl⟩
    rw [← eX7] at hR
    refine lv_bipush (v := 6) hx hb dX0_advance_43 (by decide) ?_
    exact gm_iret hx hb hr hlocks hS (by (try simp only [p_X0_advance, ↓if_neg c_1, ← eX1, ← eX6, ← eX7]); (try rfl)) (by (try simp only [p_X0_advance, ↓if_neg c_1, ← eX1, ← eX6, ← eX7]); exact hR) dX0_advance_45
