theorem g_row {x : Int32} (h1 : ¬ x < 0) (h2 : x < 12) : x * 5 = nI (x.toNatClampNeg * 5) ∧ x.toNatClampNeg < 12 := by
  obtain ⟨j, hj, rfl⟩ := nI_of h1
  have h3 := g_lt2 hj (N := 12) (by decide) h2
  rw [nI_clamp hj]
  exact ⟨pk_mul j 5, h3⟩
def f_X2_isDue (X : gM) (c : Nat) (a1 : Int32) : Int32 :=
  if gBit (X c 5) = 0 then
    if X c 1 ≤ 0 then
      0
    else
      if (a1 - (X c 2)) - (a1 - (X c 2)) / (X c 1) * (X c 1) = 0 then
        1
      else
        0
  else
    0
set_option maxHeartbeats 4000000 in
set_option maxRecDepth 100000 in
theorem c_X2_isDue (l : Launch) (D : va_G) (cy : Nat → ClassId) (σ : Nat) (X : gM) (c : Nat) (a1 : Int32) (hc : c < 123) (hk : kdS c = 2) : Met l yX2_isDue wsX2_isDue ({ frames := 0, cells := 0, slots := 0, locals := 0 }) (gP [.ref (σ + c), .int a1] D cy (SR D cy σ X)) (gQi (f_X2_isDue X c a1) (fun _ => True) gNo) 0 0 gNo := by
  refine gm_met (cc := cX2_isDue) (maxL := 2) (ret := (some .boolean)) [.ref (σ + c), .int a1] (by decide) rfl (Nat.le_of_ble_eq_true rfl) ?_
  intro p e s m args below meth c0 ls C hR hl
  obtain ⟨hx, hb, hr, hts, hown, hlocks, hml, hK⟩ := C
  have hl : lv_has ls 2 [(0, .ref (σ + c)), (1, .int a1)] := hl
  have hS : va_S gNo s.heap s.heap [] := va_S.rf
  have lk33 := hts (.fieldLink RX2 33 "MercuryLine$Order" "ended" "Z") (by decide +kernel)
  have inX2 : ∀ w ∈ u_ws RX2 TX2 6, w ∈ wsX2_isDue := by decide +kernel
  have lk20 := hts (.fieldLink RX2 20 "MercuryLine$Order" "period" "I") (by decide +kernel)
  have lk24 := hts (.fieldLink RX2 24 "MercuryLine$Order" "givenIn" "I") (by decide +kernel)
  refine lv_aload_n hx hb dX2_isDue_0 rfl (lv_at hl 0 rfl) ?_
  refine va_get (D := D) (ci := 2) (v := .int (gBit (X c 5))) (C := RX2) (T := TX2) (N := 6) hx hb hts inX2 hown hK.1 (SR.mk1 hR (c := c) hc (bS_2 hk)) 0 rfl rfl 5 (by decide) lk33 (fun _ h9 => h9) rfl dX2_isDue_1 ?_
  refine lv_if_ne (tgt := 32) hx hb dX2_isDue_4 (by decide) (fun c_1 => ?_) (fun c_1 => ?_)
  · refine lv_iconst (v := 0) hx hb dX2_isDue_32 (by decide) ?_
    exact gm_zret hx hb hr hlocks rfl hS (by (try simp only [f_X2_isDue, ↓if_neg c_1]); (try rfl)) trivial dX2_isDue_33
  · refine lv_aload_n hx hb dX2_isDue_7 rfl (lv_at hl 0 rfl) ?_
    refine va_get (D := D) (ci := 2) (v := .int (X c 1)) (C := RX2) (T := TX2) (N := 6) hx hb hts inX2 hown hK.1 (SR.mk1 hR (c := c) hc (bS_2 hk)) 0 rfl rfl 1 (by decide) lk20 (fun _ h9 => h9) rfl dX2_isDue_8 ?_
    refine lv_if_le (tgt := 32) hx hb dX2_isDue_11 (by decide) (fun c_2 => ?_) (fun c_2 => ?_)
    · refine lv_iconst (v := 0) hx hb dX2_isDue_32 (by decide) ?_
      exact gm_zret hx hb hr hlocks rfl hS (by (try simp only [f_X2_isDue, ↓if_pos c_1, ↓if_pos c_2]); (try rfl)) trivial dX2_isDue_33
    · refine lv_iload_n hx hb dX2_isDue_14 rfl (lv_at hl 1 rfl) ?_
      refine lv_aload_n hx hb dX2_isDue_15 rfl (lv_at hl 0 rfl) ?_
      refine va_get (D := D) (ci := 2) (v := .int (X c 2)) (C := RX2) (T := TX2) (N := 6) hx hb hts inX2 hown hK.1 (SR.mk1 hR (c := c) hc (bS_2 hk)) 0 rfl rfl 2 (by decide) lk24 (fun _ h9 => h9) rfl dX2_isDue_16 ?_
      refine lv_isub hx hb dX2_isDue_19 ?_
      refine lv_aload_n hx hb dX2_isDue_20 rfl (lv_at hl 0 rfl) ?_
      refine va_get (D := D) (ci := 2) (v := .int (X c 1)) (C := RX2) (T := TX2) (N := 6) hx hb hts inX2 hown hK.1 (SR.mk1 hR (c := c) hc (bS_2 hk)) 0 rfl rfl 1 (by decide) lk20 (fun _ h9 => h9) rfl dX2_isDue_21 ?_
      refine lv_irem hx hb dX2_isDue_24 (fun h0 => by
      have h1 := congrArg Int32.toInt h0
      simp only [ti_0] at h1
      simp only [Int32.le_iff_toInt_le, Int32.lt_iff_toInt_lt, ← Int32.toInt_inj, ti_m5, ti_0, ti_1, ti_2, ti_3, ti_4, ti_5, ti_6, ti_12, ti_19, ti_23, ti_24, ti_39, ti_40, ti_59, ti_60] at c_1 c_2
      omega) ?_
      refine lv_if_ne (tgt := 32) hx hb dX2_isDue_25 (by decide) (fun c_3 => ?_) (fun c_3 => ?_)
      · refine lv_iconst (v := 0) hx hb dX2_isDue_32 (by decide) ?_
        exact gm_zret hx hb hr hlocks rfl hS (by (try simp only [f_X2_isDue, ↓if_pos c_1, ↓if_neg c_2, ↓if_neg c_3]); (try rfl)) trivial dX2_isDue_33
      · refine lv_iconst (v := 1) hx hb dX2_isDue_28 (by decide) ?_
        refine lv_goto (tgt := 33) hx hb dX2_isDue_29 (by decide) ?_
        exact gm_zret hx hb hr hlocks rfl hS (by (try simp only [f_X2_isDue, ↓if_pos c_1, ↓if_neg c_2, ↓if_pos c_3]); (try rfl)) trivial dX2_isDue_33
def p_X4_open (X : gM) (c : Nat) (a1 : Int32) : gM :=
  let X1 := updM X c 5 a1
  let X2 := updM X1 c 4 0
  let X3 := updM X2 c 6 0
  let X4 := updM X3 c 7 0
  let X5 := updM X4 c 8 0
  let X6 := updM X5 c 9 0
  X6
set_option maxHeartbeats 4000000 in
set_option maxRecDepth 100000 in
theorem c_X4_open (l : Launch) (D : va_G) (cy : Nat → ClassId) (σ : Nat) (X : gM) (c : Nat) (a1 : Int32) (hc : c < 123) (hk : kdS c = 4) : Met l yX4_open wsX4_open ({ frames := 0, cells := 0, slots := 0, locals := 0 }) (gP [.ref (σ + c), .int a1] D cy (SR D cy σ X)) (gQv (SR D cy σ (p_X4_open X c a1)) (SA σ)) 0 0 (SA σ) := by
  refine gm_met (cc := cX4_open) (maxL := 2) (ret := none) [.ref (σ + c), .int a1] (by decide) rfl (Nat.le_of_ble_eq_true rfl) ?_
  intro p e s m args below meth c0 ls C hR hl
  obtain ⟨hx, hb, hr, hts, hown, hlocks, hml, hK⟩ := C
  have hl : lv_has ls 2 [(0, .ref (σ + c)), (1, .int a1)] := hl
  have hS : va_S (SA σ) s.heap s.heap [] := va_S.rf
  have lk35 := hts (.fieldLink RX4 35 "MercuryLine$Station" "offset" "I") (by decide +kernel)
  have inX4 : ∀ w ∈ u_ws RX4 TX4 10, w ∈ wsX4_open := by decide +kernel
  have lk32 := hts (.fieldLink RX4 32 "MercuryLine$Station" "callCount" "I") (by decide +kernel)
  have lk38 := hts (.fieldLink RX4 38 "MercuryLine$Station" "boarded" "I") (by decide +kernel)
  have lk41 := hts (.fieldLink RX4 41 "MercuryLine$Station" "arrived" "I") (by decide +kernel)
  have lk44 := hts (.fieldLink RX4 44 "MercuryLine$Station" "calledOff" "I") (by decide +kernel)
  have lk47 := hts (.fieldLink RX4 47 "MercuryLine$Station" "shovedOut" "I") (by decide +kernel)
  refine lv_aload_n hx hb dX4_open_0 rfl (lv_at hl 0 rfl) ?_
  refine lv_iload_n hx hb dX4_open_1 rfl (lv_at hl 1 rfl) ?_
  refine gm_put (v := .int a1) (ty := .int) (ci := 4) (C := RX4) (T := TX4) (N := 10) hx hb hts inX4 tyX4 tyX4_ok nmX4 hown hK.1 hR injS hS (a := c) hc rfl (bS_4 hk) rfl 5 (by decide) lk35 (fun _ h9 => h9) rfl (by decide +kernel) rfl rfl (Nat.le_of_ble_eq_true rfl) (j := 5) (x := a1) (by rw [bS_4 hk]; rfl) dX4_open_2 (fun H locs hR hS => ?_)
  obtain ⟨X1, eX1⟩ : ∃ Y : gM, Y = updM X c 5 a1 := ⟨_, rfl⟩
  rw [← eX1] at hR
  refine lv_aload_n hx hb dX4_open_5 rfl (lv_at hl 0 rfl) ?_
  refine lv_iconst (v := 0) hx hb dX4_open_6 (by decide) ?_
  refine gm_put (v := .int 0) (ty := .int) (ci := 4) (C := RX4) (T := TX4) (N := 10) hx hb hts inX4 tyX4 tyX4_ok nmX4 hown hK.1 hR injS hS (a := c) hc rfl (bS_4 hk) rfl 4 (by decide) lk32 (fun _ h9 => h9) rfl (by decide +kernel) rfl rfl (Nat.le_of_ble_eq_true rfl) (j := 4) (x := 0) (by rw [bS_4 hk]; rfl) dX4_open_7 (fun H locs hR hS => ?_)
  obtain ⟨X2, eX2⟩ : ∃ Y : gM, Y = updM X1 c 4 0 := ⟨_, rfl⟩
  rw [← eX2] at hR
  refine lv_aload_n hx hb dX4_open_10 rfl (lv_at hl 0 rfl) ?_
  refine lv_iconst (v := 0) hx hb dX4_open_11 (by decide) ?_
  refine gm_put (v := .int 0) (ty := .int) (ci := 4) (C := RX4) (T := TX4) (N := 10) hx hb hts inX4 tyX4 tyX4_ok nmX4 hown hK.1 hR injS hS (a := c) hc rfl (bS_4 hk) rfl 6 (by decide) lk38 (fun _ h9 => h9) rfl (by decide +kernel) rfl rfl (Nat.le_of_ble_eq_true rfl) (j := 6) (x := 0) (by rw [bS_4 hk]; rfl) dX4_open_12 (fun H locs hR hS => ?_)
  obtain ⟨X3, eX3⟩ : ∃ Y : gM, Y = updM X2 c 6 0 := ⟨_, rfl⟩
  rw [← eX3] at hR
  refine lv_aload_n hx hb dX4_open_15 rfl (lv_at hl 0 rfl) ?_
  refine lv_iconst (v := 0) hx hb dX4_open_16 (by decide) ?_
  refine gm_put (v := .int 0) (ty := .int) (ci := 4) (C := RX4) (T := TX4) (N := 10) hx hb hts inX4 tyX4 tyX4_ok nmX4 hown hK.1 hR injS hS (a := c) hc rfl (bS_4 hk) rfl 7 (by decide) lk41 (fun _ h9 => h9) rfl (by decide +kernel) rfl rfl (Nat.le_of_ble_eq_true rfl) (j := 7) (x := 0) (by rw [bS_4 hk]; rfl) dX4_open_17 (fun H locs hR hS => ?_)
  obtain ⟨X4, eX4⟩ : ∃ Y : gM, Y = updM X3 c 7 0 := ⟨_, rfl⟩
  rw [← eX4] at hR
  refine lv_aload_n hx hb dX4_open_20 rfl (lv_at hl 0 rfl) ?_
  refine lv_iconst (v := 0) hx hb dX4_open_21 (by decide) ?_
  refine gm_put (v := .int 0) (ty := .int) (ci := 4) (C := RX4) (T := TX4) (N := 10) hx hb hts inX4 tyX4 tyX4_ok nmX4 hown hK.1 hR injS hS (a := c) hc rfl (bS_4 hk) rfl 8 (by decide) lk44 (fun _ h9 => h9) rfl (by decide +kernel) rfl rfl (Nat.le_of_ble_eq_true rfl) (j := 8) (x := 0) (by rw [bS_4 hk]; rfl) dX4_open_22 (fun H locs hR hS => ?_)
  obtain ⟨X5, eX5⟩ : ∃ Y : gM, Y = updM X4 c 8 0 := ⟨_, rfl⟩
  rw [← eX5] at hR
  refine lv_aload_n hx hb dX4_open_25 rfl (lv_at hl 0 rfl) ?_
  refine lv_iconst (v := 0) hx hb dX4_open_26 (by decide) ?_
  refine gm_put (v := .int 0) (ty := .int) (ci := 4) (C := RX4) (T := TX4) (N := 10) hx hb hts inX4 tyX4 tyX4_ok nmX4 hown hK.1 hR injS hS (a := c) hc rfl (bS_4 hk) rfl 9 (by decide) lk47 (fun _ h9 => h9) rfl (by decide +kernel) rfl rfl (Nat.le_of_ble_eq_true rfl) (j := 9) (x := 0) (by rw [bS_4 hk]; rfl) dX4_open_27 (fun H locs hR hS => ?_)
  obtain ⟨X6, eX6⟩ : ∃ Y : gM, Y = updM X5 c 9 0 := ⟨_, rfl⟩
  rw [← eX6] at hR
  exact gm_vret hx hb hr hlocks hS (by (try simp only [p_X4_open, ← eX1, ← eX2, ← eX3, ← eX4, ← eX5, ← eX6]); exact hR) dX4_open_30
def f_X4_callAt (X : gM) (c : Nat) (a1 : Int32) : Int32 :=
  if a1 < 0 then
    (-5)
  else
    if X c 4 ≤ a1 then
      (-5)
    else
      if 3 ≤ a1 then
        (-5)
      else
        X (c + 1) a1.toNatClampNeg
set_option maxHeartbeats 4000000 in
set_option maxRecDepth 100000 in
theorem c_X4_callAt (l : Launch) (D : va_G) (cy : Nat → ClassId) (σ : Nat) (X : gM) (c : Nat) (a1 : Int32) (hc : c < 123) (hk : kdS c = 4) : Met l yX4_callAt wsX4_callAt ({ frames := 0, cells := 0, slots := 0, locals := 0 }) (gP [.ref (σ + c), .int a1] D cy (SR D cy σ X)) (gQi (f_X4_callAt X c a1) (fun _ => True) gNo) 0 0 gNo := by
  refine gm_met (cc := cX4_callAt) (maxL := 3) (ret := (some .int)) [.ref (σ + c), .int a1] (by decide) rfl (Nat.le_of_ble_eq_true rfl) ?_
  intro p e s m args below meth c0 ls C hR hl
  obtain ⟨hx, hb, hr, hts, hown, hlocks, hml, hK⟩ := C
  have hl : lv_has ls 3 [(0, .ref (σ + c)), (1, .int a1)] := hl
  have hS : va_S gNo s.heap s.heap [] := va_S.rf
  have lk32 := hts (.fieldLink RX4 32 "MercuryLine$Station" "callCount" "I") (by decide +kernel)
  have inX4 : ∀ w ∈ u_ws RX4 TX4 10, w ∈ wsX4_callAt := by decide +kernel
  have lk11 := hts (.fieldLink RX4 11 "MercuryLine$Station" "values" "[I") (by decide +kernel)
  refine lv_iload_n hx hb dX4_callAt_0 rfl (lv_at hl 1 rfl) ?_
  refine lv_if_lt (tgt := 25) hx hb dX4_callAt_1 (by decide) (fun c_1 => ?_) (fun c_1 => ?_)
  · refine lv_iconst (v := 0) hx hb dX4_callAt_25 (by decide) ?_
    refine lv_istore_n (lv' := [(2, .int 0), (0, .ref (σ + c)), (1, .int a1)]) hx hb dX4_callAt_26 rfl hl (by decide) rfl (fun ls hl => ?_)
    refine lv_iload_n hx hb dX4_callAt_27 rfl (lv_at hl 0 rfl) ?_
    refine lv_if_eq (tgt := 40) hx hb dX4_callAt_28 (by decide) (fun c_2 => ?_) (fun c_2 => ?_)
    · refine lv_bipush (v := (-5)) hx hb dX4_callAt_40 (by decide) ?_
      exact gm_iret hx hb hr hlocks hS (by (try simp only [f_X4_callAt, ↓if_pos c_1]); (try rfl)) trivial dX4_callAt_42
    · exact absurd c_2 (by decide)
  · refine lv_iload_n hx hb dX4_callAt_4 rfl (lv_at hl 1 rfl) ?_
    refine lv_aload_n hx hb dX4_callAt_5 rfl (lv_at hl 0 rfl) ?_
    refine va_get (D := D) (ci := 4) (v := .int (X c 4)) (C := RX4) (T := TX4) (N := 10) hx hb hts inX4 hown hK.1 (SR.mk1 hR (c := c) hc (bS_4 hk)) 0 rfl rfl 4 (by decide) lk32 (fun _ h9 => h9) rfl dX4_callAt_6 ?_
    refine lv_icmp_ge (tgt := 25) hx hb dX4_callAt_9 (by decide) (fun c_3 => ?_) (fun c_3 => ?_)
    · refine lv_iconst (v := 0) hx hb dX4_callAt_25 (by decide) ?_
      refine lv_istore_n (lv' := [(2, .int 0), (0, .ref (σ + c)), (1, .int a1)]) hx hb dX4_callAt_26 rfl hl (by decide) rfl (fun ls hl => ?_)
      refine lv_iload_n hx hb dX4_callAt_27 rfl (lv_at hl 0 rfl) ?_
      refine lv_if_eq (tgt := 40) hx hb dX4_callAt_28 (by decide) (fun c_4 => ?_) (fun c_4 => ?_)
      · refine lv_bipush (v := (-5)) hx hb dX4_callAt_40 (by decide) ?_
        exact gm_iret hx hb hr hlocks hS (by (try simp only [f_X4_callAt, ↓if_neg c_1, ↓if_pos c_3]); (try rfl)) trivial dX4_callAt_42
      · exact absurd c_4 (by decide)
    · refine lv_iload_n hx hb dX4_callAt_12 rfl (lv_at hl 1 rfl) ?_
      refine lv_aload_n hx hb dX4_callAt_13 rfl (lv_at hl 0 rfl) ?_
      refine va_get (D := D) (ci := 4) (v := .ref (σ + (c + 1))) (C := RX4) (T := TX4) (N := 10) hx hb hts inX4 hown hK.1 (SR.mk1 hR (c := c) hc (bS_4 hk)) 0 rfl rfl 3 (by decide) lk11 (fun _ h9 => h9) rfl dX4_callAt_14 ?_
      refine va_alen (v := 3) hx hb hK.1 (SR.mk1 hR (c := c + 1) (kd_4 c hc hk).1 (bS_21 (kd_4 c hc hk).2)) 0 0 rfl rfl rfl dX4_callAt_17 ?_
      refine lv_icmp_ge (tgt := 25) hx hb dX4_callAt_18 (by decide) (fun c_5 => ?_) (fun c_5 => ?_)
      · refine lv_iconst (v := 0) hx hb dX4_callAt_25 (by decide) ?_
        refine lv_istore_n (lv' := [(2, .int 0), (0, .ref (σ + c)), (1, .int a1)]) hx hb dX4_callAt_26 rfl hl (by decide) rfl (fun ls hl => ?_)
        refine lv_iload_n hx hb dX4_callAt_27 rfl (lv_at hl 0 rfl) ?_
        refine lv_if_eq (tgt := 40) hx hb dX4_callAt_28 (by decide) (fun c_6 => ?_) (fun c_6 => ?_)
        · refine lv_bipush (v := (-5)) hx hb dX4_callAt_40 (by decide) ?_
          exact gm_iret hx hb hr hlocks hS (by (try simp only [f_X4_callAt, ↓if_neg c_1, ↓if_neg c_3, ↓if_pos c_5]); (try rfl)) trivial dX4_callAt_42
        · exact absurd c_6 (by decide)
      · refine lv_iconst (v := 1) hx hb dX4_callAt_21 (by decide) ?_
        refine lv_goto (tgt := 26) hx hb dX4_callAt_22 (by decide) ?_
        refine lv_istore_n (lv' := [(2, .int 1), (0, .ref (σ + c)), (1, .int a1)]) hx hb dX4_callAt_26 rfl hl (by decide) rfl (fun ls hl => ?_)
        refine lv_iload_n hx hb dX4_callAt_27 rfl (lv_at hl 0 rfl) ?_
        refine lv_if_eq (tgt := 40) hx hb dX4_callAt_28 (by decide) (fun c_7 => ?_) (fun c_7 => ?_)
        · exact absurd c_7 (by decide)
        · refine lv_aload_n hx hb dX4_callAt_31 rfl (lv_at hl 1 rfl) ?_
          refine va_get (D := D) (ci := 4) (v := .ref (σ + (c + 1))) (C := RX4) (T := TX4) (N := 10) hx hb hts inX4 hown hK.1 (SR.mk1 hR (c := c) hc (bS_4 hk)) 0 rfl rfl 3 (by decide) lk11 (fun _ h9 => h9) rfl dX4_callAt_32 ?_
          refine lv_iload_n hx hb dX4_callAt_35 rfl (lv_at hl 2 rfl) ?_
          refine gm_iald hx hb hK.1 (SR.mk1 hR (c := c + 1) (kd_4 c hc hk).1 (bS_21 (kd_4 c hc hk).2)) (by
      refine vp_in_iff.mpr ?_
      try simp only [w_ne] at c_1 c_3 c_5
      simp only [Int32.le_iff_toInt_le, Int32.lt_iff_toInt_lt, ← Int32.toInt_inj, ti_m5, ti_0, ti_1, ti_2, ti_3, ti_4, ti_5, ti_6, ti_12, ti_19, ti_23, ti_24, ti_39, ti_40, ti_59, ti_60] at c_1 c_3 c_5 ⊢
      omega) dX4_callAt_36 ?_
          refine lv_goto (tgt := 42) hx hb dX4_callAt_37 (by decide) ?_
          exact gm_iret hx hb hr hlocks hS (by (try simp only [f_X4_callAt, ↓if_neg c_1, ↓if_neg c_3, ↓if_neg c_5]); (try rfl)) trivial dX4_callAt_42
def p_X4_addCall (X : gM) (c : Nat) (a1 : Int32) : Int32 × gM :=
  if f_X8_within (X c 4) 0 2 = 0 then
    (X c 4, X)
  else
    let X1 := updM X (c + 1) ((X c 4).toNatClampNeg) a1
    let X2 := updM X1 c 4 ((X1 c 4) + 1)
    (X2 c 4, X2)
set_option maxHeartbeats 4000000 in
set_option maxRecDepth 100000 in
theorem c_X4_addCall (l : Launch) (D : va_G) (cy : Nat → ClassId) (σ : Nat) (X : gM) (c : Nat) (a1 : Int32) (hc : c < 123) (hk : kdS c = 4) : Met l yX4_addCall wsX4_addCall ({ frames := 1, cells := 0, slots := 0, locals := 22 }) (gP [.ref (σ + c), .int a1] D cy (SR D cy σ X)) (gQi (p_X4_addCall X c a1).1 (SR D cy σ (p_X4_addCall X c a1).2) (SA σ)) 0 0 (SA σ) := by
  refine gm_met (cc := cX4_addCall) (maxL := 2) (ret := (some .int)) [.ref (σ + c), .int a1] (by decide) rfl (Nat.le_of_ble_eq_true rfl) ?_
  intro p e s m args below meth c0 ls C hR hl
  obtain ⟨hx, hb, hr, hts, hown, hlocks, hml, hK⟩ := C
  have hl : lv_has ls 2 [(0, .ref (σ + c)), (1, .int a1)] := hl
  have hS : va_S (SA σ) s.heap s.heap [] := va_S.rf
  have lk32 := hts (.fieldLink RX4 32 "MercuryLine$Station" "callCount" "I") (by decide +kernel)
  have inX4 : ∀ w ∈ u_ws RX4 TX4 10, w ∈ wsX4_addCall := by decide +kernel
  have lk11 := hts (.fieldLink RX4 11 "MercuryLine$Station" "values" "[I") (by decide +kernel)
  refine lv_aload_n hx hb dX4_addCall_0 rfl (lv_at hl 0 rfl) ?_
  refine va_get (D := D) (ci := 4) (v := .int (X c 4)) (C := RX4) (T := TX4) (N := 10) hx hb hts inX4 hown hK.1 (SR.mk1 hR (c := c) hc (bS_4 hk)) 0 rfl rfl 4 (by decide) lk32 (fun _ h9 => h9) rfl dX4_addCall_1 ?_
  refine lv_iconst (v := 0) hx hb dX4_addCall_4 (by decide) ?_
  refine lv_aload_n hx hb dX4_addCall_5 rfl (lv_at hl 0 rfl) ?_
  refine va_get (D := D) (ci := 4) (v := .ref (σ + (c + 1))) (C := RX4) (T := TX4) (N := 10) hx hb hts inX4 hown hK.1 (SR.mk1 hR (c := c) hc (bS_4 hk)) 0 rfl rfl 3 (by decide) lk11 (fun _ h9 => h9) rfl dX4_addCall_6 ?_
  refine va_alen (v := 3) hx hb hK.1 (SR.mk1 hR (c := c + 1) (kd_4 c hc hk).1 (bS_21 (kd_4 c hc hk).2)) 0 0 rfl rfl rfl dX4_addCall_9 ?_
  refine lv_iconst (v := 1) hx hb dX4_addCall_10 (by decide) ?_
  refine lv_isub hx hb dX4_addCall_11 ?_
  rw [show (3 - 1 : Int32) = 2 from by decide]
  refine gm_ci (gm_callN (As := [.int (X c 4), .int 0, .int 2]) (rest := []) ⟨hx, hb, hml, hown, hts⟩ hK (c_X8_within l D cy (X c 4) 0 2) ⟨va_cnB 3 hts gX4_addCall_X8_within_n50 rfl rfl rfl (hK.2.1 (RX4, 50, yX8_within, "MercuryLine") (by decide +kernel)) (hts (.initialized RX8) (by decide +kernel)) (by decide +kernel) ⟨Nat.le_of_ble_eq_true rfl, Nat.le_of_ble_eq_true rfl⟩, hts (.static yX8_within) (by decide +kernel), trivial⟩ trivial rfl hl.1 rfl (Nat.le_of_ble_eq_true rfl) dX4_addCall_12 (Nat.zero_le _) (Nat.zero_le _)) hS (fun _ h => h.elim) (fun H locs _ _ hfr hS => ?_)
  have hR := gRep.keep hR hfr (fun _ _ h => h)
  refine lv_if_eq (tgt := 38) hx hb dX4_addCall_15 (by decide) (fun c_1 => ?_) (fun c_1 => ?_)
  · refine lv_aload_n hx hb dX4_addCall_38 rfl (lv_at hl 0 rfl) ?_
    refine va_get (D := D) (ci := 4) (v := .int (X c 4)) (C := RX4) (T := TX4) (N := 10) hx hb hts inX4 hown hK.1 (SR.mk1 hR (c := c) hc (bS_4 hk)) 0 rfl rfl 4 (by decide) lk32 (fun _ h9 => h9) rfl dX4_addCall_39 ?_
    exact gm_iret hx hb hr hlocks hS (by (try simp only [p_X4_addCall, ↓if_pos c_1]); (try rfl)) (by (try simp only [p_X4_addCall, ↓if_pos c_1]); exact hR) dX4_addCall_42
  · refine lv_aload_n hx hb dX4_addCall_18 rfl (lv_at hl 0 rfl) ?_
    refine va_get (D := D) (ci := 4) (v := .ref (σ + (c + 1))) (C := RX4) (T := TX4) (N := 10) hx hb hts inX4 hown hK.1 (SR.mk1 hR (c := c) hc (bS_4 hk)) 0 rfl rfl 3 (by decide) lk11 (fun _ h9 => h9) rfl dX4_addCall_19 ?_
    refine lv_aload_n hx hb dX4_addCall_22 rfl (lv_at hl 0 rfl) ?_
    refine va_get (D := D) (ci := 4) (v := .int (X c 4)) (C := RX4) (T := TX4) (N := 10) hx hb hts inX4 hown hK.1 (SR.mk1 hR (c := c) hc (bS_4 hk)) 0 rfl rfl 4 (by decide) lk32 (fun _ h9 => h9) rfl dX4_addCall_23 ?_
    refine lv_iload_n hx hb dX4_addCall_26 rfl (lv_at hl 1 rfl) ?_
    refine gm_iast hx hb hK.1 hR injS hS (a := c + 1) (kd_4 c hc hk).1 rfl (fun r => (bS_21 (kd_4 c hc hk).2)) (by
      refine vp_in_iff.mpr ?_
      try simp only [w_ne] at c_1
      simp only [Int32.le_iff_toInt_le, Int32.lt_iff_toInt_lt, ← Int32.toInt_inj, ti_m5, ti_0, ti_1, ti_2, ti_3, ti_4, ti_5, ti_6, ti_12, ti_19, ti_23, ti_24, ti_39, ti_40, ti_59, ti_60] at c_1 ⊢
      omega) dX4_addCall_27 (fun H locs hR hS => ?_)
    obtain ⟨X1, eX1⟩ : ∃ Y : gM, Y = updM X (c + 1) ((X c 4).toNatClampNeg) a1 := ⟨_, rfl⟩
    rw [← eX1] at hR
    refine lv_aload_n hx hb dX4_addCall_28 rfl (lv_at hl 0 rfl) ?_
    refine lv_dup hx hb dX4_addCall_29 rfl ?_
    refine va_get (D := D) (ci := 4) (v := .int (X1 c 4)) (C := RX4) (T := TX4) (N := 10) hx hb hts inX4 hown hK.1 (SR.mk1 hR (c := c) hc (bS_4 hk)) 0 rfl rfl 4 (by decide) lk32 (fun _ h9 => h9) rfl dX4_addCall_30 ?_
    refine lv_iconst (v := 1) hx hb dX4_addCall_33 (by decide) ?_
    refine lv_iadd hx hb dX4_addCall_34 ?_
    refine gm_put (v := .int ((X1 c 4) + 1)) (ty := .int) (ci := 4) (C := RX4) (T := TX4) (N := 10) hx hb hts inX4 tyX4 tyX4_ok nmX4 hown hK.1 hR injS hS (a := c) hc rfl (bS_4 hk) rfl 4 (by decide) lk32 (fun _ h9 => h9) rfl (by decide +kernel) rfl rfl (Nat.le_of_ble_eq_true rfl) (j := 4) (x := (X1 c 4) + 1) (by rw [bS_4 hk]; rfl) dX4_addCall_35 (fun H locs hR hS => ?_)
    obtain ⟨X2, eX2⟩ : ∃ Y : gM, Y = updM X1 c 4 ((X1 c 4) + 1) := ⟨_, rfl⟩
    rw [← eX2] at hR
    refine lv_aload_n hx hb dX4_addCall_38 rfl (lv_at hl 0 rfl) ?_
    refine va_get (D := D) (ci := 4) (v := .int (X2 c 4)) (C := RX4) (T := TX4) (N := 10) hx hb hts inX4 hown hK.1 (SR.mk1 hR (c := c) hc (bS_4 hk)) 0 rfl rfl 4 (by decide) lk32 (fun _ h9 => h9) rfl dX4_addCall_39 ?_
    exact gm_iret hx hb hr hlocks hS (by (try simp only [p_X4_addCall, ↓if_neg c_1, ← eX1, ← eX2]); (try rfl)) (by (try simp only [p_X4_addCall, ↓if_neg c_1, ← eX1, ← eX2]); exact hR) dX4_addCall_42
def lf_X4_removeCall_15 (c : Nat) (k1 : Nat) (K : (gM) → (Nat) → (gM)) : Nat → (gM) → (Nat) → (gM)
  | 0, Z, k_2 => K Z k_2
  | n + 1, Z, k_2 =>
    if Z c 4 ≤ nI (k_2 + 1) then
      K Z k_2
    else
      if 3 ≤ nI (k_2 + 1) then
        K Z k_2
      else
        let X1 := updM Z (c + 1) k_2 (Z (c + 1) (k_2 + 1))
        lf_X4_removeCall_15 c k1 K n X1 (k_2 + 1)
def p_X4_removeCall (X : gM) (c : Nat) (k1 : Nat) : gM :=
  if nI k1 < 0 then
    X
  else
    if nI k1 < X c 4 then
      lf_X4_removeCall_15 c k1 (fun X1 k_2w6 =>
            let X2 := updM X1 c 4 ((X1 c 4) - 1)
            X2) 2147483647 X k1
    else
      X
set_option maxHeartbeats 4000000 in
set_option maxRecDepth 100000 in
theorem lp_X4_removeCall_15 {p : Program} {l : Launch} {e : Env} {s : State} {m : MethodId} {args : Array Value} {below : List Frame} {meth : Method} {c0 : Code} {D : va_G} {cy : Nat → ClassId} (C : gCtx cX4_removeCall 3 none RX4 wsX4_removeCall D cy p s m args meth c0) (σ : Nat) (c : Nat) (k1 : Nat) (hc : c < 123) (hk : kdS c = 4) (hk1 : k1 < 2147483647)
    (K : (gM) → (Nat) → (gM)) (hexit : ∀ (Z : gM) (k_2 : Nat), k_2 ≤ 2147483646 → ∀ (H : Heap) (locs : List Loc) (ls : Array Slot), SR D cy σ Z H → va_S (SA σ) s.heap H locs → lv_has ls 3 [(0, .ref (σ + c)), (1, .int (nI k1)), (2, .int (nI k_2))] → W p l e { frames := 0, cells := 0, slots := 0, locals := 0 } s m args below meth c0 H locs 0 0 (MQ below (gQv (SR D cy σ (K Z k_2)) (SA σ)) args s 0 0 (SA σ)) (F0 m 56 ls [])) :
    ∀ (n : Nat) (Z : gM) (k_2 : Nat), k_2 ≤ 2147483646 → 2147483646 < k_2 + n → ∀ (H : Heap) (locs : List Loc) (ls : Array Slot), SR D cy σ Z H → va_S (SA σ) s.heap H locs → lv_has ls 3 [(0, .ref (σ + c)), (1, .int (nI k1)), (2, .int (nI k_2))] → W p l e { frames := 0, cells := 0, slots := 0, locals := 0 } s m args below meth c0 H locs 0 0 (MQ below (gQv (SR D cy σ (lf_X4_removeCall_15 c k1 K n Z k_2)) (SA σ)) args s 0 0 (SA σ)) (F0 m 15 ls []) := by
  obtain ⟨hx, hb, hr, hts, hown, hlocks, hml, hK⟩ := C
  have lk32 := hts (.fieldLink RX4 32 "MercuryLine$Station" "callCount" "I") (by decide +kernel)
  have inX4 : ∀ w ∈ u_ws RX4 TX4 10, w ∈ wsX4_removeCall := by decide +kernel
  have lk11 := hts (.fieldLink RX4 11 "MercuryLine$Station" "values" "[I") (by decide +kernel)
  intro n
  induction n with
  | zero =>
    intro Z k_2 hb_2 hme
    exact absurd hme (by omega)
  | succ n ih =>
    intro Z k_2 hb_2 hme H locs ls hR hS hl
    refine lv_iload_n hx hb dX4_removeCall_15 rfl (lv_at hl 2 rfl) ?_
    refine lv_iconst (v := 1) hx hb dX4_removeCall_16 (by decide) ?_
    refine lv_iadd hx hb dX4_removeCall_17 ?_
    rw [show ((nI k_2) + 1 : Int32) = nI (k_2 + 1) from nI_add _ 1]
    refine lv_aload_n hx hb dX4_removeCall_18 rfl (lv_at hl 0 rfl) ?_
    refine va_get (D := D) (ci := 4) (v := .int (Z c 4)) (C := RX4) (T := TX4) (N := 10) hx hb hts inX4 hown hK.1 (SR.mk1 hR (c := c) hc (bS_4 hk)) 0 rfl rfl 4 (by decide) lk32 (fun _ h9 => h9) rfl dX4_removeCall_19 ?_
    refine lv_icmp_ge (tgt := 56) hx hb dX4_removeCall_22 (by decide) (fun c_1 => ?_) (fun c_1 => ?_)
    · refine gm_q (Q2 := MQ below (gQv (SR D cy σ (K Z k_2)) (SA σ)) args s 0 0 (SA σ)) (by simp only [lf_X4_removeCall_15, ↓if_pos c_1]) ?_
      exact hexit Z k_2 hb_2  _ _ _ hR hS (lv_sub hl [0, 1, 2] rfl)
    · refine lv_iload_n hx hb dX4_removeCall_25 rfl (lv_at hl 2 rfl) ?_
      refine lv_iconst (v := 1) hx hb dX4_removeCall_26 (by decide) ?_
      refine lv_iadd hx hb dX4_removeCall_27 ?_
      rw [show ((nI k_2) + 1 : Int32) = nI (k_2 + 1) from nI_add _ 1]
      refine lv_aload_n hx hb dX4_removeCall_28 rfl (lv_at hl 0 rfl) ?_
      refine va_get (D := D) (ci := 4) (v := .ref (σ + (c + 1))) (C := RX4) (T := TX4) (N := 10) hx hb hts inX4 hown hK.1 (SR.mk1 hR (c := c) hc (bS_4 hk)) 0 rfl rfl 3 (by decide) lk11 (fun _ h9 => h9) rfl dX4_removeCall_29 ?_
      refine va_alen (v := 3) hx hb hK.1 (SR.mk1 hR (c := c + 1) (kd_4 c hc hk).1 (bS_21 (kd_4 c hc hk).2)) 0 0 rfl rfl rfl dX4_removeCall_32 ?_
      refine lv_icmp_ge (tgt := 56) hx hb dX4_removeCall_33 (by decide) (fun c_2 => ?_) (fun c_2 => ?_)
      · have ge_3 : 3 ≤ (k_2 + 1) := g_ge2 (by omega) (by decide) c_2
        refine gm_q (Q2 := MQ below (gQv (SR D cy σ (K Z k_2)) (SA σ)) args s 0 0 (SA σ)) (by simp only [lf_X4_removeCall_15, ↓if_neg c_1, ↓if_pos c_2]) ?_
        exact hexit Z k_2 hb_2  _ _ _ hR hS (lv_sub hl [0, 1, 2] rfl)
      · have lt_4 : (k_2 + 1) < 3 := g_lt (by omega) (by decide) c_2
        refine lv_aload_n hx hb dX4_removeCall_36 rfl (lv_at hl 0 rfl) ?_
        refine va_get (D := D) (ci := 4) (v := .ref (σ + (c + 1))) (C := RX4) (T := TX4) (N := 10) hx hb hts inX4 hown hK.1 (SR.mk1 hR (c := c) hc (bS_4 hk)) 0 rfl rfl 3 (by decide) lk11 (fun _ h9 => h9) rfl dX4_removeCall_37 ?_
        refine lv_iload_n hx hb dX4_removeCall_40 rfl (lv_at hl 2 rfl) ?_
        refine lv_aload_n hx hb dX4_removeCall_41 rfl (lv_at hl 0 rfl) ?_
        refine va_get (D := D) (ci := 4) (v := .ref (σ + (c + 1))) (C := RX4) (T := TX4) (N := 10) hx hb hts inX4 hown hK.1 (SR.mk1 hR (c := c) hc (bS_4 hk)) 0 rfl rfl 3 (by decide) lk11 (fun _ h9 => h9) rfl dX4_removeCall_42 ?_
        refine lv_iload_n hx hb dX4_removeCall_45 rfl (lv_at hl 2 rfl) ?_
        refine lv_iconst (v := 1) hx hb dX4_removeCall_46 (by decide) ?_
        refine lv_iadd hx hb dX4_removeCall_47 ?_
        rw [show ((nI k_2) + 1 : Int32) = nI (k_2 + 1) from nI_add _ 1]
        refine gm_iald hx hb hK.1 (SR.mk1 hR (c := c + 1) (kd_4 c hc hk).1 (bS_21 (kd_4 c hc hk).2)) (vp_in_nI lt_4 (by decide)) dX4_removeCall_48 ?_
        rw [nI_clamp (n := (k_2 + 1)) (by omega)]
        refine gm_iast hx hb hK.1 hR injS hS (a := c + 1) (kd_4 c hc hk).1 rfl (fun r => (bS_21 (kd_4 c hc hk).2)) (vp_in_nI (by omega) (by decide)) dX4_removeCall_49 (fun H locs hR hS => ?_)
        rw [nI_clamp (n := k_2) (by omega)] at hR
        obtain ⟨X1, eX1⟩ : ∃ Y : gM, Y = updM Z (c + 1) k_2 (Z (c + 1) (k_2 + 1)) := ⟨_, rfl⟩
        rw [← eX1] at hR
        refine lv_iinc (v := nI (k_2 + 1)) (lv' := [(2, .int (nI (k_2 + 1))), (0, .ref (σ + c)), (1, .int (nI k1))]) hx hb dX4_removeCall_50 hl (k := 2) rfl (nI_1 _) (by decide) rfl (fun ls hl => ?_)
        refine lv_goto (tgt := 15) hx hb dX4_removeCall_53 (by decide) ?_
        refine gm_q (Q2 := MQ below (gQv (SR D cy σ (lf_X4_removeCall_15 c k1 K n X1 (k_2 + 1))) (SA σ)) args s 0 0 (SA σ)) (by simp only [lf_X4_removeCall_15, ↓if_neg c_1, ↓if_neg c_2, ← eX1]) ?_
        exact ih X1 (k_2 + 1) (by omega) (by omega) _ _ _ hR hS (lv_sub hl [1, 2, 0] rfl)
set_option maxHeartbeats 4000000 in
set_option maxRecDepth 100000 in
theorem c_X4_removeCall (l : Launch) (D : va_G) (cy : Nat → ClassId) (σ : Nat) (X : gM) (c : Nat) (k1 : Nat) (hc : c < 123) (hk : kdS c = 4) (hk1 : k1 < 2147483647) : Met l yX4_removeCall wsX4_removeCall ({ frames := 0, cells := 0, slots := 0, locals := 0 }) (gP [.ref (σ + c), .int (nI k1)] D cy (SR D cy σ X)) (gQv (SR D cy σ (p_X4_removeCall X c k1)) (SA σ)) 0 0 (SA σ) := by
  refine gm_met (cc := cX4_removeCall) (maxL := 3) (ret := none) [.ref (σ + c), .int (nI k1)] (by decide) rfl (Nat.le_of_ble_eq_true rfl) ?_
  intro p e s m args below meth c0 ls C hR hl
  obtain ⟨hx, hb, hr, hts, hown, hlocks, hml, hK⟩ := C
  have hl : lv_has ls 3 [(0, .ref (σ + c)), (1, .int (nI k1))] := hl
  have hS : va_S (SA σ) s.heap s.heap [] := va_S.rf
  have lk32 := hts (.fieldLink RX4 32 "MercuryLine$Station" "callCount" "I") (by decide +kernel)
  have inX4 : ∀ w ∈ u_ws RX4 TX4 10, w ∈ wsX4_removeCall := by decide +kernel
  refine lv_iload_n hx hb dX4_removeCall_0 rfl (lv_at hl 1 rfl) ?_
  refine lv_if_lt (tgt := 12) hx hb dX4_removeCall_1 (by decide) (fun c_1 => ?_) (fun c_1 => ?_)
  · have lt_2 : k1 < 0 := g_lt2 (Nat.lt_of_lt_of_le hk1 (by decide)) (by decide) c_1
    exact gm_vret hx hb hr hlocks hS (by (try simp only [p_X4_removeCall, ↓if_pos c_1]); exact hR) dX4_removeCall_12
  · have ge_3 : 0 ≤ k1 := g_ge (Nat.lt_of_lt_of_le hk1 (by decide)) (by decide) c_1
    refine lv_iload_n hx hb dX4_removeCall_4 rfl (lv_at hl 1 rfl) ?_
    refine lv_aload_n hx hb dX4_removeCall_5 rfl (lv_at hl 0 rfl) ?_
    refine va_get (D := D) (ci := 4) (v := .int (X c 4)) (C := RX4) (T := TX4) (N := 10) hx hb hts inX4 hown hK.1 (SR.mk1 hR (c := c) hc (bS_4 hk)) 0 rfl rfl 4 (by decide) lk32 (fun _ h9 => h9) rfl dX4_removeCall_6 ?_
    refine lv_icmp_lt (tgt := 13) hx hb dX4_removeCall_9 (by decide) (fun c_4 => ?_) (fun c_4 => ?_)
    · have lt_5 : k1 < 2147483647 := g_big2 (Nat.lt_of_lt_of_le hk1 (by decide)) c_4
      refine lv_iload_n hx hb dX4_removeCall_13 rfl (lv_at hl 1 rfl) ?_
      refine lv_istore_n (lv' := [(2, .int (nI k1)), (0, .ref (σ + c)), (1, .int (nI k1))]) hx hb dX4_removeCall_14 rfl hl (by decide) rfl (fun ls hl => ?_)
      refine gm_q (Q2 := MQ below (gQv (SR D cy σ (lf_X4_removeCall_15 c k1 (fun X1 k_2w6 =>
            let X2 := updM X1 c 4 ((X1 c 4) - 1)
            X2) 2147483647 X k1)) (SA σ)) args s 0 0 (SA σ)) (by simp only [p_X4_removeCall, ↓if_neg c_1, ↓if_pos c_4]) ?_
      refine lp_X4_removeCall_15 ⟨hx, hb, hr, hts, hown, hlocks, hml, hK⟩ σ c k1 hc hk hk1 _ (fun X1 k_2w6 hbk_2w6 H locs ls hR hS hl => ?_) 2147483647 X k1 (by omega) (by omega) _ _ _ hR hS (lv_sub hl [1, 2, 0] rfl)
      refine lv_aload_n hx hb dX4_removeCall_56 rfl (lv_at hl 0 rfl) ?_
      refine lv_dup hx hb dX4_removeCall_57 rfl ?_
      refine va_get (D := D) (ci := 4) (v := .int (X1 c 4)) (C := RX4) (T := TX4) (N := 10) hx hb hts inX4 hown hK.1 (SR.mk1 hR (c := c) hc (bS_4 hk)) 0 rfl rfl 4 (by decide) lk32 (fun _ h9 => h9) rfl dX4_removeCall_58 ?_
      refine lv_iconst (v := 1) hx hb dX4_removeCall_61 (by decide) ?_
      refine lv_isub hx hb dX4_removeCall_62 ?_
      refine gm_put (v := .int ((X1 c 4) - 1)) (ty := .int) (ci := 4) (C := RX4) (T := TX4) (N := 10) hx hb hts inX4 tyX4 tyX4_ok nmX4 hown hK.1 hR injS hS (a := c) hc rfl (bS_4 hk) rfl 4 (by decide) lk32 (fun _ h9 => h9) rfl (by decide +kernel) rfl rfl (Nat.le_of_ble_eq_true rfl) (j := 4) (x := (X1 c 4) - 1) (by rw [bS_4 hk]; rfl) dX4_removeCall_63 (fun H locs hR hS => ?_)
      obtain ⟨X2, eX2⟩ : ∃ Y : gM, Y = updM X1 c 4 ((X1 c 4) - 1) := ⟨_, rfl⟩
      rw [← eX2] at hR
      exact gm_vret hx hb hr hlocks hS (by (try simp only [p_X4_removeCall, ↓if_neg c_1, ↓if_pos c_4, ← eX2]); exact hR) dX4_removeCall_66
    · exact gm_vret hx hb hr hlocks hS (by (try simp only [p_X4_removeCall, ↓if_neg c_1, ↓if_neg c_4]); exact hR) dX4_removeCall_12
def lf_X4_takeCall_2 (c : Nat) (a1 : Int32) (K : (gM) → (Nat) → (Int32 × gM)) : Nat → (gM) → (Nat) → (Int32 × gM)
  | 0, Z, k_2 => K Z k_2
  | n + 1, Z, k_2 =>
    if Z c 4 ≤ nI k_2 then
      K Z k_2
    else
      if f_X4_callAt Z c (nI k_2) = a1 then
        let X1 := p_X4_removeCall Z c k_2
        (1, X1)
      else
        lf_X4_takeCall_2 c a1 K n Z (k_2 + 1)
def p_X4_takeCall (X : gM) (c : Nat) (a1 : Int32) : Int32 × gM :=
  lf_X4_takeCall_2 c a1 (fun X1 k_2w1 =>
        (0, X1)) 2147483648 X 0
set_option maxHeartbeats 4000000 in
set_option maxRecDepth 100000 in
theorem lp_X4_takeCall_2 {p : Program} {l : Launch} {e : Env} {s : State} {m : MethodId} {args : Array Value} {below : List Frame} {meth : Method} {c0 : Code} {D : va_G} {cy : Nat → ClassId} (C : gCtx cX4_takeCall 3 (some .boolean) RX4 wsX4_takeCall D cy p s m args meth c0) (σ : Nat) (c : Nat) (a1 : Int32) (hc : c < 123) (hk : kdS c = 4)
    (K : (gM) → (Nat) → (Int32 × gM)) (hexit : ∀ (Z : gM) (k_2 : Nat), k_2 ≤ 2147483647 → ∀ (H : Heap) (locs : List Loc) (ls : Array Slot), SR D cy σ Z H → va_S (SA σ) s.heap H locs → lv_has ls 3 [(0, .ref (σ + c)), (1, .int a1), (2, .int (nI k_2))] → W p l e { frames := 1, cells := 0, slots := 0, locals := 22 } s m args below meth c0 H locs 0 0 (MQ below (gQi (K Z k_2).1 (SR D cy σ (K Z k_2).2) (SA σ)) args s 0 0 (SA σ)) (F0 m 32 ls [])) :
    ∀ (n : Nat) (Z : gM) (k_2 : Nat), k_2 ≤ 2147483647 → 2147483647 < k_2 + n → ∀ (H : Heap) (locs : List Loc) (ls : Array Slot), SR D cy σ Z H → va_S (SA σ) s.heap H locs → lv_has ls 3 [(0, .ref (σ + c)), (1, .int a1), (2, .int (nI k_2))] → W p l e { frames := 1, cells := 0, slots := 0, locals := 22 } s m args below meth c0 H locs 0 0 (MQ below (gQi (lf_X4_takeCall_2 c a1 K n Z k_2).1 (SR D cy σ (lf_X4_takeCall_2 c a1 K n Z k_2).2) (SA σ)) args s 0 0 (SA σ)) (F0 m 2 ls []) := by
  obtain ⟨hx, hb, hr, hts, hown, hlocks, hml, hK⟩ := C
  have lk32 := hts (.fieldLink RX4 32 "MercuryLine$Station" "callCount" "I") (by decide +kernel)
  have inX4 : ∀ w ∈ u_ws RX4 TX4 10, w ∈ wsX4_takeCall := by decide +kernel
  intro n
  induction n with
  | zero =>
    intro Z k_2 hb_2 hme
    exact absurd hme (by omega)
  | succ n ih =>
    intro Z k_2 hb_2 hme H locs ls hR hS hl
    refine lv_iload_n hx hb dX4_takeCall_2 rfl (lv_at hl 2 rfl) ?_
    refine lv_aload_n hx hb dX4_takeCall_3 rfl (lv_at hl 0 rfl) ?_
    refine va_get (D := D) (ci := 4) (v := .int (Z c 4)) (C := RX4) (T := TX4) (N := 10) hx hb hts inX4 hown hK.1 (SR.mk1 hR (c := c) hc (bS_4 hk)) 0 rfl rfl 4 (by decide) lk32 (fun _ h9 => h9) rfl dX4_takeCall_4 ?_
    refine lv_icmp_ge (tgt := 32) hx hb dX4_takeCall_7 (by decide) (fun c_1 => ?_) (fun c_1 => ?_)
    · refine gm_q (Q2 := MQ below (gQi (K Z k_2).1 (SR D cy σ (K Z k_2).2) (SA σ)) args s 0 0 (SA σ)) (by simp only [lf_X4_takeCall_2, ↓if_pos c_1]) ?_
      exact hexit Z k_2 hb_2  _ _ _ hR hS (lv_sub hl [0, 1, 2] rfl)
    · have lt_2 : k_2 < 2147483647 := g_big (Nat.lt_of_le_of_lt hb_2 (by decide)) c_1
      refine lv_aload_n hx hb dX4_takeCall_10 rfl (lv_at hl 0 rfl) ?_
      refine lv_iload_n hx hb dX4_takeCall_11 rfl (lv_at hl 2 rfl) ?_
      refine gm_ci (gm_call (As := [.int (nI k_2)]) (rest := []) (ci := 4) (q := (RX4, TX4, 10)) ⟨hx, hb, hml, hown, hts⟩ hK (c_X4_callAt l D cy σ Z c (nI k_2) hc hk) (cwV 1 hts gX4_takeCall_X4_callAt rfl rfl rfl (by decide +kernel) ⟨Nat.le_of_ble_eq_true rfl, Nat.le_of_ble_eq_true rfl⟩) (SR.mk1 hR (c := c) hc (bS_4 hk)) rfl hR rfl hl.1 rfl (Nat.le_of_ble_eq_true rfl) dX4_takeCall_12 (Nat.zero_le _) (Nat.zero_le _)) hS (fun _ h => h.elim) (fun H locs _ _ hfr hS => ?_)
      have hR := gRep.keep hR hfr (fun _ _ h => h)
      refine lv_iload_n hx hb dX4_takeCall_15 rfl (lv_at hl 1 rfl) ?_
      refine lv_icmp_ne (tgt := 26) hx hb dX4_takeCall_16 (by decide) (fun c_3 => ?_) (fun c_3 => ?_)
      · refine lv_iinc (v := nI (k_2 + 1)) (lv' := [(2, .int (nI (k_2 + 1))), (0, .ref (σ + c)), (1, .int a1)]) hx hb dX4_takeCall_26 hl (k := 2) rfl (nI_1 _) (by decide) rfl (fun ls hl => ?_)
        refine lv_goto (tgt := 2) hx hb dX4_takeCall_29 (by decide) ?_
        refine gm_q (Q2 := MQ below (gQi (lf_X4_takeCall_2 c a1 K n Z (k_2 + 1)).1 (SR D cy σ (lf_X4_takeCall_2 c a1 K n Z (k_2 + 1)).2) (SA σ)) args s 0 0 (SA σ)) (by simp only [lf_X4_takeCall_2, ↓if_neg c_1, ↓if_neg c_3]) ?_
        exact ih Z (k_2 + 1) lt_2 (by omega) _ _ _ hR hS (lv_sub hl [1, 2, 0] rfl)
      · refine lv_aload_n hx hb dX4_takeCall_19 rfl (lv_at hl 0 rfl) ?_
        refine lv_iload_n hx hb dX4_takeCall_20 rfl (lv_at hl 2 rfl) ?_
        refine gm_cv (gm_call (As := [.int (nI k_2)]) (rest := []) (ci := 4) (q := (RX4, TX4, 10)) ⟨hx, hb, hml, hown, hts⟩ hK (c_X4_removeCall l D cy σ Z c k_2 hc hk lt_2) (cwV 1 hts gX4_takeCall_X4_removeCall rfl rfl rfl (by decide +kernel) ⟨Nat.le_of_ble_eq_true rfl, Nat.le_of_ble_eq_true rfl⟩) (SR.mk1 hR (c := c) hc (bS_4 hk)) rfl hR rfl hl.1 rfl (Nat.le_of_ble_eq_true rfl) dX4_takeCall_21 (Nat.zero_le _) (Nat.zero_le _)) hS (fun _ h => h) (fun H locs hR _ _ hS => ?_)
        obtain ⟨X1, eX1⟩ : ∃ Y : gM, Y = p_X4_removeCall Z c k_2 := ⟨_, rfl⟩
        rw [← eX1] at hR
        refine lv_iconst (v := 1) hx hb dX4_takeCall_24 (by decide) ?_
        exact gm_zret hx hb hr hlocks rfl hS (by (try simp only [lf_X4_takeCall_2, ↓if_neg c_1, ↓if_pos c_3, ← eX1]); (try rfl)) (by (try simp only [lf_X4_takeCall_2, ↓if_neg c_1, ↓if_pos c_3, ← eX1]); exact hR) dX4_takeCall_25
set_option maxHeartbeats 4000000 in
set_option maxRecDepth 100000 in
theorem c_X4_takeCall (l : Launch) (D : va_G) (cy : Nat → ClassId) (σ : Nat) (X : gM) (c : Nat) (a1 : Int32) (hc : c < 123) (hk : kdS c = 4) : Met l yX4_takeCall wsX4_takeCall ({ frames := 1, cells := 0, slots := 0, locals := 22 }) (gP [.ref (σ + c), .int a1] D cy (SR D cy σ X)) (gQi (p_X4_takeCall X c a1).1 (SR D cy σ (p_X4_takeCall X c a1).2) (SA σ)) 0 0 (SA σ) := by
  refine gm_met (cc := cX4_takeCall) (maxL := 3) (ret := (some .boolean)) [.ref (σ + c), .int a1] (by decide) rfl (Nat.le_of_ble_eq_true rfl) ?_
  intro p e s m args below meth c0 ls C hR hl
  obtain ⟨hx, hb, hr, hts, hown, hlocks, hml, hK⟩ := C
  have hl : lv_has ls 3 [(0, .ref (σ + c)), (1, .int a1)] := hl
  have hS : va_S (SA σ) s.heap s.heap [] := va_S.rf
  refine lv_iconst (v := 0) hx hb dX4_takeCall_0 (by decide) ?_
  refine lv_istore_n (lv' := [(2, .int 0), (0, .ref (σ + c)), (1, .int a1)]) hx hb dX4_takeCall_1 rfl hl (by decide) rfl (fun ls hl => ?_)
  refine gm_q (Q2 := MQ below (gQi (lf_X4_takeCall_2 c a1 (fun X1 k_2w1 =>
        (0, X1)) 2147483648 X 0).1 (SR D cy σ (lf_X4_takeCall_2 c a1 (fun X1 k_2w1 =>
        (0, X1)) 2147483648 X 0).2) (SA σ)) args s 0 0 (SA σ)) (by simp only [p_X4_takeCall]) ?_
  refine lp_X4_takeCall_2 ⟨hx, hb, hr, hts, hown, hlocks, hml, hK⟩ σ c a1 hc hk _ (fun X1 k_2w1 hbk_2w1 H locs ls hR hS hl => ?_) 2147483648 X 0 (by decide) (by omega) _ _ _ hR hS (lv_sub hl [1, 2, 0] rfl)
  refine lv_iconst (v := 0) hx hb dX4_takeCall_32 (by decide) ?_
  exact gm_zret hx hb hr hlocks rfl hS (by (try simp only [p_X4_takeCall]); (try rfl)) (by (try simp only [p_X4_takeCall]); exact hR) dX4_takeCall_33
def p_X1_write (X : gM) (c : Nat) (a1 : Int32) (a2 : Int32) (a3 : Int32) (a4 : Int32) (a5 : Int32) : gM :=
  if X c 2 < 0 then
    X
  else
    if X c 2 < 12 then
      let X1 := updM X (c + 1) ((X c 2).toNatClampNeg * 5) a1
      let X2 := updM X1 (c + 1) (((X c 2).toNatClampNeg * 5) + 1) a2
      let X3 := updM X2 (c + 1) (((X c 2).toNatClampNeg * 5) + 2) a3
      let X4 := updM X3 (c + 1) (((X c 2).toNatClampNeg * 5) + 3) a4
      let X5 := updM X4 (c + 1) (((X c 2).toNatClampNeg * 5) + 4) a5
      let X6 := updM X5 c 2 (((X5 c 2) + 1) - ((X5 c 2) + 1) / 12 * 12)
      if 12 ≤ X6 c 1 then
        let X7 := updM X6 c 1 12
        X7
      else
        let X8 := updM X6 c 1 ((X6 c 1) + 1)
        X8
    else
      X
set_option maxHeartbeats 4000000 in
set_option maxRecDepth 100000 in
theorem c_X1_write (l : Launch) (D : va_G) (cy : Nat → ClassId) (σ : Nat) (X : gM) (c : Nat) (a1 : Int32) (a2 : Int32) (a3 : Int32) (a4 : Int32) (a5 : Int32) (hc : c < 123) (hk : kdS c = 1) : Met l yX1_write wsX1_write ({ frames := 0, cells := 0, slots := 0, locals := 0 }) (gP [.ref (σ + c), .int a1, .int a2, .int a3, .int a4, .int a5] D cy (SR D cy σ X)) (gQv (SR D cy σ (p_X1_write X c a1 a2 a3 a4 a5)) (SA σ)) 0 0 (SA σ) := by
  refine gm_met (cc := cX1_write) (maxL := 7) (ret := none) [.ref (σ + c), .int a1, .int a2, .int a3, .int a4, .int a5] (by decide) rfl (Nat.le_of_ble_eq_true rfl) ?_
  intro p e s m args below meth c0 ls C hR hl
  obtain ⟨hx, hb, hr, hts, hown, hlocks, hml, hK⟩ := C
  have hl : lv_has ls 7 [(0, .ref (σ + c)), (1, .int a1), (2, .int a2), (3, .int a3), (4, .int a4), (5, .int a5)] := hl
  have hS : va_S (SA σ) s.heap s.heap [] := va_S.rf
  have lk25 := hts (.fieldLink RX1 25 "MercuryLine$Log" "nextRow" "I") (by decide +kernel)
  have inX1 : ∀ w ∈ u_ws RX1 TX1 3, w ∈ wsX1_write := by decide +kernel
  have lk11 := hts (.fieldLink RX1 11 "MercuryLine$Log" "cells" "[I") (by decide +kernel)
  have lk21 := hts (.fieldLink RX1 21 "MercuryLine$Log" "known" "I") (by decide +kernel)
  refine lv_aload_n hx hb dX1_write_0 rfl (lv_at hl 0 rfl) ?_
  refine va_get (D := D) (ci := 1) (v := .int (X c 2)) (C := RX1) (T := TX1) (N := 3) hx hb hts inX1 hown hK.1 (SR.mk1 hR (c := c) hc (bS_1 hk)) 0 rfl rfl 2 (by decide) lk25 (fun _ h9 => h9) rfl dX1_write_1 ?_
  refine lv_if_lt (tgt := 16) hx hb dX1_write_4 (by decide) (fun c_1 => ?_) (fun c_1 => ?_)
  · exact gm_vret hx hb hr hlocks hS (by (try simp only [p_X1_write, ↓if_pos c_1]); exact hR) dX1_write_16
  · refine lv_aload_n hx hb dX1_write_7 rfl (lv_at hl 0 rfl) ?_
    refine va_get (D := D) (ci := 1) (v := .int (X c 2)) (C := RX1) (T := TX1) (N := 3) hx hb hts inX1 hown hK.1 (SR.mk1 hR (c := c) hc (bS_1 hk)) 0 rfl rfl 2 (by decide) lk25 (fun _ h9 => h9) rfl dX1_write_8 ?_
    refine lv_bipush (v := 12) hx hb dX1_write_11 (by decide) ?_
    refine lv_icmp_lt (tgt := 17) hx hb dX1_write_13 (by decide) (fun c_2 => ?_) (fun c_2 => ?_)
    · refine lv_aload_n hx hb dX1_write_17 rfl (lv_at hl 0 rfl) ?_
      have g9 := g_row c_1 c_2
      refine va_get (D := D) (ci := 1) (v := .int (X c 2)) (C := RX1) (T := TX1) (N := 3) hx hb hts inX1 hown hK.1 (SR.mk1 hR (c := c) hc (bS_1 hk)) 0 rfl rfl 2 (by decide) lk25 (fun _ h9 => h9) rfl dX1_write_18 ?_
      refine lv_iconst (v := 5) hx hb dX1_write_21 (by decide) ?_
      refine lv_imul hx hb dX1_write_22 ?_
      rw [show ((X c 2) * 5 : Int32) = nI ((X c 2).toNatClampNeg * 5) from g9.1]
      refine lv_istore (lv' := [(6, .int (nI ((X c 2).toNatClampNeg * 5))), (0, .ref (σ + c)), (1, .int a1), (2, .int a2), (3, .int a3), (4, .int a4), (5, .int a5)]) hx hb dX1_write_23 hl (by decide) rfl (fun ls hl => ?_)
      refine lv_aload_n hx hb dX1_write_25 rfl (lv_at hl 1 rfl) ?_
      refine va_get (D := D) (ci := 1) (v := .ref (σ + (c + 1))) (C := RX1) (T := TX1) (N := 3) hx hb hts inX1 hown hK.1 (SR.mk1 hR (c := c) hc (bS_1 hk)) 0 rfl rfl 0 (by decide) lk11 (fun _ h9 => h9) rfl dX1_write_26 ?_
      refine lv_iload hx hb dX1_write_29 (lv_at hl 0 rfl) ?_
      refine lv_iload_n hx hb dX1_write_31 rfl (lv_at hl 2 rfl) ?_
      refine gm_iast hx hb hK.1 hR injS hS (a := c + 1) (kd_1 c hc hk).1 rfl (fun r => (bS_22 (kd_1 c hc hk).2)) (vp_in_nI (by omega) (by decide)) dX1_write_32 (fun H locs hR hS => ?_)
      rw [nI_clamp (n := ((X c 2).toNatClampNeg * 5)) (by omega)] at hR
      obtain ⟨X1, eX1⟩ : ∃ Y : gM, Y = updM X (c + 1) ((X c 2).toNatClampNeg * 5) a1 := ⟨_, rfl⟩
      rw [← eX1] at hR
      refine lv_aload_n hx hb dX1_write_33 rfl (lv_at hl 1 rfl) ?_
      refine va_get (D := D) (ci := 1) (v := .ref (σ + (c + 1))) (C := RX1) (T := TX1) (N := 3) hx hb hts inX1 hown hK.1 (SR.mk1 hR (c := c) hc (bS_1 hk)) 0 rfl rfl 0 (by decide) lk11 (fun _ h9 => h9) rfl dX1_write_34 ?_
      refine lv_iload hx hb dX1_write_37 (lv_at hl 0 rfl) ?_
      refine lv_iconst (v := 1) hx hb dX1_write_39 (by decide) ?_
      refine lv_iadd hx hb dX1_write_40 ?_
      rw [show ((nI ((X c 2).toNatClampNeg * 5)) + 1 : Int32) = nI (((X c 2).toNatClampNeg * 5) + 1) from nI_add _ 1]
      refine lv_iload_n hx hb dX1_write_41 rfl (lv_at hl 3 rfl) ?_
      refine gm_iast hx hb hK.1 hR injS hS (a := c + 1) (kd_1 c hc hk).1 rfl (fun r => (bS_22 (kd_1 c hc hk).2)) (vp_in_nI (by omega) (by decide)) dX1_write_42 (fun H locs hR hS => ?_)
      rw [nI_clamp (n := (((X c 2).toNatClampNeg * 5) + 1)) (by omega)] at hR
      obtain ⟨X2, eX2⟩ : ∃ Y : gM, Y = updM X1 (c + 1) (((X c 2).toNatClampNeg * 5) + 1) a2 := ⟨_, rfl⟩
      rw [← eX2] at hR
      refine lv_aload_n hx hb dX1_write_43 rfl (lv_at hl 1 rfl) ?_
      refine va_get (D := D) (ci := 1) (v := .ref (σ + (c + 1))) (C := RX1) (T := TX1) (N := 3) hx hb hts inX1 hown hK.1 (SR.mk1 hR (c := c) hc (bS_1 hk)) 0 rfl rfl 0 (by decide) lk11 (fun _ h9 => h9) rfl dX1_write_44 ?_
      refine lv_iload hx hb dX1_write_47 (lv_at hl 0 rfl) ?_
      refine lv_iconst (v := 2) hx hb dX1_write_49 (by decide) ?_
      refine lv_iadd hx hb dX1_write_50 ?_
      rw [show ((nI ((X c 2).toNatClampNeg * 5)) + 2 : Int32) = nI (((X c 2).toNatClampNeg * 5) + 2) from nI_add _ 2]
      refine lv_iload_n hx hb dX1_write_51 rfl (lv_at hl 4 rfl) ?_
      refine gm_iast hx hb hK.1 hR injS hS (a := c + 1) (kd_1 c hc hk).1 rfl (fun r => (bS_22 (kd_1 c hc hk).2)) (vp_in_nI (by omega) (by decide)) dX1_write_52 (fun H locs hR hS => ?_)
      rw [nI_clamp (n := (((X c 2).toNatClampNeg * 5) + 2)) (by omega)] at hR
      obtain ⟨X3, eX3⟩ : ∃ Y : gM, Y = updM X2 (c + 1) (((X c 2).toNatClampNeg * 5) + 2) a3 := ⟨_, rfl⟩
      rw [← eX3] at hR
      refine lv_aload_n hx hb dX1_write_53 rfl (lv_at hl 1 rfl) ?_
      refine va_get (D := D) (ci := 1) (v := .ref (σ + (c + 1))) (C := RX1) (T := TX1) (N := 3) hx hb hts inX1 hown hK.1 (SR.mk1 hR (c := c) hc (bS_1 hk)) 0 rfl rfl 0 (by decide) lk11 (fun _ h9 => h9) rfl dX1_write_54 ?_
      refine lv_iload hx hb dX1_write_57 (lv_at hl 0 rfl) ?_
      refine lv_iconst (v := 3) hx hb dX1_write_59 (by decide) ?_
      refine lv_iadd hx hb dX1_write_60 ?_
      rw [show ((nI ((X c 2).toNatClampNeg * 5)) + 3 : Int32) = nI (((X c 2).toNatClampNeg * 5) + 3) from nI_add _ 3]
      refine lv_iload hx hb dX1_write_61 (lv_at hl 5 rfl) ?_
      refine gm_iast hx hb hK.1 hR injS hS (a := c + 1) (kd_1 c hc hk).1 rfl (fun r => (bS_22 (kd_1 c hc hk).2)) (vp_in_nI (by omega) (by decide)) dX1_write_63 (fun H locs hR hS => ?_)
      rw [nI_clamp (n := (((X c 2).toNatClampNeg * 5) + 3)) (by omega)] at hR
      obtain ⟨X4, eX4⟩ : ∃ Y : gM, Y = updM X3 (c + 1) (((X c 2).toNatClampNeg * 5) + 3) a4 := ⟨_, rfl⟩
      rw [← eX4] at hR
      refine lv_aload_n hx hb dX1_write_64 rfl (lv_at hl 1 rfl) ?_
      refine va_get (D := D) (ci := 1) (v := .ref (σ + (c + 1))) (C := RX1) (T := TX1) (N := 3) hx hb hts inX1 hown hK.1 (SR.mk1 hR (c := c) hc (bS_1 hk)) 0 rfl rfl 0 (by decide) lk11 (fun _ h9 => h9) rfl dX1_write_65 ?_
      refine lv_iload hx hb dX1_write_68 (lv_at hl 0 rfl) ?_
      refine lv_iconst (v := 4) hx hb dX1_write_70 (by decide) ?_
      refine lv_iadd hx hb dX1_write_71 ?_
      rw [show ((nI ((X c 2).toNatClampNeg * 5)) + 4 : Int32) = nI (((X c 2).toNatClampNeg * 5) + 4) from nI_add _ 4]
      refine lv_iload hx hb dX1_write_72 (lv_at hl 6 rfl) ?_
      refine gm_iast hx hb hK.1 hR injS hS (a := c + 1) (kd_1 c hc hk).1 rfl (fun r => (bS_22 (kd_1 c hc hk).2)) (vp_in_nI (by omega) (by decide)) dX1_write_74 (fun H locs hR hS => ?_)
      rw [nI_clamp (n := (((X c 2).toNatClampNeg * 5) + 4)) (by omega)] at hR
      obtain ⟨X5, eX5⟩ : ∃ Y : gM, Y = updM X4 (c + 1) (((X c 2).toNatClampNeg * 5) + 4) a5 := ⟨_, rfl⟩
      rw [← eX5] at hR
      refine lv_aload_n hx hb dX1_write_75 rfl (lv_at hl 1 rfl) ?_
      refine lv_aload_n hx hb dX1_write_76 rfl (lv_at hl 1 rfl) ?_
      refine va_get (D := D) (ci := 1) (v := .int (X5 c 2)) (C := RX1) (T := TX1) (N := 3) hx hb hts inX1 hown hK.1 (SR.mk1 hR (c := c) hc (bS_1 hk)) 0 rfl rfl 2 (by decide) lk25 (fun _ h9 => h9) rfl dX1_write_77 ?_
      refine lv_iconst (v := 1) hx hb dX1_write_80 (by decide) ?_
      refine lv_iadd hx hb dX1_write_81 ?_
      refine lv_bipush (v := 12) hx hb dX1_write_82 (by decide) ?_
      refine lv_irem hx hb dX1_write_84 (by decide) ?_
      refine gm_put (v := .int (((X5 c 2) + 1) - ((X5 c 2) + 1) / 12 * 12)) (ty := .int) (ci := 1) (C := RX1) (T := TX1) (N := 3) hx hb hts inX1 tyX1 tyX1_ok nmX1 hown hK.1 hR injS hS (a := c) hc rfl (bS_1 hk) rfl 2 (by decide) lk25 (fun _ h9 => h9) rfl (by decide +kernel) rfl rfl (Nat.le_of_ble_eq_true rfl) (j := 2) (x := ((X5 c 2) + 1) - ((X5 c 2) + 1) / 12 * 12) (by rw [bS_1 hk]; rfl) dX1_write_85 (fun H locs hR hS => ?_)
      obtain ⟨X6, eX6⟩ : ∃ Y : gM, Y = updM X5 c 2 (((X5 c 2) + 1) - ((X5 c 2) + 1) / 12 * 12) := ⟨_, rfl⟩
      rw [← eX6] at hR
      refine lv_aload_n hx hb dX1_write_88 rfl (lv_at hl 1 rfl) ?_
      refine lv_aload_n hx hb dX1_write_89 rfl (lv_at hl 1 rfl) ?_
      refine va_get (D := D) (ci := 1) (v := .int (X6 c 1)) (C := RX1) (T := TX1) (N := 3) hx hb hts inX1 hown hK.1 (SR.mk1 hR (c := c) hc (bS_1 hk)) 0 rfl rfl 1 (by decide) lk21 (fun _ h9 => h9) rfl dX1_write_90 ?_
      refine lv_bipush (v := 12) hx hb dX1_write_93 (by decide) ?_
      refine lv_icmp_ge (tgt := 107) hx hb dX1_write_95 (by decide) (fun c_3 => ?_) (fun c_3 => ?_)
      · refine lv_bipush (v := 12) hx hb dX1_write_107 (by decide) ?_
        refine gm_put (v := .int 12) (ty := .int) (ci := 1) (C := RX1) (T := TX1) (N := 3) hx hb hts inX1 tyX1 tyX1_ok nmX1 hown hK.1 hR injS hS (a := c) hc rfl (bS_1 hk) rfl 1 (by decide) lk21 (fun _ h9 => h9) rfl (by decide +kernel) rfl rfl (Nat.le_of_ble_eq_true rfl) (j := 1) (x := 12) (by rw [bS_1 hk]; rfl) dX1_write_109 (fun H locs hR hS => ?_)
        obtain ⟨X7, eX7⟩ : ∃ Y : gM, Y = updM X6 c 1 12 := ⟨_, rfl⟩
        rw [← eX7] at hR
        exact gm_vret hx hb hr hlocks hS (by (try simp only [p_X1_write, ↓if_neg c_1, ↓if_pos c_2, ↓if_pos c_3, ← eX1, ← eX2, ← eX3, ← eX4, ← eX5, ← eX6, ← eX7]); exact hR) dX1_write_112
      · refine lv_aload_n hx hb dX1_write_98 rfl (lv_at hl 1 rfl) ?_
        refine va_get (D := D) (ci := 1) (v := .int (X6 c 1)) (C := RX1) (T := TX1) (N := 3) hx hb hts inX1 hown hK.1 (SR.mk1 hR (c := c) hc (bS_1 hk)) 0 rfl rfl 1 (by decide) lk21 (fun _ h9 => h9) rfl dX1_write_99 ?_
        refine lv_iconst (v := 1) hx hb dX1_write_102 (by decide) ?_
        refine lv_iadd hx hb dX1_write_103 ?_
        refine lv_goto (tgt := 109) hx hb dX1_write_104 (by decide) ?_
        refine gm_put (v := .int ((X6 c 1) + 1)) (ty := .int) (ci := 1) (C := RX1) (T := TX1) (N := 3) hx hb hts inX1 tyX1 tyX1_ok nmX1 hown hK.1 hR injS hS (a := c) hc rfl (bS_1 hk) rfl 1 (by decide) lk21 (fun _ h9 => h9) rfl (by decide +kernel) rfl rfl (Nat.le_of_ble_eq_true rfl) (j := 1) (x := (X6 c 1) + 1) (by rw [bS_1 hk]; rfl) dX1_write_109 (fun H locs hR hS => ?_)
        obtain ⟨X8, eX8⟩ : ∃ Y : gM, Y = updM X6 c 1 ((X6 c 1) + 1) := ⟨_, rfl⟩
        rw [← eX8] at hR
        exact gm_vret hx hb hr hlocks hS (by (try simp only [p_X1_write, ↓if_neg c_1, ↓if_pos c_2, ↓if_neg c_3, ← eX1, ← eX2, ← eX3, ← eX4, ← eX5, ← eX6, ← eX8]); exact hR) dX1_write_112
    · exact gm_vret hx hb hr hlocks hS (by (try simp only [p_X1_write, ↓if_neg c_1, ↓if_neg c_2]); exact hR) dX1_write_16
