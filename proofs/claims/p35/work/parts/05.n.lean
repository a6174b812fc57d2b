def lf_X3_serveLine_2 (c1 : Nat) (K : (gM) → (Nat) → (gM)) : Nat → (gM) → (Nat) → (gM)
  | 0, Z, k_2 => K Z k_2
  | n + 1, Z, k_2 =>
    if Z c1 3 ≤ nI k_2 then
      K Z k_2
    else
      if 6 ≤ nI k_2 then
        K Z k_2
      else
        let X1 := p_X3_serveStation Z c1 (c1 + 2 + 1 + 2 * k_2)
        lf_X3_serveLine_2 c1 K n X1 (k_2 + 1)
def p_X3_serveLine (X : gM) (c1 : Nat) : gM :=
  lf_X3_serveLine_2 c1 (fun X1 k_2w1 =>
        X1) 7 X 0
set_option maxHeartbeats 4000000 in
set_option maxRecDepth 100000 in
theorem lp_X3_serveLine_2 {p : Program} {l : Launch} {e : Env} {s : State} {m : MethodId} {args : Array Value} {below : List Frame} {meth : Method} {c0 : Code} {D : va_G} {cy : Nat → ClassId} (C : gCtx cX3_serveLine 3 none RX3 wsX3_serveLine D cy p s m args meth c0) (σ : Nat) (c1 : Nat) (hc1 : c1 < 123) (hk1 : kdS c1 = 0)
    (K : (gM) → (Nat) → (gM)) (hexit : ∀ (Z : gM) (k_2 : Nat), k_2 ≤ 6 → ∀ (H : Heap) (locs : List Loc) (ls : Array Slot), SR D cy σ Z H → va_S (SA σ) s.heap H locs → lv_has ls 3 [(0, .ref σ), (1, .ref (σ + c1)), (2, .int (nI k_2))] → W p l e { frames := 4, cells := 0, slots := 0, locals := 97 } s m args below meth c0 H locs 0 0 (MQ below (gQv (SR D cy σ (K Z k_2)) (SA σ)) args s 0 0 (SA σ)) (F0 m 36 ls [])) :
    ∀ (n : Nat) (Z : gM) (k_2 : Nat), k_2 ≤ 6 → 6 < k_2 + n → ∀ (H : Heap) (locs : List Loc) (ls : Array Slot), SR D cy σ Z H → va_S (SA σ) s.heap H locs → lv_has ls 3 [(0, .ref σ), (1, .ref (σ + c1)), (2, .int (nI k_2))] → W p l e { frames := 4, cells := 0, slots := 0, locals := 97 } s m args below meth c0 H locs 0 0 (MQ below (gQv (SR D cy σ (lf_X3_serveLine_2 c1 K n Z k_2)) (SA σ)) args s 0 0 (SA σ)) (F0 m 2 ls []) := by
  obtain ⟨hx, hb, hr, hts, hown, hlocks, hml, hK⟩ := C
  have lk220 := hts (.fieldLink RX3 220 "MercuryLine$Line" "stationCount" "I") (by decide +kernel)
  have inX0 : ∀ w ∈ u_ws RX0 TX0 10, w ∈ wsX3_serveLine := by decide +kernel
  have lk223 := hts (.fieldLink RX3 223 "MercuryLine$Line" "stations" "[LMercuryLine$Station;") (by decide +kernel)
  intro n
  induction n with
  | zero =>
    intro Z k_2 hb_2 hme
    exact absurd hme (by omega)
  | succ n ih =>
    intro Z k_2 hb_2 hme H locs ls hR hS hl
    refine lv_iload_n hx hb dX3_serveLine_2 rfl (lv_at hl 2 rfl) ?_
    refine lv_aload_n hx hb dX3_serveLine_3 rfl (lv_at hl 1 rfl) ?_
    refine va_get (D := D) (ci := 0) (v := .int (Z c1 3)) (C := RX0) (T := TX0) (N := 10) hx hb hts inX0 hown hK.1 (SR.mk1 hR (c := c1) hc1 (bS_0 hk1)) 0 rfl rfl 3 (by decide) lk220 (fun _ h9 => h9) rfl dX3_serveLine_4 ?_
    refine lv_icmp_ge (tgt := 36) hx hb dX3_serveLine_7 (by decide) (fun c_1 => ?_) (fun c_1 => ?_)
    · refine gm_q (Q2 := MQ below (gQv (SR D cy σ (K Z k_2)) (SA σ)) args s 0 0 (SA σ)) (by simp only [lf_X3_serveLine_2, ↓if_pos c_1]) ?_
      exact hexit Z k_2 hb_2  _ _ _ hR hS (lv_sub hl [0, 1, 2] rfl)
    · have lt_2 : k_2 < 2147483647 := g_big (Nat.lt_of_le_of_lt hb_2 (by decide)) c_1
      refine lv_iload_n hx hb dX3_serveLine_10 rfl (lv_at hl 2 rfl) ?_
      refine lv_aload_n hx hb dX3_serveLine_11 rfl (lv_at hl 1 rfl) ?_
      refine va_get (D := D) (ci := 0) (v := .ref (σ + (c1 + 2))) (C := RX0) (T := TX0) (N := 10) hx hb hts inX0 hown hK.1 (SR.mk1 hR (c := c1) hc1 (bS_0 hk1)) 0 rfl rfl 2 (by decide) lk223 (fun _ h9 => h9) rfl dX3_serveLine_12 ?_
      refine va_alen (v := 6) hx hb hK.1 (SR.mk1 hR (c := c1 + 2) (kd_0 c1 hc1 hk1).2.1.1 (bS_24 (kd_0 c1 hc1 hk1).2.1.2)) 0 4 rfl rfl rfl dX3_serveLine_15 ?_
      refine lv_icmp_ge (tgt := 36) hx hb dX3_serveLine_16 (by decide) (fun c_3 => ?_) (fun c_3 => ?_)
      · have ge_4 : 6 ≤ k_2 := g_ge2 (Nat.lt_of_le_of_lt hb_2 (by decide)) (by decide) c_3
        refine gm_q (Q2 := MQ below (gQv (SR D cy σ (K Z k_2)) (SA σ)) args s 0 0 (SA σ)) (by simp only [lf_X3_serveLine_2, ↓if_neg c_1, ↓if_pos c_3]) ?_
        exact hexit Z k_2 hb_2  _ _ _ hR hS (lv_sub hl [0, 1, 2] rfl)
      · have lt_5 : k_2 < 6 := g_lt (Nat.lt_of_le_of_lt hb_2 (by decide)) (by decide) c_3
        refine lv_aload_n hx hb dX3_serveLine_19 rfl (lv_at hl 0 rfl) ?_
        refine lv_aload_n hx hb dX3_serveLine_20 rfl (lv_at hl 1 rfl) ?_
        refine lv_aload_n hx hb dX3_serveLine_21 rfl (lv_at hl 1 rfl) ?_
        refine va_get (D := D) (ci := 0) (v := .ref (σ + (c1 + 2))) (C := RX0) (T := TX0) (N := 10) hx hb hts inX0 hown hK.1 (SR.mk1 hR (c := c1) hc1 (bS_0 hk1)) 0 rfl rfl 2 (by decide) lk223 (fun _ h9 => h9) rfl dX3_serveLine_22 ?_
        refine lv_iload_n hx hb dX3_serveLine_25 rfl (lv_at hl 2 rfl) ?_
        refine gm_aald (b := (σ + (c1 + 2 + 1 + 2 * k_2))) hx hb hK.1 (SR.mk1 hR (c := c1 + 2) (kd_0 c1 hc1 hk1).2.1.1 (bS_24 (kd_0 c1 hc1 hk1).2.1.2)) 4 rfl (vp_in_nI lt_5 (by decide)) (by rw [nI_clamp (n := k_2) (by omega)]) dX3_serveLine_26 ?_
        refine gm_cv (gm_call (As := [.ref (σ + c1), .ref (σ + (c1 + 2 + 1 + 2 * k_2))]) (rest := []) (ci := 3) (q := (RX3, TX3, 14)) ⟨hx, hb, hml, hown, hts⟩ hK (c_X3_serveStation l D cy σ Z c1 (c1 + 2 + 1 + 2 * k_2) hc1 hk1 (kd_24 (c1 + 2) (kd_0 c1 hc1 hk1).2.1.1 (kd_0 c1 hc1 hk1).2.1.2 k_2 lt_5).1 (kd_24 (c1 + 2) (kd_0 c1 hc1 hk1).2.1.1 (kd_0 c1 hc1 hk1).2.1.2 k_2 lt_5).2) (cwV 2 hts gX3_serveLine_X3_serveStation rfl rfl rfl (by decide +kernel) ⟨Nat.le_of_ble_eq_true rfl, Nat.le_of_ble_eq_true rfl⟩) (SR.mk0 hR) rfl hR rfl hl.1 rfl (Nat.le_of_ble_eq_true rfl) dX3_serveLine_27 (Nat.zero_le _) (Nat.zero_le _)) hS (fun _ h => h) (fun H locs hR _ _ hS => ?_)
        obtain ⟨X1, eX1⟩ : ∃ Y : gM, Y = p_X3_serveStation Z c1 (c1 + 2 + 1 + 2 * k_2) := ⟨_, rfl⟩
        rw [← eX1] at hR
        refine lv_iinc (v := nI (k_2 + 1)) (lv' := [(2, .int (nI (k_2 + 1))), (0, .ref σ), (1, .ref (σ + c1))]) hx hb dX3_serveLine_30 hl (k := 2) rfl (nI_1 _) (by decide) rfl (fun ls hl => ?_)
        refine lv_goto (tgt := 2) hx hb dX3_serveLine_33 (by decide) ?_
        refine gm_q (Q2 := MQ below (gQv (SR D cy σ (lf_X3_serveLine_2 c1 K n X1 (k_2 + 1))) (SA σ)) args s 0 0 (SA σ)) (by simp only [lf_X3_serveLine_2, ↓if_neg c_1, ↓if_neg c_3, ← eX1]) ?_
        exact ih X1 (k_2 + 1) lt_5 (by omega) _ _ _ hR hS (lv_sub hl [1, 2, 0] rfl)
set_option maxHeartbeats 4000000 in
set_option maxRecDepth 100000 in
theorem c_X3_serveLine (l : Launch) (D : va_G) (cy : Nat → ClassId) (σ : Nat) (X : gM) (c1 : Nat) (hc1 : c1 < 123) (hk1 : kdS c1 = 0) : Met l yX3_serveLine wsX3_serveLine ({ frames := 4, cells := 0, slots := 0, locals := 97 }) (gP [.ref σ, .ref (σ + c1)] D cy (SR D cy σ X)) (gQv (SR D cy σ (p_X3_serveLine X c1)) (SA σ)) 0 0 (SA σ) := by
  refine gm_met (cc := cX3_serveLine) (maxL := 3) (ret := none) [.ref σ, .ref (σ + c1)] (by decide) rfl (Nat.le_of_ble_eq_true rfl) ?_
  intro p e s m args below meth c0 ls C hR hl
  obtain ⟨hx, hb, hr, hts, hown, hlocks, hml, hK⟩ := C
  have hl : lv_has ls 3 [(0, .ref σ), (1, .ref (σ + c1))] := hl
  have hS : va_S (SA σ) s.heap s.heap [] := va_S.rf
  refine lv_iconst (v := 0) hx hb dX3_serveLine_0 (by decide) ?_
  refine lv_istore_n (lv' := [(2, .int 0), (0, .ref σ), (1, .ref (σ + c1))]) hx hb dX3_serveLine_1 rfl hl (by decide) rfl (fun ls hl => ?_)
  refine gm_q (Q2 := MQ below (gQv (SR D cy σ (lf_X3_serveLine_2 c1 (fun X1 k_2w1 =>
        X1) 7 X 0)) (SA σ)) args s 0 0 (SA σ)) (by simp only [p_X3_serveLine]) ?_
  refine lp_X3_serveLine_2 ⟨hx, hb, hr, hts, hown, hlocks, hml, hK⟩ σ c1 hc1 hk1 _ (fun X1 k_2w1 hbk_2w1 H locs ls hR hS hl => ?_) 7 X 0 (by decide) (by omega) _ _ _ hR hS (lv_sub hl [1, 2, 0] rfl)
  exact gm_vret hx hb hr hlocks hS (by (try simp only [p_X3_serveLine]); exact hR) dX3_serveLine_36
def p_X3_passTick (X : gM) : gM :=
  let X1 := p_X3_followOrders X
  let X2 := p_X3_serveLine X1 1
  let X3 := p_X3_serveLine X2 16
  let X4 := p_X3_moveLine X3 1
  let X5 := p_X3_moveLine X4 16
  let X6 := updM X5 0 7 ((X5 0 7) + 1)
  X6
set_option maxHeartbeats 4000000 in
set_option maxRecDepth 100000 in
theorem c_X3_passTick (l : Launch) (D : va_G) (cy : Nat → ClassId) (σ : Nat) (X : gM)  : Met l yX3_passTick wsX3_passTick ({ frames := 5, cells := 0, slots := 0, locals := 119 }) (gP [.ref σ] D cy (SR D cy σ X)) (gQv (SR D cy σ (p_X3_passTick X)) (SA σ)) 0 0 (SA σ) := by
  refine gm_met (cc := cX3_passTick) (maxL := 1) (ret := none) [.ref σ] (by decide) rfl (Nat.le_of_ble_eq_true rfl) ?_
  intro p e s m args below meth c0 ls C hR hl
  obtain ⟨hx, hb, hr, hts, hown, hlocks, hml, hK⟩ := C
  have hl : lv_has ls 1 [(0, .ref σ)] := hl
  have hS : va_S (SA σ) s.heap s.heap [] := va_S.rf
  have lk14 := hts (.fieldLink RX3 14 "MercuryLine$State" "zero" "LMercuryLine$Line;") (by decide +kernel)
  have inX3 : ∀ w ∈ u_ws RX3 TX3 14, w ∈ wsX3_passTick := by decide +kernel
  have lk20 := hts (.fieldLink RX3 20 "MercuryLine$State" "one" "LMercuryLine$Line;") (by decide +kernel)
  have lk70 := hts (.fieldLink RX3 70 "MercuryLine$State" "tick" "I") (by decide +kernel)
  refine lv_aload_n hx hb dX3_passTick_0 rfl (lv_at hl 0 rfl) ?_
  refine gm_cv (gm_call (As := []) (rest := []) (ci := 3) (q := (RX3, TX3, 14)) ⟨hx, hb, hml, hown, hts⟩ hK (c_X3_followOrders l D cy σ X) (cwV 0 hts gX3_passTick_X3_followOrders rfl rfl rfl (by decide +kernel) ⟨Nat.le_of_ble_eq_true rfl, Nat.le_of_ble_eq_true rfl⟩) (SR.mk0 hR) rfl hR rfl hl.1 rfl (Nat.le_of_ble_eq_true rfl) dX3_passTick_1 (Nat.zero_le _) (Nat.zero_le _)) hS (fun _ h => h) (fun H locs hR _ _ hS => ?_)
  obtain ⟨X1, eX1⟩ : ∃ Y : gM, Y = p_X3_followOrders X := ⟨_, rfl⟩
  rw [← eX1] at hR
  refine lv_aload_n hx hb dX3_passTick_4 rfl (lv_at hl 0 rfl) ?_
  refine lv_aload_n hx hb dX3_passTick_5 rfl (lv_at hl 0 rfl) ?_
  refine va_get (D := D) (ci := 3) (v := .ref (σ + 1)) (C := RX3) (T := TX3) (N := 14) hx hb hts inX3 hown hK.1 (SR.mk0 hR) 0 rfl rfl 0 (by decide) lk14 (fun _ h9 => h9) rfl dX3_passTick_6 ?_
  refine gm_cv (gm_call (As := [.ref (σ + 1)]) (rest := []) (ci := 3) (q := (RX3, TX3, 14)) ⟨hx, hb, hml, hown, hts⟩ hK (c_X3_serveLine l D cy σ X1 1 (by decide) (by decide)) (cwV 1 hts gX3_passTick_X3_serveLine rfl rfl rfl (by decide +kernel) ⟨Nat.le_of_ble_eq_true rfl, Nat.le_of_ble_eq_true rfl⟩) (SR.mk0 hR) rfl hR rfl hl.1 rfl (Nat.le_of_ble_eq_true rfl) dX3_passTick_9 (Nat.zero_le _) (Nat.zero_le _)) hS (fun _ h => h) (fun H locs hR _ _ hS => ?_)
  obtain ⟨X2, eX2⟩ : ∃ Y : gM, Y = p_X3_serveLine X1 1 := ⟨_, rfl⟩
  rw [← eX2] at hR
  refine lv_aload_n hx hb dX3_passTick_12 rfl (lv_at hl 0 rfl) ?_
  refine lv_aload_n hx hb dX3_passTick_13 rfl (lv_at hl 0 rfl) ?_
  refine va_get (D := D) (ci := 3) (v := .ref (σ + 16)) (C := RX3) (T := TX3) (N := 14) hx hb hts inX3 hown hK.1 (SR.mk0 hR) 0 rfl rfl 1 (by decide) lk20 (fun _ h9 => h9) rfl dX3_passTick_14 ?_
  refine gm_cv (gm_call (As := [.ref (σ + 16)]) (rest := []) (ci := 3) (q := (RX3, TX3, 14)) ⟨hx, hb, hml, hown, hts⟩ hK (c_X3_serveLine l D cy σ X2 16 (by decide) (by decide)) (cwV 1 hts gX3_passTick_X3_serveLine rfl rfl rfl (by decide +kernel) ⟨Nat.le_of_ble_eq_true rfl, Nat.le_of_ble_eq_true rfl⟩) (SR.mk0 hR) rfl hR rfl hl.1 rfl (Nat.le_of_ble_eq_true rfl) dX3_passTick_17 (Nat.zero_le _) (Nat.zero_le _)) hS (fun _ h => h) (fun H locs hR _ _ hS => ?_)
  obtain ⟨X3, eX3⟩ : ∃ Y : gM, Y = p_X3_serveLine X2 16 := ⟨_, rfl⟩
  rw [← eX3] at hR
  refine lv_aload_n hx hb dX3_passTick_20 rfl (lv_at hl 0 rfl) ?_
  refine lv_aload_n hx hb dX3_passTick_21 rfl (lv_at hl 0 rfl) ?_
  refine va_get (D := D) (ci := 3) (v := .ref (σ + 1)) (C := RX3) (T := TX3) (N := 14) hx hb hts inX3 hown hK.1 (SR.mk0 hR) 0 rfl rfl 0 (by decide) lk14 (fun _ h9 => h9) rfl dX3_passTick_22 ?_
  refine gm_cv (gm_call (As := [.ref (σ + 1)]) (rest := []) (ci := 3) (q := (RX3, TX3, 14)) ⟨hx, hb, hml, hown, hts⟩ hK (c_X3_moveLine l D cy σ X3 1 (by decide) (by decide)) (cwV 1 hts gX3_passTick_X3_moveLine rfl rfl rfl (by decide +kernel) ⟨Nat.le_of_ble_eq_true rfl, Nat.le_of_ble_eq_true rfl⟩) (SR.mk0 hR) rfl hR rfl hl.1 rfl (Nat.le_of_ble_eq_true rfl) dX3_passTick_25 (Nat.zero_le _) (Nat.zero_le _)) hS (fun _ h => h) (fun H locs hR _ _ hS => ?_)
  obtain ⟨X4, eX4⟩ : ∃ Y : gM, Y = p_X3_moveLine X3 1 := ⟨_, rfl⟩
  rw [← eX4] at hR
  refine lv_aload_n hx hb dX3_passTick_28 rfl (lv_at hl 0 rfl) ?_
  refine lv_aload_n hx hb dX3_passTick_29 rfl (lv_at hl 0 rfl) ?_
  refine va_get (D := D) (ci := 3) (v := .ref (σ + 16)) (C := RX3) (T := TX3) (N := 14) hx hb hts inX3 hown hK.1 (SR.mk0 hR) 0 rfl rfl 1 (by decide) lk20 (fun _ h9 => h9) rfl dX3_passTick_30 ?_
  refine gm_cv (gm_call (As := [.ref (σ + 16)]) (rest := []) (ci := 3) (q := (RX3, TX3, 14)) ⟨hx, hb, hml, hown, hts⟩ hK (c_X3_moveLine l D cy σ X4 16 (by decide) (by decide)) (cwV 1 hts gX3_passTick_X3_moveLine rfl rfl rfl (by decide +kernel) ⟨Nat.le_of_ble_eq_true rfl, Nat.le_of_ble_eq_true rfl⟩) (SR.mk0 hR) rfl hR rfl hl.1 rfl (Nat.le_of_ble_eq_true rfl) dX3_passTick_33 (Nat.zero_le _) (Nat.zero_le _)) hS (fun _ h => h) (fun H locs hR _ _ hS => ?_)
  obtain ⟨X5, eX5⟩ : ∃ Y : gM, Y = p_X3_moveLine X4 16 := ⟨_, rfl⟩
  rw [← eX5] at hR
  refine lv_aload_n hx hb dX3_passTick_36 rfl (lv_at hl 0 rfl) ?_
  refine lv_dup hx hb dX3_passTick_37 rfl ?_
  refine va_get (D := D) (ci := 3) (v := .int (X5 0 7)) (C := RX3) (T := TX3) (N := 14) hx hb hts inX3 hown hK.1 (SR.mk0 hR) 0 rfl rfl 7 (by decide) lk70 (fun _ h9 => h9) rfl dX3_passTick_38 ?_
  refine lv_iconst (v := 1) hx hb dX3_passTick_41 (by decide) ?_
  refine lv_iadd hx hb dX3_passTick_42 ?_
  refine gm_put (v := .int ((X5 0 7) + 1)) (ty := .int) (ci := 3) (C := RX3) (T := TX3) (N := 14) hx hb hts inX3 tyX3 tyX3_ok nmX3 hown hK.1 hR injS hS (a := 0) (by decide) rfl (bS_3 (by decide)) rfl 7 (by decide) lk70 (fun _ h9 => h9) rfl (by decide +kernel) rfl rfl (Nat.le_of_ble_eq_true rfl) (j := 7) (x := (X5 0 7) + 1) (by rw [bS_3 (by decide)]; rfl) dX3_passTick_43 (fun H locs hR hS => ?_)
  obtain ⟨X6, eX6⟩ : ∃ Y : gM, Y = updM X5 0 7 ((X5 0 7) + 1) := ⟨_, rfl⟩
  rw [← eX6] at hR
  exact gm_vret hx hb hr hlocks hS (by (try simp only [p_X3_passTick, ← eX1, ← eX2, ← eX3, ← eX4, ← eX5, ← eX6]); exact hR) dX3_passTick_46
