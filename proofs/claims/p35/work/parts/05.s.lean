theorem cpD_0 (Z : gM) (lo : Nat) : cpD Z lo 0 = Z := by
  funext a
  simp only [cpD]
  rw [if_neg (by omega)]
theorem cpD_cp (Z : gM) {lo n m l2 : Nat} (hl : l2 = lo + n) (h : lo + n + m ≤ 123) : cpD (cpD Z lo n) l2 m = cpD Z lo (n + m) := by
  subst hl
  funext a
  simp only [cpD]
  repeat' split
  all_goals first | rfl | (exfalso; omega)
theorem kd_0b : ∀ c, c < 123 → kdS c = 0 → c + 15 ≤ 123 := by decide +kernel
def lf_X0_copyFrom_17 (c : Nat) (K : (gM) → (Nat) → (gM)) : Nat → (gM) → (Nat) → (gM)
  | 0, Z, k_2 => K Z k_2
  | n + 1, Z, k_2 =>
    if 6 ≤ nI k_2 then
      K Z k_2
    else
      let X1 := cpD Z (c + 2 + 1 + 2 * k_2) 2
      lf_X0_copyFrom_17 c K n X1 (k_2 + 1)
def p_X0_copyFrom (X : gM) (c : Nat) : gM :=
  let X1 := cpyR X (c + 1) (123 + (c + 1)) 24
  lf_X0_copyFrom_17 c (fun X2 k_2w1 =>
        let X3 := updM X2 c 3 (X2 (123 + c) 3)
        let X4 := updM X3 c 4 (X3 (123 + c) 4)
        let X5 := updM X4 c 5 (X4 (123 + c) 5)
        let X6 := updM X5 c 6 (X5 (123 + c) 6)
        let X7 := updM X6 c 7 (X6 (123 + c) 7)
        let X8 := updM X7 c 8 (X7 (123 + c) 8)
        let X9 := updM X8 c 9 (X8 (123 + c) 9)
        X9) 7 X1 0
set_option maxHeartbeats 4000000 in
set_option maxRecDepth 100000 in
theorem lp_X0_copyFrom_17 {p : Program} {l : Launch} {e : Env} {s : State} {m : MethodId} {args : Array Value} {below : List Frame} {meth : Method} {c0 : Code} {D : va_G} {cy : Nat → ClassId} (C : gCtx cX0_copyFrom 3 none RX0 wsX0_copyFrom D cy p s m args meth c0) (σ : Nat) (τ : Nat) (c : Nat) (hdis : σ + 123 ≤ τ ∨ τ + 123 ≤ σ) (hc : c < 123) (hk : kdS c = 0)
    (K : (gM) → (Nat) → (gM)) (hexit : ∀ (Z : gM) (k_2 : Nat), k_2 ≤ 6 → ∀ (H : Heap) (locs : List Loc) (ls : Array Slot), DR D cy σ τ Z H → va_S (DA σ τ) s.heap H locs → lv_has ls 3 [(0, .ref (σ + c)), (1, .ref (τ + c)), (2, .int (nI k_2))] → W p l e { frames := 2, cells := 0, slots := 0, locals := 47 } s m args below meth c0 H locs 0 0 (MQ below (gQv (DR D cy σ τ (K Z k_2)) (DA σ τ)) args s 0 0 (DA σ τ)) (F0 m 44 ls [])) :
    ∀ (n : Nat) (Z : gM) (k_2 : Nat), k_2 ≤ 6 → 6 < k_2 + n → ∀ (H : Heap) (locs : List Loc) (ls : Array Slot), DR D cy σ τ Z H → va_S (DA σ τ) s.heap H locs → lv_has ls 3 [(0, .ref (σ + c)), (1, .ref (τ + c)), (2, .int (nI k_2))] → W p l e { frames := 2, cells := 0, slots := 0, locals := 47 } s m args below meth c0 H locs 0 0 (MQ below (gQv (DR D cy σ τ (lf_X0_copyFrom_17 c K n Z k_2)) (DA σ τ)) args s 0 0 (DA σ τ)) (F0 m 17 ls []) := by
  obtain ⟨hx, hb, hr, hts, hown, hlocks, hml, hK⟩ := C
  have lk17 := hts (.fieldLink RX0 17 "MercuryLine$Line" "stations" "[LMercuryLine$Station;") (by decide +kernel)
  have inX0 : ∀ w ∈ u_ws RX0 TX0 10, w ∈ wsX0_copyFrom := by decide +kernel
  intro n
  induction n with
  | zero =>
    intro Z k_2 hb_2 hme
    exact absurd hme (by omega)
  | succ n ih =>
    intro Z k_2 hb_2 hme H locs ls hR hS hl
    refine lv_iload_n hx hb dX0_copyFrom_17 rfl (lv_at hl 2 rfl) ?_
    refine lv_bipush (v := 6) hx hb dX0_copyFrom_18 (by decide) ?_
    refine lv_icmp_ge (tgt := 44) hx hb dX0_copyFrom_20 (by decide) (fun c_1 => ?_) (fun c_1 => ?_)
    · have ge_2 : 6 ≤ k_2 := g_ge2 (Nat.lt_of_le_of_lt hb_2 (by decide)) (by decide) c_1
      refine gm_q (Q2 := MQ below (gQv (DR D cy σ τ (K Z k_2)) (DA σ τ)) args s 0 0 (DA σ τ)) (by simp only [lf_X0_copyFrom_17, ↓if_pos c_1]) ?_
      exact hexit Z k_2 hb_2  _ _ _ hR hS (lv_sub hl [0, 1, 2] rfl)
    · have lt_3 : k_2 < 6 := g_lt (Nat.lt_of_le_of_lt hb_2 (by decide)) (by decide) c_1
      refine lv_aload_n hx hb dX0_copyFrom_23 rfl (lv_at hl 0 rfl) ?_
      refine va_get (D := D) (ci := 0) (v := .ref (σ + (c + 2))) (C := RX0) (T := TX0) (N := 10) hx hb hts inX0 hown hK.1 (DR.mkA hR (c := c) hc (bS_0 hk)) 0 rfl rfl 2 (by decide) lk17 (fun _ h9 => h9) rfl dX0_copyFrom_24 ?_
      refine lv_iload_n hx hb dX0_copyFrom_27 rfl (lv_at hl 2 rfl) ?_
      refine gm_aald (b := (σ + (c + 2 + 1 + 2 * k_2))) hx hb hK.1 (DR.mkA hR (c := c + 2) (kd_0 c hc hk).2.1.1 (bS_24 (kd_0 c hc hk).2.1.2)) 4 rfl (vp_in_nI lt_3 (by decide)) (by rw [nI_clamp (n := k_2) (by omega)]) dX0_copyFrom_28 ?_
      refine lv_aload_n hx hb dX0_copyFrom_29 rfl (lv_at hl 1 rfl) ?_
      refine va_get (D := D) (ci := 0) (v := .ref (τ + (c + 2))) (C := RX0) (T := TX0) (N := 10) hx hb hts inX0 hown hK.1 (DR.mkB hR (c := c) hc (bS_0 hk)) 0 rfl rfl 2 (by decide) lk17 (fun _ h9 => h9) rfl dX0_copyFrom_30 ?_
      refine lv_iload_n hx hb dX0_copyFrom_33 rfl (lv_at hl 2 rfl) ?_
      refine gm_aald (b := (τ + (c + 2 + 1 + 2 * k_2))) hx hb hK.1 (DR.mkB hR (c := c + 2) (kd_0 c hc hk).2.1.1 (bS_24 (kd_0 c hc hk).2.1.2)) 4 rfl (vp_in_nI lt_3 (by decide)) (by rw [nI_clamp (n := k_2) (by omega)]) dX0_copyFrom_34 ?_
      refine gm_cv (gm_call (As := [.ref (τ + (c + 2 + 1 + 2 * k_2))]) (rest := []) (ci := 4) (q := (RX4, TX4, 10)) ⟨hx, hb, hml, hown, hts⟩ hK (c_X4_copyFrom l D cy σ τ Z (c + 2 + 1 + 2 * k_2) hdis (kd_24 (c + 2) (kd_0 c hc hk).2.1.1 (kd_0 c hc hk).2.1.2 k_2 lt_3).1 (kd_24 (c + 2) (kd_0 c hc hk).2.1.1 (kd_0 c hc hk).2.1.2 k_2 lt_3).2) (cwV 1 hts gX0_copyFrom_X4_copyFrom rfl rfl rfl (by decide +kernel) ⟨Nat.le_of_ble_eq_true rfl, Nat.le_of_ble_eq_true rfl⟩) (DR.mkA hR (c := c + 2 + 1 + 2 * k_2) (kd_24 (c + 2) (kd_0 c hc hk).2.1.1 (kd_0 c hc hk).2.1.2 k_2 lt_3).1 (bS_4 (kd_24 (c + 2) (kd_0 c hc hk).2.1.1 (kd_0 c hc hk).2.1.2 k_2 lt_3).2)) rfl hR rfl hl.1 rfl (Nat.le_of_ble_eq_true rfl) dX0_copyFrom_35 (Nat.zero_le _) (Nat.zero_le _)) hS (fun _ h => h) (fun H locs hR _ _ hS => ?_)
      obtain ⟨X1, eX1⟩ : ∃ Y : gM, Y = cpD Z (c + 2 + 1 + 2 * k_2) 2 := ⟨_, rfl⟩
      rw [← eX1] at hR
      refine lv_iinc (v := nI (k_2 + 1)) (lv' := [(2, .int (nI (k_2 + 1))), (0, .ref (σ + c)), (1, .ref (τ + c))]) hx hb dX0_copyFrom_38 hl (k := 2) rfl (nI_1 _) (by decide) rfl (fun ls hl => ?_)
      refine lv_goto (tgt := 17) hx hb dX0_copyFrom_41 (by decide) ?_
      refine gm_q (Q2 := MQ below (gQv (DR D cy σ τ (lf_X0_copyFrom_17 c K n X1 (k_2 + 1))) (DA σ τ)) args s 0 0 (DA σ τ)) (by simp only [lf_X0_copyFrom_17, ↓if_neg c_1, ← eX1]) ?_
      exact ih X1 (k_2 + 1) lt_3 (by omega) _ _ _ hR hS (lv_sub hl [1, 2, 0] rfl)
set_option maxHeartbeats 4000000 in
set_option maxRecDepth 100000 in
theorem cr_X0_copyFrom (l : Launch) (D : va_G) (cy : Nat → ClassId) (σ : Nat) (τ : Nat) (X : gM) (c : Nat) (hdis : σ + 123 ≤ τ ∨ τ + 123 ≤ σ) (hc : c < 123) (hk : kdS c = 0) : Met l yX0_copyFrom wsX0_copyFrom ({ frames := 2, cells := 0, slots := 0, locals := 47 }) (gP [.ref (σ + c), .ref (τ + c)] D cy (DR D cy σ τ X)) (gQv (DR D cy σ τ (p_X0_copyFrom X c)) (DA σ τ)) 0 0 (DA σ τ) := by
  refine gm_met (cc := cX0_copyFrom) (maxL := 3) (ret := none) [.ref (σ + c), .ref (τ + c)] (by decide) rfl (Nat.le_of_ble_eq_true rfl) ?_
  intro p e s m args below meth c0 ls C hR hl
  obtain ⟨hx, hb, hr, hts, hown, hlocks, hml, hK⟩ := C
  have hl : lv_has ls 3 [(0, .ref (σ + c)), (1, .ref (τ + c))] := hl
  have hS : va_S (DA σ τ) s.heap s.heap [] := va_S.rf
  have lk11 := hts (.fieldLink RX0 11 "MercuryLine$Line" "riders" "[I") (by decide +kernel)
  have inX0 : ∀ w ∈ u_ws RX0 TX0 10, w ∈ wsX0_copyFrom := by decide +kernel
  have lk41 := hts (.fieldLink RX0 41 "MercuryLine$Line" "stationCount" "I") (by decide +kernel)
  have lk21 := hts (.fieldLink RX0 21 "MercuryLine$Line" "slots" "I") (by decide +kernel)
  have lk44 := hts (.fieldLink RX0 44 "MercuryLine$Line" "phase" "I") (by decide +kernel)
  have lk47 := hts (.fieldLink RX0 47 "MercuryLine$Line" "drift" "I") (by decide +kernel)
  have lk50 := hts (.fieldLink RX0 50 "MercuryLine$Line" "heat" "I") (by decide +kernel)
  have lk53 := hts (.fieldLink RX0 53 "MercuryLine$Line" "paused" "I") (by decide +kernel)
  have lk56 := hts (.fieldLink RX0 56 "MercuryLine$Line" "skipped" "I") (by decide +kernel)
  refine lv_aload_n hx hb dX0_copyFrom_0 rfl (lv_at hl 1 rfl) ?_
  refine va_get (D := D) (ci := 0) (v := .ref (τ + (c + 1))) (C := RX0) (T := TX0) (N := 10) hx hb hts inX0 hown hK.1 (DR.mkB hR (c := c) hc (bS_0 hk)) 0 rfl rfl 1 (by decide) lk11 (fun _ h9 => h9) rfl dX0_copyFrom_1 ?_
  refine lv_iconst (v := 0) hx hb dX0_copyFrom_4 (by decide) ?_
  refine lv_aload_n hx hb dX0_copyFrom_5 rfl (lv_at hl 0 rfl) ?_
  refine va_get (D := D) (ci := 0) (v := .ref (σ + (c + 1))) (C := RX0) (T := TX0) (N := 10) hx hb hts inX0 hown hK.1 (DR.mkA hR (c := c) hc (bS_0 hk)) 0 rfl rfl 1 (by decide) lk11 (fun _ h9 => h9) rfl dX0_copyFrom_6 ?_
  refine lv_iconst (v := 0) hx hb dX0_copyFrom_9 (by decide) ?_
  refine lv_bipush (v := 24) hx hb dX0_copyFrom_10 (by decide) ?_
  refine gm_acopy (a := c + 1) (b := 123 + (c + 1)) (k := 24) (index := 31) hx hb (hml.trans hl.1.symm) hown (hts (.methodLink RX0 31 arraycopyName) (by decide +kernel)) (hts (.native arraycopyName) (by decide +kernel)) (hts (.static arraycopyName) (by decide +kernel)) (hts (.initialized "java/lang/System") (by decide +kernel)) hK.1 hR (injD hdis) hS (Nat.lt_trans (kd_0 c hc hk).1.1 (by decide)) (Nat.add_lt_add_left (kd_0 c hc hk).1.1 123) (adD_A (c := c + 1) (kd_0 c hc hk).1.1) adD_B (fun r => ((bD_A (c := c + 1) (kd_0 c hc hk).1.1).trans (bS_20 (kd_0 c hc hk).1.2))) (fun r => bD_B.trans (bS_20 (kd_0 c hc hk).1.2)) (by decide) (by decide) (Nat.le_of_ble_eq_true rfl) (Nat.le_of_ble_eq_true rfl) dX0_copyFrom_12 (fun H locs hR hS => ?_)
  obtain ⟨X1, eX1⟩ : ∃ Y : gM, Y = cpyR X (c + 1) (123 + (c + 1)) 24 := ⟨_, rfl⟩
  rw [← eX1] at hR
  refine lv_iconst (v := 0) hx hb dX0_copyFrom_15 (by decide) ?_
  refine lv_istore_n (lv' := [(2, .int 0), (0, .ref (σ + c)), (1, .ref (τ + c))]) hx hb dX0_copyFrom_16 rfl hl (by decide) rfl (fun ls hl => ?_)
  refine gm_q (Q2 := MQ below (gQv (DR D cy σ τ (lf_X0_copyFrom_17 c (fun X2 k_2w1 =>
        let X3 := updM X2 c 3 (X2 (123 + c) 3)
        let X4 := updM X3 c 4 (X3 (123 + c) 4)
        let X5 := updM X4 c 5 (X4 (123 + c) 5)
        let X6 := updM X5 c 6 (X5 (123 + c) 6)
        let X7 := updM X6 c 7 (X6 (123 + c) 7)
        let X8 := updM X7 c 8 (X7 (123 + c) 8)
        let X9 := updM X8 c 9 (X8 (123 + c) 9)
        X9) 7 X1 0)) (DA σ τ)) args s 0 0 (DA σ τ)) (by simp only [p_X0_copyFrom, ← eX1]) ?_
  refine lp_X0_copyFrom_17 ⟨hx, hb, hr, hts, hown, hlocks, hml, hK⟩ σ τ c hdis hc hk _ (fun X2 k_2w1 hbk_2w1 H locs ls hR hS hl => ?_) 7 X1 0 (by decide) (by omega) _ _ _ hR hS (lv_sub hl [1, 2, 0] rfl)
  refine lv_aload_n hx hb dX0_copyFrom_44 rfl (lv_at hl 0 rfl) ?_
  refine lv_aload_n hx hb dX0_copyFrom_45 rfl (lv_at hl 1 rfl) ?_
  refine va_get (D := D) (ci := 0) (v := .int (X2 (123 + c) 3)) (C := RX0) (T := TX0) (N := 10) hx hb hts inX0 hown hK.1 (DR.mkB hR (c := c) hc (bS_0 hk)) 0 rfl rfl 3 (by decide) lk41 (fun _ h9 => h9) rfl dX0_copyFrom_46 ?_
  refine gm_put (v := .int (X2 (123 + c) 3)) (ty := .int) (ci := 0) (C := RX0) (T := TX0) (N := 10) hx hb hts inX0 tyX0 tyX0_ok nmX0 hown hK.1 hR (injD hdis) hS (a := c) (Nat.lt_trans hc (by decide)) (adD_A (c := c) hc) ((bD_A (c := c) hc).trans (bS_0 hk)) rfl 3 (by decide) lk41 (fun _ h9 => h9) rfl (by decide +kernel) rfl rfl (Nat.le_of_ble_eq_true rfl) (j := 3) (x := X2 (123 + c) 3) (by rw [(bD_A (c := c) hc).trans (bS_0 hk)]; rfl) dX0_copyFrom_49 (fun H locs hR hS => ?_)
  obtain ⟨X3, eX3⟩ : ∃ Y : gM, Y = updM X2 c 3 (X2 (123 + c) 3) := ⟨_, rfl⟩
  rw [← eX3] at hR
  refine lv_aload_n hx hb dX0_copyFrom_52 rfl (lv_at hl 0 rfl) ?_
  refine lv_aload_n hx hb dX0_copyFrom_53 rfl (lv_at hl 1 rfl) ?_
  refine va_get (D := D) (ci := 0) (v := .int (X3 (123 + c) 4)) (C := RX0) (T := TX0) (N := 10) hx hb hts inX0 hown hK.1 (DR.mkB hR (c := c) hc (bS_0 hk)) 0 rfl rfl 4 (by decide) lk21 (fun _ h9 => h9) rfl dX0_copyFrom_54 ?_
  refine gm_put (v := .int (X3 (123 + c) 4)) (ty := .int) (ci := 0) (C := RX0) (T := TX0) (N := 10) hx hb hts inX0 tyX0 tyX0_ok nmX0 hown hK.1 hR (injD hdis) hS (a := c) (Nat.lt_trans hc (by decide)) (adD_A (c := c) hc) ((bD_A (c := c) hc).trans (bS_0 hk)) rfl 4 (by decide) lk21 (fun _ h9 => h9) rfl (by decide +kernel) rfl rfl (Nat.le_of_ble_eq_true rfl) (j := 4) (x := X3 (123 + c) 4) (by rw [(bD_A (c := c) hc).trans (bS_0 hk)]; rfl) dX0_copyFrom_57 (fun H locs hR hS => ?_)
  obtain ⟨X4, eX4⟩ : ∃ Y : gM, Y = updM X3 c 4 (X3 (123 + c) 4) := ⟨_, rfl⟩
  rw [← eX4] at hR
  refine lv_aload_n hx hb dX0_copyFrom_60 rfl (lv_at hl 0 rfl) ?_
  refine lv_aload_n hx hb dX0_copyFrom_61 rfl (lv_at hl 1 rfl) ?_
  refine va_get (D := D) (ci := 0) (v := .int (X4 (123 + c) 5)) (C := RX0) (T := TX0) (N := 10) hx hb hts inX0 hown hK.1 (DR.mkB hR (c := c) hc (bS_0 hk)) 0 rfl rfl 5 (by decide) lk44 (fun _ h9 => h9) rfl dX0_copyFrom_62 ?_
  refine gm_put (v := .int (X4 (123 + c) 5)) (ty := .int) (ci := 0) (C := RX0) (T := TX0) (N := 10) hx hb hts inX0 tyX0 tyX0_ok nmX0 hown hK.1 hR (injD hdis) hS (a := c) (Nat.lt_trans hc (by decide)) (adD_A (c := c) hc) ((bD_A (c := c) hc).trans (bS_0 hk)) rfl 5 (by decide) lk44 (fun _ h9 => h9) rfl (by decide +kernel) rfl rfl (Nat.le_of_ble_eq_true rfl) (j := 5) (x := X4 (123 + c) 5) (by rw [(bD_A (c := c) hc).trans (bS_0 hk)]; rfl) dX0_copyFrom_65 (fun H locs hR hS => ?_)
  obtain ⟨X5, eX5⟩ : ∃ Y : gM, Y = updM X4 c 5 (X4 (123 + c) 5) := ⟨_, rfl⟩
  rw [← eX5] at hR
  refine lv_aload_n hx hb dX0_copyFrom_68 rfl (lv_at hl 0 rfl) ?_
  refine lv_aload_n hx hb dX0_copyFrom_69 rfl (lv_at hl 1 rfl) ?_
  refine va_get (D := D) (ci := 0) (v := .int (X5 (123 + c) 6)) (C := RX0) (T := TX0) (N := 10) hx hb hts inX0 hown hK.1 (DR.mkB hR (c := c) hc (bS_0 hk)) 0 rfl rfl 6 (by decide) lk47 (fun _ h9 => h9) rfl dX0_copyFrom_70 ?_
  refine gm_put (v := .int (X5 (123 + c) 6)) (ty := .int) (ci := 0) (C := RX0) (T := TX0) (N := 10) hx hb hts inX0 tyX0 tyX0_ok nmX0 hown hK.1 hR (injD hdis) hS (a := c) (Nat.lt_trans hc (by decide)) (adD_A (c := c) hc) ((bD_A (c := c) hc).trans (bS_0 hk)) rfl 6 (by decide) lk47 (fun _ h9 => h9) rfl (by decide +kernel) rfl rfl (Nat.le_of_ble_eq_true rfl) (j := 6) (x := X5 (123 + c) 6) (by rw [(bD_A (c := c) hc).trans (bS_0 hk)]; rfl) dX0_copyFrom_73 (fun H locs hR hS => ?_)
  obtain ⟨X6, eX6⟩ : ∃ Y : gM, Y = updM X5 c 6 (X5 (123 + c) 6) := ⟨_, rfl⟩
  rw [← eX6] at hR
  refine lv_aload_n hx hb dX0_copyFrom_76 rfl (lv_at hl 0 rfl) ?_
  refine lv_aload_n hx hb dX0_copyFrom_77 rfl (lv_at hl 1 rfl) ?_
  refine va_get (D := D) (ci := 0) (v := .int (X6 (123 + c) 7)) (C := RX0) (T := TX0) (N := 10) hx hb hts inX0 hown hK.1 (DR.mkB hR (c := c) hc (bS_0 hk)) 0 rfl rfl 7 (by decide) lk50 (fun _ h9 => h9) rfl dX0_copyFrom_78 ?_
  refine gm_put (v := .int (X6 (123 + c) 7)) (ty := .int) (ci := 0) (C := RX0) (T := TX0) (N := 10) hx hb hts inX0 tyX0 tyX0_ok nmX0 hown hK.1 hR (injD hdis) hS (a := c) (Nat.lt_trans hc (by decide)) (adD_A (c := c) hc) ((bD_A (c := c) hc).trans (bS_0 hk)) rfl 7 (by decide) lk50 (fun _ h9 => h9) rfl (by decide +kernel) rfl rfl (Nat.le_of_ble_eq_true rfl) (j := 7) (x := X6 (123 + c) 7) (by rw [(bD_A (c := c) hc).trans (bS_0 hk)]; rfl) dX0_copyFrom_81 (fun H locs hR hS => ?_)
  obtain ⟨X7, eX7⟩ : ∃ Y : gM, Y = updM X6 c 7 (X6 (123 + c) 7) := ⟨_, rfl⟩
  rw [← eX7] at hR
  refine lv_aload_n hx hb dX0_copyFrom_84 rfl (lv_at hl 0 rfl) ?_
  refine lv_aload_n hx hb dX0_copyFrom_85 rfl (lv_at hl 1 rfl) ?_
  refine va_get (D := D) (ci := 0) (v := .int (X7 (123 + c) 8)) (C := RX0) (T := TX0) (N := 10) hx hb hts inX0 hown hK.1 (DR.mkB hR (c := c) hc (bS_0 hk)) 0 rfl rfl 8 (by decide) lk53 (fun _ h9 => h9) rfl dX0_copyFrom_86 ?_
  refine gm_put (v := .int (X7 (123 + c) 8)) (ty := .int) (ci := 0) (C := RX0) (T := TX0) (N := 10) hx hb hts inX0 tyX0 tyX0_ok nmX0 hown hK.1 hR (injD hdis) hS (a := c) (Nat.lt_trans hc (by decide)) (adD_A (c := c) hc) ((bD_A (c := c) hc).trans (bS_0 hk)) rfl 8 (by decide) lk53 (fun _ h9 => h9) rfl (by decide +kernel) rfl rfl (Nat.le_of_ble_eq_true rfl) (j := 8) (x := X7 (123 + c) 8) (by rw [(bD_A (c := c) hc).trans (bS_0 hk)]; rfl) dX0_copyFrom_89 (fun H locs hR hS => ?_)
  obtain ⟨X8, eX8⟩ : ∃ Y : gM, Y = updM X7 c 8 (X7 (123 + c) 8) := ⟨_, rfl⟩
  rw [← eX8] at hR
  refine lv_aload_n hx hb dX0_copyFrom_92 rfl (lv_at hl 0 rfl) ?_
  refine lv_aload_n hx hb dX0_copyFrom_93 rfl (lv_at hl 1 rfl) ?_
  refine va_get (D := D) (ci := 0) (v := .int (X8 (123 + c) 9)) (C := RX0) (T := TX0) (N := 10) hx hb hts inX0 hown hK.1 (DR.mkB hR (c := c) hc (bS_0 hk)) 0 rfl rfl 9 (by decide) lk56 (fun _ h9 => h9) rfl dX0_copyFrom_94 ?_
  refine gm_put (v := .int (X8 (123 + c) 9)) (ty := .int) (ci := 0) (C := RX0) (T := TX0) (N := 10) hx hb hts inX0 tyX0 tyX0_ok nmX0 hown hK.1 hR (injD hdis) hS (a := c) (Nat.lt_trans hc (by decide)) (adD_A (c := c) hc) ((bD_A (c := c) hc).trans (bS_0 hk)) rfl 9 (by decide) lk56 (fun _ h9 => h9) rfl (by decide +kernel) rfl rfl (Nat.le_of_ble_eq_true rfl) (j := 9) (x := X8 (123 + c) 9) (by rw [(bD_A (c := c) hc).trans (bS_0 hk)]; rfl) dX0_copyFrom_97 (fun H locs hR hS => ?_)
  obtain ⟨X9, eX9⟩ : ∃ Y : gM, Y = updM X8 c 9 (X8 (123 + c) 9) := ⟨_, rfl⟩
  rw [← eX9] at hR
  exact gm_vret hx hb hr hlocks hS (by (try simp only [p_X0_copyFrom, ← eX1, ← eX3, ← eX4, ← eX5, ← eX6, ← eX7, ← eX8, ← eX9]); exact hR) dX0_copyFrom_100
theorem lf_X0_copyFrom_17_eq (c : Nat) (hb : c + 15 ≤ 123) (K : gM → Nat → gM) : ∀ (j n : Nat) (Z : gM) (k : Nat), k + j = 6 → j < n → lf_X0_copyFrom_17 c K n Z k = K (cpD Z (c + 2 + 1 + 2 * k) (2 * j)) 6 := by
  intro j
  induction j with
  | zero =>
    intro n Z k hk hn
    obtain ⟨n, rfl⟩ : ∃ q, n = q + 1 := ⟨n - 1, by omega⟩
    obtain rfl : k = 6 := by omega
    unfold lf_X0_copyFrom_17
    rw [if_pos (by decide), Nat.mul_zero, cpD_0]
  | succ j ih =>
    intro n Z k hk hn
    obtain ⟨n, rfl⟩ : ∃ q, n = q + 1 := ⟨n - 1, by omega⟩
    unfold lf_X0_copyFrom_17
    rw [if_neg (show ¬ (6 : Int32) ≤ nI k from nI_ge (a := k) (b := 6) (by omega) (by decide))]
    dsimp only
    rw [ih n _ (k + 1) (by omega) (by omega), cpD_cp (n := 2) Z (by omega) (by omega)]
    rw [show 2 + 2 * j = 2 * (j + 1) by omega]
theorem c_X0_copyFrom (l : Launch) (D : va_G) (cy : Nat → ClassId) (σ : Nat) (τ : Nat) (X : gM) (c : Nat) (hdis : σ + 123 ≤ τ ∨ τ + 123 ≤ σ) (hc : c < 123) (hk : kdS c = 0) : Met l yX0_copyFrom wsX0_copyFrom ({ frames := 2, cells := 0, slots := 0, locals := 47 }) (gP [.ref (σ + c), .ref (τ + c)] D cy (DR D cy σ τ X)) (gQv (DR D cy σ τ (cpD X c 15)) (DA σ τ)) 0 0 (DA σ τ) :=
  gMet_v (cr_X0_copyFrom l D cy σ τ X c hdis hc hk) (fun H h => gRep.same2 h (by
    intro a ha
    have hb : c + 15 ≤ 123 := kd_0b c hc hk
    have e0 : p_X0_copyFrom X c = (fun X2 : gM => updM (updM (updM (updM (updM (updM (updM X2 c 3 (X2 (123 + c) 3)) c 4 (X2 (123 + c) 4)) c 5 (X2 (123 + c) 5)) c 6 (X2 (123 + c) 6)) c 7 (X2 (123 + c) 7)) c 8 (X2 (123 + c) 8)) c 9 (X2 (123 + c) 9)) (cpD (cpyR X (c + 1) (123 + (c + 1)) 24) (c + 2 + 1) 12) := by
      unfold p_X0_copyFrom
      dsimp only
      rw [lf_X0_copyFrom_17_eq c hb _ 6 7 _ 0 (by omega) (by omega)]
      have hz : ¬ (123 + c = c) := by omega
      simp only [updM, if_neg hz, Nat.mul_zero, Nat.add_zero]
    rw [e0]
    by_cases h1 : a = c
    · subst h1
      refine Or.inl ?_
      rw [bD_A hc, bD_A hc, bS_0 hk, bS_0 hk]
      have hz : ¬ (123 + a = a + 1) := by omega
      have hy : ¬ (a + 2 + 1 ≤ 123 + a ∧ 123 + a < a + 2 + 1 + 12) := by omega
      simp [cpD, cpyR, updM, upd, hz, hy]
    · by_cases h2 : a = c + 1
      · subst h2
        have q := (kd_0 c hc hk).1
        refine Or.inr ⟨_, _, _, _, (bD_A q.1).trans (bS_20 q.2), (bD_A q.1).trans (bS_20 q.2), fun i hi => ?_⟩
        have hy : ¬ (c + 2 + 1 ≤ c + 1 ∧ c + 1 < c + 2 + 1 + 12) := by omega
        have hy2 : ¬ (c + 2 ≤ c) := by omega
        simp [cpD, cpyR, updM, upd, va_cpy, hi, hy, hy2]
      · by_cases h3 : a = c + 2
        · subst h3
          have q := (kd_0 c hc hk).2.1
          refine Or.inl ?_
          rw [bD_A q.1, bD_A q.1, bS_24 q.2, bS_24 q.2]
        · refine Or.inl ?_
          congr 1
          simp only [updM, if_neg h1, cpD, cpyR]
          repeat' split
          all_goals first | rfl | (exfalso; omega)))
