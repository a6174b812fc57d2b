def lf_X3_copyFrom_24  (K : (gM) → (Nat) → (gM)) : Nat → (gM) → (Nat) → (gM)
  | 0, Z, k_2 => K Z k_2
  | n + 1, Z, k_2 =>
    if 40 ≤ nI k_2 then
      K Z k_2
    else
      let X1 := cpD Z (35 + 2 * k_2) 2
      lf_X3_copyFrom_24 K n X1 (k_2 + 1)
def lf_X3_copyFrom_53  (K : (gM) → (Nat) → (gM)) : Nat → (gM) → (Nat) → (gM)
  | 0, Z, k_2 => K Z k_2
  | n + 1, Z, k_2 =>
    if 4 ≤ nI k_2 then
      K Z k_2
    else
      let X1 := cpD Z (115 + 2 * k_2) 2
      lf_X3_copyFrom_53 K n X1 (k_2 + 1)
def p_X3_copyFrom (X : gM) : gM :=
  let X1 := cpD X 1 15
  let X2 := cpD X1 16 15
  lf_X3_copyFrom_24  (fun X3 k_2w1 =>
        lf_X3_copyFrom_53  (fun X4 k_2w2 =>
        let X5 := cpD X4 33 2
        let X6 := updM X5 0 5 (X5 (123 + 0) 5)
        let X7 := updM X6 0 6 (X6 (123 + 0) 6)
        let X8 := updM X7 0 7 (X7 (123 + 0) 7)
        let X9 := updM X8 0 8 (X8 (123 + 0) 8)
        let X10 := updM X9 0 9 (X9 (123 + 0) 9)
        let X11 := updM X10 0 10 (X10 (123 + 0) 10)
        let X12 := updM X11 0 11 (X11 (123 + 0) 11)
        let X13 := updM X12 0 12 (X12 (123 + 0) 12)
        let X14 := updM X13 0 13 (X13 (123 + 0) 13)
        X14) 41 X3 0) 41 X2 0
set_option maxHeartbeats 4000000 in
set_option maxRecDepth 100000 in
theorem lp_X3_copyFrom_24 {p : Program} {l : Launch} {e : Env} {s : State} {m : MethodId} {args : Array Value} {below : List Frame} {meth : Method} {c0 : Code} {D : va_G} {cy : Nat → ClassId} (C : gCtx cX3_copyFrom 3 none RX3 wsX3_copyFrom D cy p s m args meth c0) (σ : Nat) (τ : Nat) (hdis : σ + 123 ≤ τ ∨ τ + 123 ≤ σ)
    (K : (gM) → (Nat) → (gM)) (hexit : ∀ (Z : gM) (k_2 : Nat), k_2 ≤ 40 → ∀ (H : Heap) (locs : List Loc) (ls : Array Slot), DR D cy σ τ Z H → va_S (DA σ τ) s.heap H locs → lv_has ls 3 [(0, .ref σ), (1, .ref τ), (2, .int (nI k_2))] → W p l e { frames := 3, cells := 0, slots := 0, locals := 69 } s m args below meth c0 H locs 0 0 (MQ below (gQv (DR D cy σ τ (K Z k_2)) (DA σ τ)) args s 0 0 (DA σ τ)) (F0 m 51 ls [])) :
    ∀ (n : Nat) (Z : gM) (k_2 : Nat), k_2 ≤ 40 → 40 < k_2 + n → ∀ (H : Heap) (locs : List Loc) (ls : Array Slot), DR D cy σ τ Z H → va_S (DA σ τ) s.heap H locs → lv_has ls 3 [(0, .ref σ), (1, .ref τ), (2, .int (nI k_2))] → W p l e { frames := 3, cells := 0, slots := 0, locals := 69 } s m args below meth c0 H locs 0 0 (MQ below (gQv (DR D cy σ τ (lf_X3_copyFrom_24 K n Z k_2)) (DA σ τ)) args s 0 0 (DA σ τ)) (F0 m 24 ls []) := by
  obtain ⟨hx, hb, hr, hts, hown, hlocks, hml, hK⟩ := C
  have lk25 := hts (.fieldLink RX3 25 "MercuryLine$State" "tickets" "[LMercuryLine$Ticket;") (by decide +kernel)
  have inX3 : ∀ w ∈ u_ws RX3 TX3 14, w ∈ wsX3_copyFrom := by decide +kernel
  intro n
  induction n with
  | zero =>
    intro Z k_2 hb_2 hme
    exact absurd hme (by omega)
  | succ n ih =>
    intro Z k_2 hb_2 hme H locs ls hR hS hl
    refine lv_iload_n hx hb dX3_copyFrom_24 rfl (lv_at hl 2 rfl) ?_
    refine lv_bipush (v := 40) hx hb dX3_copyFrom_25 (by decide) ?_
    refine lv_icmp_ge (tgt := 51) hx hb dX3_copyFrom_27 (by decide) (fun c_1 => ?_) (fun c_1 => ?_)
    · have ge_2 : 40 ≤ k_2 := g_ge2 (Nat.lt_of_le_of_lt hb_2 (by decide)) (by decide) c_1
      refine gm_q (Q2 := MQ below (gQv (DR D cy σ τ (K Z k_2)) (DA σ τ)) args s 0 0 (DA σ τ)) (by simp only [lf_X3_copyFrom_24, ↓if_pos c_1]) ?_
      exact hexit Z k_2 hb_2  _ _ _ hR hS (lv_sub hl [0, 1, 2] rfl)
    · have lt_3 : k_2 < 40 := g_lt (Nat.lt_of_le_of_lt hb_2 (by decide)) (by decide) c_1
      refine lv_aload_n hx hb dX3_copyFrom_30 rfl (lv_at hl 0 rfl) ?_
      refine va_get (D := D) (ci := 3) (v := .ref (σ + 31)) (C := RX3) (T := TX3) (N := 14) hx hb hts inX3 hown hK.1 (DR.mkA0 hR (c := 0) (by decide) (bS_3 (by decide))) 0 rfl rfl 2 (by decide) lk25 (fun _ h9 => h9) rfl dX3_copyFrom_31 ?_
      refine lv_iload_n hx hb dX3_copyFrom_34 rfl (lv_at hl 2 rfl) ?_
      refine gm_aald (b := (σ + (35 + 2 * k_2))) hx hb hK.1 (DR.mkA hR (c := 31) (by decide) (bS_25 (by decide))) 5 rfl (vp_in_nI lt_3 (by decide)) (by rw [nI_clamp (n := k_2) (by omega)]) dX3_copyFrom_35 ?_
      refine lv_aload_n hx hb dX3_copyFrom_36 rfl (lv_at hl 1 rfl) ?_
      refine va_get (D := D) (ci := 3) (v := .ref (τ + 31)) (C := RX3) (T := TX3) (N := 14) hx hb hts inX3 hown hK.1 (DR.mkB0 hR (c := 0) (by decide) (bS_3 (by decide))) 0 rfl rfl 2 (by decide) lk25 (fun _ h9 => h9) rfl dX3_copyFrom_37 ?_
      refine lv_iload_n hx hb dX3_copyFrom_40 rfl (lv_at hl 2 rfl) ?_
      refine gm_aald (b := (τ + (35 + 2 * k_2))) hx hb hK.1 (DR.mkB hR (c := 31) (by decide) (bS_25 (by decide))) 5 rfl (vp_in_nI lt_3 (by decide)) (by rw [nI_clamp (n := k_2) (by omega)]) dX3_copyFrom_41 ?_
      refine gm_cv (gm_call (As := [.ref (τ + (35 + 2 * k_2))]) (rest := []) (ci := 5) (q := (RX5, TX5, 14)) ⟨hx, hb, hml, hown, hts⟩ hK (c_X5_copyFrom l D cy σ τ Z (35 + 2 * k_2) hdis (kd_T k_2 lt_3).1 (kd_T k_2 lt_3).2.1) (cwV 1 hts gX3_copyFrom_X5_copyFrom rfl rfl rfl (by decide +kernel) ⟨Nat.le_of_ble_eq_true rfl, Nat.le_of_ble_eq_true rfl⟩) (DR.mkA hR (c := 35 + 2 * k_2) (kd_T k_2 lt_3).1 (bS_5 (kd_T k_2 lt_3).2.1)) rfl hR rfl hl.1 rfl (Nat.le_of_ble_eq_true rfl) dX3_copyFrom_42 (Nat.zero_le _) (Nat.zero_le _)) hS (fun _ h => h) (fun H locs hR _ _ hS => ?_)
      obtain ⟨X1, eX1⟩ : ∃ Y : gM, Y = cpD Z (35 + 2 * k_2) 2 := ⟨_, rfl⟩
      rw [← eX1] at hR
      refine lv_iinc (v := nI (k_2 + 1)) (lv' := [(2, .int (nI (k_2 + 1))), (0, .ref σ), (1, .ref τ)]) hx hb dX3_copyFrom_45 hl (k := 2) rfl (nI_1 _) (by decide) rfl (fun ls hl => ?_)
      refine lv_goto (tgt := 24) hx hb dX3_copyFrom_48 (by decide) ?_
      refine gm_q (Q2 := MQ below (gQv (DR D cy σ τ (lf_X3_copyFrom_24 K n X1 (k_2 + 1))) (DA σ τ)) args s 0 0 (DA σ τ)) (by simp only [lf_X3_copyFrom_24, ↓if_neg c_1, ← eX1]) ?_
      exact ih X1 (k_2 + 1) lt_3 (by omega) _ _ _ hR hS (lv_sub hl [1, 2, 0] rfl)
set_option maxHeartbeats 4000000 in
set_option maxRecDepth 100000 in
theorem lp_X3_copyFrom_53 {p : Program} {l : Launch} {e : Env} {s : State} {m : MethodId} {args : Array Value} {below : List Frame} {meth : Method} {c0 : Code} {D : va_G} {cy : Nat → ClassId} (C : gCtx cX3_copyFrom 3 none RX3 wsX3_copyFrom D cy p s m args meth c0) (σ : Nat) (τ : Nat) (hdis : σ + 123 ≤ τ ∨ τ + 123 ≤ σ)
    (K : (gM) → (Nat) → (gM)) (hexit : ∀ (Z : gM) (k_2 : Nat), k_2 ≤ 40 → ∀ (H : Heap) (locs : List Loc) (ls : Array Slot), DR D cy σ τ Z H → va_S (DA σ τ) s.heap H locs → lv_has ls 3 [(0, .ref σ), (1, .ref τ), (2, .int (nI k_2))] → W p l e { frames := 3, cells := 0, slots := 0, locals := 69 } s m args below meth c0 H locs 0 0 (MQ below (gQv (DR D cy σ τ (K Z k_2)) (DA σ τ)) args s 0 0 (DA σ τ)) (F0 m 79 ls [])) :
    ∀ (n : Nat) (Z : gM) (k_2 : Nat), k_2 ≤ 40 → 40 < k_2 + n → ∀ (H : Heap) (locs : List Loc) (ls : Array Slot), DR D cy σ τ Z H → va_S (DA σ τ) s.heap H locs → lv_has ls 3 [(0, .ref σ), (1, .ref τ), (2, .int (nI k_2))] → W p l e { frames := 3, cells := 0, slots := 0, locals := 69 } s m args below meth c0 H locs 0 0 (MQ below (gQv (DR D cy σ τ (lf_X3_copyFrom_53 K n Z k_2)) (DA σ τ)) args s 0 0 (DA σ τ)) (F0 m 53 ls []) := by
  obtain ⟨hx, hb, hr, hts, hown, hlocks, hml, hK⟩ := C
  have lk31 := hts (.fieldLink RX3 31 "MercuryLine$State" "orders" "[LMercuryLine$Order;") (by decide +kernel)
  have inX3 : ∀ w ∈ u_ws RX3 TX3 14, w ∈ wsX3_copyFrom := by decide +kernel
  intro n
  induction n with
  | zero =>
    intro Z k_2 hb_2 hme
    exact absurd hme (by omega)
  | succ n ih =>
    intro Z k_2 hb_2 hme H locs ls hR hS hl
    refine lv_iload_n hx hb dX3_copyFrom_53 rfl (lv_at hl 2 rfl) ?_
    refine lv_iconst (v := 4) hx hb dX3_copyFrom_54 (by decide) ?_
    refine lv_icmp_ge (tgt := 79) hx hb dX3_copyFrom_55 (by decide) (fun c_1 => ?_) (fun c_1 => ?_)
    · have ge_2 : 4 ≤ k_2 := g_ge2 (Nat.lt_of_le_of_lt hb_2 (by decide)) (by decide) c_1
      refine gm_q (Q2 := MQ below (gQv (DR D cy σ τ (K Z k_2)) (DA σ τ)) args s 0 0 (DA σ τ)) (by simp only [lf_X3_copyFrom_53, ↓if_pos c_1]) ?_
      exact hexit Z k_2 hb_2  _ _ _ hR hS (lv_sub hl [0, 1, 2] rfl)
    · have lt_3 : k_2 < 4 := g_lt (Nat.lt_of_le_of_lt hb_2 (by decide)) (by decide) c_1
      refine lv_aload_n hx hb dX3_copyFrom_58 rfl (lv_at hl 0 rfl) ?_
      refine va_get (D := D) (ci := 3) (v := .ref (σ + 32)) (C := RX3) (T := TX3) (N := 14) hx hb hts inX3 hown hK.1 (DR.mkA0 hR (c := 0) (by decide) (bS_3 (by decide))) 0 rfl rfl 3 (by decide) lk31 (fun _ h9 => h9) rfl dX3_copyFrom_59 ?_
      refine lv_iload_n hx hb dX3_copyFrom_62 rfl (lv_at hl 2 rfl) ?_
      refine gm_aald (b := (σ + (115 + 2 * k_2))) hx hb hK.1 (DR.mkA hR (c := 32) (by decide) (bS_26 (by decide))) 2 rfl (vp_in_nI lt_3 (by decide)) (by rw [nI_clamp (n := k_2) (by omega)]) dX3_copyFrom_63 ?_
      refine lv_aload_n hx hb dX3_copyFrom_64 rfl (lv_at hl 1 rfl) ?_
      refine va_get (D := D) (ci := 3) (v := .ref (τ + 32)) (C := RX3) (T := TX3) (N := 14) hx hb hts inX3 hown hK.1 (DR.mkB0 hR (c := 0) (by decide) (bS_3 (by decide))) 0 rfl rfl 3 (by decide) lk31 (fun _ h9 => h9) rfl dX3_copyFrom_65 ?_
      refine lv_iload_n hx hb dX3_copyFrom_68 rfl (lv_at hl 2 rfl) ?_
      refine gm_aald (b := (τ + (115 + 2 * k_2))) hx hb hK.1 (DR.mkB hR (c := 32) (by decide) (bS_26 (by decide))) 2 rfl (vp_in_nI lt_3 (by decide)) (by rw [nI_clamp (n := k_2) (by omega)]) dX3_copyFrom_69 ?_
      refine gm_cv (gm_call (As := [.ref (τ + (115 + 2 * k_2))]) (rest := []) (ci := 2) (q := (RX2, TX2, 6)) ⟨hx, hb, hml, hown, hts⟩ hK (c_X2_copyFrom l D cy σ τ Z (115 + 2 * k_2) hdis (kd_O k_2 lt_3).1 (kd_O k_2 lt_3).2) (cwV 1 hts gX3_copyFrom_X2_copyFrom rfl rfl rfl (by decide +kernel) ⟨Nat.le_of_ble_eq_true rfl, Nat.le_of_ble_eq_true rfl⟩) (DR.mkA hR (c := 115 + 2 * k_2) (kd_O k_2 lt_3).1 (bS_2 (kd_O k_2 lt_3).2)) rfl hR rfl hl.1 rfl (Nat.le_of_ble_eq_true rfl) dX3_copyFrom_70 (Nat.zero_le _) (Nat.zero_le _)) hS (fun _ h => h) (fun H locs hR _ _ hS => ?_)
      obtain ⟨X1, eX1⟩ : ∃ Y : gM, Y = cpD Z (115 + 2 * k_2) 2 := ⟨_, rfl⟩
      rw [← eX1] at hR
      refine lv_iinc (v := nI (k_2 + 1)) (lv' := [(2, .int (nI (k_2 + 1))), (0, .ref σ), (1, .ref τ)]) hx hb dX3_copyFrom_73 hl (k := 2) rfl (nI_1 _) (by decide) rfl (fun ls hl => ?_)
      refine lv_goto (tgt := 53) hx hb dX3_copyFrom_76 (by decide) ?_
      refine gm_q (Q2 := MQ below (gQv (DR D cy σ τ (lf_X3_copyFrom_53 K n X1 (k_2 + 1))) (DA σ τ)) args s 0 0 (DA σ τ)) (by simp only [lf_X3_copyFrom_53, ↓if_neg c_1, ← eX1]) ?_
      exact ih X1 (k_2 + 1) (Nat.lt_of_lt_of_le lt_3 (by decide)) (by omega) _ _ _ hR hS (lv_sub hl [1, 2, 0] rfl)
set_option maxHeartbeats 4000000 in
set_option maxRecDepth 100000 in
theorem cr_X3_copyFrom (l : Launch) (D : va_G) (cy : Nat → ClassId) (σ : Nat) (τ : Nat) (X : gM) (hdis : σ + 123 ≤ τ ∨ τ + 123 ≤ σ) : Met l yX3_copyFrom wsX3_copyFrom ({ frames := 3, cells := 0, slots := 0, locals := 69 }) (gP [.ref σ, .ref τ] D cy (DR D cy σ τ X)) (gQv (DR D cy σ τ (p_X3_copyFrom X)) (DA σ τ)) 0 0 (DA σ τ) := by
  refine gm_met (cc := cX3_copyFrom) (maxL := 3) (ret := none) [.ref σ, .ref τ] (by decide) rfl (Nat.le_of_ble_eq_true rfl) ?_
  intro p e s m args below meth c0 ls C hR hl
  obtain ⟨hx, hb, hr, hts, hown, hlocks, hml, hK⟩ := C
  have hl : lv_has ls 3 [(0, .ref σ), (1, .ref τ)] := hl
  have hS : va_S (DA σ τ) s.heap s.heap [] := va_S.rf
  have lk14 := hts (.fieldLink RX3 14 "MercuryLine$State" "zero" "LMercuryLine$Line;") (by decide +kernel)
  have inX3 : ∀ w ∈ u_ws RX3 TX3 14, w ∈ wsX3_copyFrom := by decide +kernel
  have lk20 := hts (.fieldLink RX3 20 "MercuryLine$State" "one" "LMercuryLine$Line;") (by decide +kernel)
  have lk38 := hts (.fieldLink RX3 38 "MercuryLine$State" "log" "LMercuryLine$Log;") (by decide +kernel)
  have lk64 := hts (.fieldLink RX3 64 "MercuryLine$State" "ticketCount" "I") (by decide +kernel)
  have lk67 := hts (.fieldLink RX3 67 "MercuryLine$State" "orderCount" "I") (by decide +kernel)
  have lk70 := hts (.fieldLink RX3 70 "MercuryLine$State" "tick" "I") (by decide +kernel)
  have lk42 := hts (.fieldLink RX3 42 "MercuryLine$State" "fare" "I") (by decide +kernel)
  have lk46 := hts (.fieldLink RX3 46 "MercuryLine$State" "patience" "I") (by decide +kernel)
  have lk73 := hts (.fieldLink RX3 73 "MercuryLine$State" "paid" "I") (by decide +kernel)
  have lk76 := hts (.fieldLink RX3 76 "MercuryLine$State" "earned" "I") (by decide +kernel)
  have lk79 := hts (.fieldLink RX3 79 "MercuryLine$State" "refunded" "I") (by decide +kernel)
  have lk82 := hts (.fieldLink RX3 82 "MercuryLine$State" "arrivedValues" "I") (by decide +kernel)
  refine lv_aload_n hx hb dX3_copyFrom_0 rfl (lv_at hl 0 rfl) ?_
  refine va_get (D := D) (ci := 3) (v := .ref (σ + 1)) (C := RX3) (T := TX3) (N := 14) hx hb hts inX3 hown hK.1 (DR.mkA0 hR (c := 0) (by decide) (bS_3 (by decide))) 0 rfl rfl 0 (by decide) lk14 (fun _ h9 => h9) rfl dX3_copyFrom_1 ?_
  refine lv_aload_n hx hb dX3_copyFrom_4 rfl (lv_at hl 1 rfl) ?_
  refine va_get (D := D) (ci := 3) (v := .ref (τ + 1)) (C := RX3) (T := TX3) (N := 14) hx hb hts inX3 hown hK.1 (DR.mkB0 hR (c := 0) (by decide) (bS_3 (by decide))) 0 rfl rfl 0 (by decide) lk14 (fun _ h9 => h9) rfl dX3_copyFrom_5 ?_
  refine gm_cv (gm_call (As := [.ref (τ + 1)]) (rest := []) (ci := 0) (q := (RX0, TX0, 10)) ⟨hx, hb, hml, hown, hts⟩ hK (c_X0_copyFrom l D cy σ τ X 1 hdis (by decide) (by decide)) (cwV 1 hts gX3_copyFrom_X0_copyFrom rfl rfl rfl (by decide +kernel) ⟨Nat.le_of_ble_eq_true rfl, Nat.le_of_ble_eq_true rfl⟩) (DR.mkA hR (c := 1) (by decide) (bS_0 (by decide))) rfl hR rfl hl.1 rfl (Nat.le_of_ble_eq_true rfl) dX3_copyFrom_8 (Nat.zero_le _) (Nat.zero_le _)) hS (fun _ h => h) (fun H locs hR _ _ hS => ?_)
  obtain ⟨X1, eX1⟩ : ∃ Y : gM, Y = cpD X 1 15 := ⟨_, rfl⟩
  rw [← eX1] at hR
  refine lv_aload_n hx hb dX3_copyFrom_11 rfl (lv_at hl 0 rfl) ?_
  refine va_get (D := D) (ci := 3) (v := .ref (σ + 16)) (C := RX3) (T := TX3) (N := 14) hx hb hts inX3 hown hK.1 (DR.mkA0 hR (c := 0) (by decide) (bS_3 (by decide))) 0 rfl rfl 1 (by decide) lk20 (fun _ h9 => h9) rfl dX3_copyFrom_12 ?_
  refine lv_aload_n hx hb dX3_copyFrom_15 rfl (lv_at hl 1 rfl) ?_
  refine va_get (D := D) (ci := 3) (v := .ref (τ + 16)) (C := RX3) (T := TX3) (N := 14) hx hb hts inX3 hown hK.1 (DR.mkB0 hR (c := 0) (by decide) (bS_3 (by decide))) 0 rfl rfl 1 (by decide) lk20 (fun _ h9 => h9) rfl dX3_copyFrom_16 ?_
  refine gm_cv (gm_call (As := [.ref (τ + 16)]) (rest := []) (ci := 0) (q := (RX0, TX0, 10)) ⟨hx, hb, hml, hown, hts⟩ hK (c_X0_copyFrom l D cy σ τ X1 16 hdis (by decide) (by decide)) (cwV 1 hts gX3_copyFrom_X0_copyFrom rfl rfl rfl (by decide +kernel) ⟨Nat.le_of_ble_eq_true rfl, Nat.le_of_ble_eq_true rfl⟩) (DR.mkA hR (c := 16) (by decide) (bS_0 (by decide))) rfl hR rfl hl.1 rfl (Nat.le_of_ble_eq_true rfl) dX3_copyFrom_19 (Nat.zero_le _) (Nat.zero_le _)) hS (fun _ h => h) (fun H locs hR _ _ hS => ?_)
  obtain ⟨X2, eX2⟩ : ∃ Y : gM, Y = cpD X1 16 15 := ⟨_, rfl⟩
  rw [← eX2] at hR
  refine lv_iconst (v := 0) hx hb dX3_copyFrom_22 (by decide) ?_
  refine lv_istore_n (lv' := [(2, .int 0), (0, .ref σ), (1, .ref τ)]) hx hb dX3_copyFrom_23 rfl hl (by decide) rfl (fun ls hl => ?_)
  refine gm_q (Q2 := MQ below (gQv (DR D cy σ τ (lf_X3_copyFrom_24  (fun X3 k_2w1 =>
        lf_X3_copyFrom_53  (fun X4 k_2w2 =>
        let X5 := cpD X4 33 2
        let X6 := updM X5 0 5 (X5 (123 + 0) 5)
        let X7 := updM X6 0 6 (X6 (123 + 0) 6)
        let X8 := updM X7 0 7 (X7 (123 + 0) 7)
        let X9 := updM X8 0 8 (X8 (123 + 0) 8)
        let X10 := updM X9 0 9 (X9 (123 + 0) 9)
        let X11 := updM X10 0 10 (X10 (123 + 0) 10)
        let X12 := updM X11 0 11 (X11 (123 + 0) 11)
        let X13 := updM X12 0 12 (X12 (123 + 0) 12)
        let X14 := updM X13 0 13 (X13 (123 + 0) 13)
        X14) 41 X3 0) 41 X2 0)) (DA σ τ)) args s 0 0 (DA σ τ)) (by simp only [p_X3_copyFrom, ← eX1, ← eX2]) ?_
  refine lp_X3_copyFrom_24 ⟨hx, hb, hr, hts, hown, hlocks, hml, hK⟩ σ τ hdis _ (fun X3 k_2w1 hbk_2w1 H locs ls hR hS hl => ?_) 41 X2 0 (by decide) (by omega) _ _ _ hR hS (lv_sub hl [1, 2, 0] rfl)
  refine lv_iconst (v := 0) hx hb dX3_copyFrom_51 (by decide) ?_
  refine lv_istore_n (lv' := [(2, .int 0), (0, .ref σ), (1, .ref τ)]) hx hb dX3_copyFrom_52 rfl hl (by decide) rfl (fun ls hl => ?_)
  refine gm_q (Q2 := MQ below (gQv (DR D cy σ τ (lf_X3_copyFrom_53  (fun X4 k_2w2 =>
        let X5 := cpD X4 33 2
        let X6 := updM X5 0 5 (X5 (123 + 0) 5)
        let X7 := updM X6 0 6 (X6 (123 + 0) 6)
        let X8 := updM X7 0 7 (X7 (123 + 0) 7)
        let X9 := updM X8 0 8 (X8 (123 + 0) 8)
        let X10 := updM X9 0 9 (X9 (123 + 0) 9)
        let X11 := updM X10 0 10 (X10 (123 + 0) 10)
        let X12 := updM X11 0 11 (X11 (123 + 0) 11)
        let X13 := updM X12 0 12 (X12 (123 + 0) 12)
        let X14 := updM X13 0 13 (X13 (123 + 0) 13)
        X14) 41 X3 0)) (DA σ τ)) args s 0 0 (DA σ τ)) (by simp only [p_X3_copyFrom, ← eX1, ← eX2]) ?_
  refine lp_X3_copyFrom_53 ⟨hx, hb, hr, hts, hown, hlocks, hml, hK⟩ σ τ hdis _ (fun X4 k_2w2 hbk_2w2 H locs ls hR hS hl => ?_) 41 X3 0 (by decide) (by omega) _ _ _ hR hS (lv_sub hl [1, 2, 0] rfl)
  refine lv_aload_n hx hb dX3_copyFrom_79 rfl (lv_at hl 0 rfl) ?_
  refine va_get (D := D) (ci := 3) (v := .ref (σ + 33)) (C := RX3) (T := TX3) (N := 14) hx hb hts inX3 hown hK.1 (DR.mkA0 hR (c := 0) (by decide) (bS_3 (by decide))) 0 rfl rfl 4 (by decide) lk38 (fun _ h9 => h9) rfl dX3_copyFrom_80 ?_
  refine lv_aload_n hx hb dX3_copyFrom_83 rfl (lv_at hl 1 rfl) ?_
  refine va_get (D := D) (ci := 3) (v := .ref (τ + 33)) (C := RX3) (T := TX3) (N := 14) hx hb hts inX3 hown hK.1 (DR.mkB0 hR (c := 0) (by decide) (bS_3 (by decide))) 0 rfl rfl 4 (by decide) lk38 (fun _ h9 => h9) rfl dX3_copyFrom_84 ?_
  refine gm_cv (gm_call (As := [.ref (τ + 33)]) (rest := []) (ci := 1) (q := (RX1, TX1, 3)) ⟨hx, hb, hml, hown, hts⟩ hK (c_X1_copyFrom l D cy σ τ X4 33 hdis (by decide) (by decide)) (cwV 1 hts gX3_copyFrom_X1_copyFrom rfl rfl rfl (by decide +kernel) ⟨Nat.le_of_ble_eq_true rfl, Nat.le_of_ble_eq_true rfl⟩) (DR.mkA hR (c := 33) (by decide) (bS_1 (by decide))) rfl hR rfl hl.1 rfl (Nat.le_of_ble_eq_true rfl) dX3_copyFrom_87 (Nat.zero_le _) (Nat.zero_le _)) hS (fun _ h => h) (fun H locs hR _ _ hS => ?_)
  obtain ⟨X5, eX5⟩ : ∃ Y : gM, Y = cpD X4 33 2 := ⟨_, rfl⟩
  rw [← eX5] at hR
  refine lv_aload_n hx hb dX3_copyFrom_90 rfl (lv_at hl 0 rfl) ?_
  refine lv_aload_n hx hb dX3_copyFrom_91 rfl (lv_at hl 1 rfl) ?_
  refine va_get (D := D) (ci := 3) (v := .int (X5 (123 + 0) 5)) (C := RX3) (T := TX3) (N := 14) hx hb hts inX3 hown hK.1 (DR.mkB0 hR (c := 0) (by decide) (bS_3 (by decide))) 0 rfl rfl 5 (by decide) lk64 (fun _ h9 => h9) rfl dX3_copyFrom_92 ?_
  refine gm_put (v := .int (X5 (123 + 0) 5)) (ty := .int) (ci := 3) (C := RX3) (T := TX3) (N := 14) hx hb hts inX3 tyX3 tyX3_ok nmX3 hown hK.1 hR (injD hdis) hS (a := 0) (by decide) (adD_A (c := 0) (by decide)) ((bD_A (c := 0) (by decide)).trans (bS_3 (by decide))) rfl 5 (by decide) lk64 (fun _ h9 => h9) rfl (by decide +kernel) rfl rfl (Nat.le_of_ble_eq_true rfl) (j := 5) (x := X5 (123 + 0) 5) (by rw [(bD_A (c := 0) (by decide)).trans (bS_3 (by decide))]; rfl) dX3_copyFrom_95 (fun H locs hR hS => ?_)
  obtain ⟨X6, eX6⟩ : ∃ Y : gM, Y = updM X5 0 5 (X5 (123 + 0) 5) := ⟨_, rfl⟩
  rw [← eX6] at hR
  refine lv_aload_n hx hb dX3_copyFrom_98 rfl (lv_at hl 0 rfl) ?_
  refine lv_aload_n hx hb dX3_copyFrom_99 rfl (lv_at hl 1 rfl) ?_
  refine va_get (D := D) (ci := 3) (v := .int (X6 (123 + 0) 6)) (C := RX3) (T := TX3) (N := 14) hx hb hts inX3 hown hK.1 (DR.mkB0 hR (c := 0) (by decide) (bS_3 (by decide))) 0 rfl rfl 6 (by decide) lk67 (fun _ h9 => h9) rfl dX3_copyFrom_100 ?_
  refine gm_put (v := .int (X6 (123 + 0) 6)) (ty := .int) (ci := 3) (C := RX3) (T := TX3) (N := 14) hx hb hts inX3 tyX3 tyX3_ok nmX3 hown hK.1 hR (injD hdis) hS (a := 0) (by decide) (adD_A (c := 0) (by decide)) ((bD_A (c := 0) (by decide)).trans (bS_3 (by decide))) rfl 6 (by decide) lk67 (fun _ h9 => h9) rfl (by decide +kernel) rfl rfl (Nat.le_of_ble_eq_true rfl) (j := 6) (x := X6 (123 + 0) 6) (by rw [(bD_A (c := 0) (by decide)).trans (bS_3 (by decide))]; rfl) dX3_copyFrom_103 (fun H locs hR hS => ?_)
  obtain ⟨X7, eX7⟩ : ∃ Y : gM, Y = updM X6 0 6 (X6 (123 + 0) 6) := ⟨_, rfl⟩
  rw [← eX7] at hR
  refine lv_aload_n hx hb dX3_copyFrom_106 rfl (lv_at hl 0 rfl) ?_
  refine lv_aload_n hx hb dX3_copyFrom_107 rfl (lv_at hl 1 rfl) ?_
  refine va_get (D := D) (ci := 3) (v := .int (X7 (123 + 0) 7)) (C := RX3) (T := TX3) (N := 14) hx hb hts inX3 hown hK.1 (DR.mkB0 hR (c := 0) (by decide) (bS_3 (by decide))) 0 rfl rfl 7 (by decide) lk70 (fun _ h9 => h9) rfl dX3_copyFrom_108 ?_
  refine gm_put (v := .int (X7 (123 + 0) 7)) (ty := .int) (ci := 3) (C := RX3) (T := TX3) (N := 14) hx hb hts inX3 tyX3 tyX3_ok nmX3 hown hK.1 hR (injD hdis) hS (a := 0) (by decide) (adD_A (c := 0) (by decide)) ((bD_A (c := 0) (by decide)).trans (bS_3 (by decide))) rfl 7 (by decide) lk70 (fun _ h9 => h9) rfl (by decide +kernel) rfl rfl (Nat.le_of_ble_eq_true rfl) (j := 7) (x := X7 (123 + 0) 7) (by rw [(bD_A (c := 0) (by decide)).trans (bS_3 (by decide))]; rfl) dX3_copyFrom_111 (fun H locs hR hS => ?_)
  obtain ⟨X8, eX8⟩ : ∃ Y : gM, Y = updM X7 0 7 (X7 (123 + 0) 7) := ⟨_, rfl⟩
  rw [← eX8] at hR
  refine lv_aload_n hx hb dX3_copyFrom_114 rfl (lv_at hl 0 rfl) ?_
  refine lv_aload_n hx hb dX3_copyFrom_115 rfl (lv_at hl 1 rfl) ?_
  refine va_get (D := D) (ci := 3) (v := .int (X8 (123 + 0) 8)) (C := RX3) (T := TX3) (N := 14) hx hb hts inX3 hown hK.1 (DR.mkB0 hR (c := 0) (by decide) (bS_3 (by decide))) 0 rfl rfl 8 (by decide) lk42 (fun _ h9 => h9) rfl dX3_copyFrom_116 ?_
  refine gm_put (v := .int (X8 (123 + 0) 8)) (ty := .int) (ci := 3) (C := RX3) (T := TX3) (N := 14) hx hb hts inX3 tyX3 tyX3_ok nmX3 hown hK.1 hR (injD hdis) hS (a := 0) (by decide) (adD_A (c := 0) (by decide)) ((bD_A (c := 0) (by decide)).trans (bS_3 (by decide))) rfl 8 (by decide) lk42 (fun _ h9 => h9) rfl (by decide +kernel) rfl rfl (Nat.le_of_ble_eq_true rfl) (j := 8) (x := X8 (123 + 0) 8) (by rw [(bD_A (c := 0) (by decide)).trans (bS_3 (by decide))]; rfl) dX3_copyFrom_119 (fun H locs hR hS => ?_)
  obtain ⟨X9, eX9⟩ : ∃ Y : gM, Y = updM X8 0 8 (X8 (123 + 0) 8) := ⟨_, rfl⟩
  rw [← eX9] at hR
  refine lv_aload_n hx hb dX3_copyFrom_122 rfl (lv_at hl 0 rfl) ?_
  refine lv_aload_n hx hb dX3_copyFrom_123 rfl (lv_at hl 1 rfl) ?_
  refine va_get (D := D) (ci := 3) (v := .int (X9 (123 + 0) 9)) (C := RX3) (T := TX3) (N := 14) hx hb hts inX3 hown hK.1 (DR.mkB0 hR (c := 0) (by decide) (bS_3 (by decide))) 0 rfl rfl 9 (by decide) lk46 (fun _ h9 => h9) rfl dX3_copyFrom_124 ?_
  refine gm_put (v := .int (X9 (123 + 0) 9)) (ty := .int) (ci := 3) (C := RX3) (T := TX3) (N := 14) hx hb hts inX3 tyX3 tyX3_ok nmX3 hown hK.1 hR (injD hdis) hS (a := 0) (by decide) (adD_A (c := 0) (by decide)) ((bD_A (c := 0) (by decide)).trans (bS_3 (by decide))) rfl 9 (by decide) lk46 (fun _ h9 => h9) rfl (by decide +kernel) rfl rfl (Nat.le_of_ble_eq_true rfl) (j := 9) (x := X9 (123 + 0) 9) (by rw [(bD_A (c := 0) (by decide)).trans (bS_3 (by decide))]; rfl) dX3_copyFrom_127 (fun H locs hR hS => ?_)
  obtain ⟨X10, eX10⟩ : ∃ Y : gM, Y = updM X9 0 9 (X9 (123 + 0) 9) := ⟨_, rfl⟩
  rw [← eX10] at hR
  refine lv_aload_n hx hb dX3_copyFrom_130 rfl (lv_at hl 0 rfl) ?_
  refine lv_aload_n hx hb dX3_copyFrom_131 rfl (lv_at hl 1 rfl) ?_
  refine va_get (D := D) (ci := 3) (v := .int (X10 (123 + 0) 10)) (C := RX3) (T := TX3) (N := 14) hx hb hts inX3 hown hK.1 (DR.mkB0 hR (c := 0) (by decide) (bS_3 (by decide))) 0 rfl rfl 10 (by decide) lk73 (fun _ h9 => h9) rfl dX3_copyFrom_132 ?_
  refine gm_put (v := .int (X10 (123 + 0) 10)) (ty := .int) (ci := 3) (C := RX3) (T := TX3) (N := 14) hx hb hts inX3 tyX3 tyX3_ok nmX3 hown hK.1 hR (injD hdis) hS (a := 0) (by decide) (adD_A (c := 0) (by decide)) ((bD_A (c := 0) (by decide)).trans (bS_3 (by decide))) rfl 10 (by decide) lk73 (fun _ h9 => h9) rfl (by decide +kernel) rfl rfl (Nat.le_of_ble_eq_true rfl) (j := 10) (x := X10 (123 + 0) 10) (by rw [(bD_A (c := 0) (by decide)).trans (bS_3 (by decide))]; rfl) dX3_copyFrom_135 (fun H locs hR hS => ?_)
  obtain ⟨X11, eX11⟩ : ∃ Y : gM, Y = updM X10 0 10 (X10 (123 + 0) 10) := ⟨_, rfl⟩
  rw [← eX11] at hR
  refine lv_aload_n hx hb dX3_copyFrom_138 rfl (lv_at hl 0 rfl) ?_
  refine lv_aload_n hx hb dX3_copyFrom_139 rfl (lv_at hl 1 rfl) ?_
  refine va_get (D := D) (ci := 3) (v := .int (X11 (123 + 0) 11)) (C := RX3) (T := TX3) (N := 14) hx hb hts inX3 hown hK.1 (DR.mkB0 hR (c := 0) (by decide) (bS_3 (by decide))) 0 rfl rfl 11 (by decide) lk76 (fun _ h9 => h9) rfl dX3_copyFrom_140 ?_
  refine gm_put (v := .int (X11 (123 + 0) 11)) (ty := .int) (ci := 3) (C := RX3) (T := TX3) (N := 14) hx hb hts inX3 tyX3 tyX3_ok nmX3 hown hK.1 hR (injD hdis) hS (a := 0) (by decide) (adD_A (c := 0) (by decide)) ((bD_A (c := 0) (by decide)).trans (bS_3 (by decide))) rfl 11 (by decide) lk76 (fun _ h9 => h9) rfl (by decide +kernel) rfl rfl (Nat.le_of_ble_eq_true rfl) (j := 11) (x := X11 (123 + 0) 11) (by rw [(bD_A (c := 0) (by decide)).trans (bS_3 (by decide))]; rfl) dX3_copyFrom_143 (fun H locs hR hS => ?_)
  obtain ⟨X12, eX12⟩ : ∃ Y : gM, Y = updM X11 0 11 (X11 (123 + 0) 11) := ⟨_, rfl⟩
  rw [← eX12] at hR
  refine lv_aload_n hx hb dX3_copyFrom_146 rfl (lv_at hl 0 rfl) ?_
  refine lv_aload_n hx hb dX3_copyFrom_147 rfl (lv_at hl 1 rfl) ?_
  refine va_get (D := D) (ci := 3) (v := .int (X12 (123 + 0) 12)) (C := RX3) (T := TX3) (N := 14) hx hb hts inX3 hown hK.1 (DR.mkB0 hR (c := 0) (by decide) (bS_3 (by decide))) 0 rfl rfl 12 (by decide) lk79 (fun _ h9 => h9) rfl dX3_copyFrom_148 ?_
  refine gm_put (v := .int (X12 (123 + 0) 12)) (ty := .int) (ci := 3) (C := RX3) (T := TX3) (N := 14) hx hb hts inX3 tyX3 tyX3_ok nmX3 hown hK.1 hR (injD hdis) hS (a := 0) (by decide) (adD_A (c := 0) (by decide)) ((bD_A (c := 0) (by decide)).trans (bS_3 (by decide))) rfl 12 (by decide) lk79 (fun _ h9 => h9) rfl (by decide +kernel) rfl rfl (Nat.le_of_ble_eq_true rfl) (j := 12) (x := X12 (123 + 0) 12) (by rw [(bD_A (c := 0) (by decide)).trans (bS_3 (by decide))]; rfl) dX3_copyFrom_151 (fun H locs hR hS => ?_)
  obtain ⟨X13, eX13⟩ : ∃ Y : gM, Y = updM X12 0 12 (X12 (123 + 0) 12) := ⟨_, rfl⟩
  rw [← eX13] at hR
  refine lv_aload_n hx hb dX3_copyFrom_154 rfl (lv_at hl 0 rfl) ?_
  refine lv_aload_n hx hb dX3_copyFrom_155 rfl (lv_at hl 1 rfl) ?_
  refine va_get (D := D) (ci := 3) (v := .int (X13 (123 + 0) 13)) (C := RX3) (T := TX3) (N := 14) hx hb hts inX3 hown hK.1 (DR.mkB0 hR (c := 0) (by decide) (bS_3 (by decide))) 0 rfl rfl 13 (by decide) lk82 (fun _ h9 => h9) rfl dX3_copyFrom_156 ?_
  refine gm_put (v := .int (X13 (123 + 0) 13)) (ty := .int) (ci := 3) (C := RX3) (T := TX3) (N := 14) hx hb hts inX3 tyX3 tyX3_ok nmX3 hown hK.1 hR (injD hdis) hS (a := 0) (by decide) (adD_A (c := 0) (by decide)) ((bD_A (c := 0) (by decide)).trans (bS_3 (by decide))) rfl 13 (by decide) lk82 (fun _ h9 => h9) rfl (by decide +kernel) rfl rfl (Nat.le_of_ble_eq_true rfl) (j := 13) (x := X13 (123 + 0) 13) (by rw [(bD_A (c := 0) (by decide)).trans (bS_3 (by decide))]; rfl) dX3_copyFrom_159 (fun H locs hR hS => ?_)
  obtain ⟨X14, eX14⟩ : ∃ Y : gM, Y = updM X13 0 13 (X13 (123 + 0) 13) := ⟨_, rfl⟩
  rw [← eX14] at hR
  exact gm_vret hx hb hr hlocks hS (by (try simp only [p_X3_copyFrom, ← eX1, ← eX2, ← eX5, ← eX6, ← eX7, ← eX8, ← eX9, ← eX10, ← eX11, ← eX12, ← eX13, ← eX14]); exact hR) dX3_copyFrom_162
theorem lf_X3_copyFrom_24_eq (K : gM → Nat → gM) : ∀ (j n : Nat) (Z : gM) (k : Nat), k + j = 40 → j < n → lf_X3_copyFrom_24 K n Z k = K (cpD Z (35 + 2 * k) (2 * j)) 40 := by
  intro j
  induction j with
  | zero =>
    intro n Z k hk hn
    obtain ⟨n, rfl⟩ : ∃ q, n = q + 1 := ⟨n - 1, by omega⟩
    obtain rfl : k = 40 := by omega
    unfold lf_X3_copyFrom_24
    rw [if_pos (by decide), Nat.mul_zero, cpD_0]
  | succ j ih =>
    intro n Z k hk hn
    obtain ⟨n, rfl⟩ : ∃ q, n = q + 1 := ⟨n - 1, by omega⟩
    unfold lf_X3_copyFrom_24
    rw [if_neg (show ¬ (40 : Int32) ≤ nI k from nI_ge (a := k) (b := 40) (by omega) (by decide))]
    dsimp only
    rw [ih n _ (k + 1) (by omega) (by omega), cpD_cp (n := 2) Z (by omega) (by omega)]
    rw [show 2 + 2 * j = 2 * (j + 1) by omega]
theorem lf_X3_copyFrom_53_eq (K : gM → Nat → gM) : ∀ (j n : Nat) (Z : gM) (k : Nat), k + j = 4 → j < n → lf_X3_copyFrom_53 K n Z k = K (cpD Z (115 + 2 * k) (2 * j)) 4 := by
  intro j
  induction j with
  | zero =>
    intro n Z k hk hn
    obtain ⟨n, rfl⟩ : ∃ q, n = q + 1 := ⟨n - 1, by omega⟩
    obtain rfl : k = 4 := by omega
    unfold lf_X3_copyFrom_53
    rw [if_pos (by decide), Nat.mul_zero, cpD_0]
  | succ j ih =>
    intro n Z k hk hn
    obtain ⟨n, rfl⟩ : ∃ q, n = q + 1 := ⟨n - 1, by omega⟩
    unfold lf_X3_copyFrom_53
    rw [if_neg (show ¬ (4 : Int32) ≤ nI k from nI_ge (a := k) (b := 4) (by omega) (by decide))]
    dsimp only
    rw [ih n _ (k + 1) (by omega) (by omega), cpD_cp (n := 2) Z (by omega) (by omega)]
    rw [show 2 + 2 * j = 2 * (j + 1) by omega]
theorem c_X3_copyFrom (l : Launch) (D : va_G) (cy : Nat → ClassId) (σ : Nat) (τ : Nat) (X : gM) (hdis : σ + 123 ≤ τ ∨ τ + 123 ≤ σ) : Met l yX3_copyFrom wsX3_copyFrom ({ frames := 3, cells := 0, slots := 0, locals := 69 }) (gP [.ref σ, .ref τ] D cy (DR D cy σ τ X)) (gQv (DR D cy σ τ (cpD X 0 123)) (DA σ τ)) 0 0 (DA σ τ) :=
  gMet_v (cr_X3_copyFrom l D cy σ τ X hdis) (fun H h => gRep.same h (by
    intro a ha
    have e0 : p_X3_copyFrom X = (fun X5 : gM => updM (updM (updM (updM (updM (updM (updM (updM (updM X5 0 5 (X5 123 5)) 0 6 (X5 123 6)) 0 7 (X5 123 7)) 0 8 (X5 123 8)) 0 9 (X5 123 9)) 0 10 (X5 123 10)) 0 11 (X5 123 11)) 0 12 (X5 123 12)) 0 13 (X5 123 13)) (cpD (cpD (cpD (cpD (cpD X 1 15) 16 15) 35 80) 115 8) 33 2) := by
      unfold p_X3_copyFrom
      dsimp only
      rw [lf_X3_copyFrom_24_eq _ 40 41 _ 0 (by omega) (by omega), lf_X3_copyFrom_53_eq _ 4 41 _ 0 (by omega) (by omega)]
      have hz : ¬ ((123 : Nat) = 0) := by omega
      simp only [updM, if_neg hz, Nat.mul_zero, Nat.add_zero]
    rw [e0]
    by_cases h1 : a = 0
    · subst h1
      rw [bD_A (by decide), bD_A (by decide), bS_3 (by decide), bS_3 (by decide)]
      simp [cpD, updM, upd]
    · by_cases h2 : a = 31
      · subst h2
        rw [bD_A (by decide), bD_A (by decide), bS_25 (by decide), bS_25 (by decide)]
      · by_cases h3 : a = 32
        · subst h3
          rw [bD_A (by decide), bD_A (by decide), bS_26 (by decide), bS_26 (by decide)]
        · congr 1
          simp only [updM, if_neg h1, cpD]
          repeat' split
          all_goals first | rfl | (exfalso; omega)))
