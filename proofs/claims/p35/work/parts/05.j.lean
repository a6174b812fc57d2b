def lf_X3_putOutRiders_2 (c1 : Nat) (K : (gM) → (Nat) → (gM)) : Nat → (gM) → (Nat) → (gM)
  | 0, Z, k_2 => K Z k_2
  | n + 1, Z, k_2 =>
    if Z c1 4 ≤ nI k_2 then
      K Z k_2
    else
      gOpt (f_X3_ticketOf Z (f_X0_riderIn Z c1 (nI k_2))) (
        lf_X3_putOutRiders_2 c1 K n Z (k_2 + 1)) (fun q3 =>
        let X1 := p_X1_write Z 33 8 (nI (nTic q3)) (nI (nLin c1)) (-5) (Z 0 7)
        let X2 := updM X1 0 12 ((X1 0 12) + (X1 q3 3))
        let X3 := p_X5_finish X2 q3 7 (-5) (X2 0 7)
        let X4 := p_X0_setRider X3 c1 (nI k_2) (-5)
        lf_X3_putOutRiders_2 c1 K n X4 (k_2 + 1))
def p_X3_putOutRiders (X : gM) (c1 : Nat) : gM :=
  lf_X3_putOutRiders_2 c1 (fun X1 k_2w1 =>
        X1) 2147483648 X 0
set_option maxHeartbeats 4000000 in
set_option maxRecDepth 100000 in
theorem lp_X3_putOutRiders_2 {p : Program} {l : Launch} {e : Env} {s : State} {m : MethodId} {args : Array Value} {below : List Frame} {meth : Method} {c0 : Code} {D : va_G} {cy : Nat → ClassId} (C : gCtx cX3_putOutRiders 4 none RX3 wsX3_putOutRiders D cy p s m args meth c0) (σ : Nat) (c1 : Nat) (hc1 : c1 < 123) (hk1 : kdS c1 = 0)
    (K : (gM) → (Nat) → (gM)) (hexit : ∀ (Z : gM) (k_2 : Nat), k_2 ≤ 2147483647 → ∀ (H : Heap) (locs : List Loc) (ls : Array Slot), SR D cy σ Z H → va_S (SA σ) s.heap H locs → lv_has ls 4 [(0, .ref σ), (1, .ref (σ + c1)), (2, .int (nI k_2))] → W p l e { frames := 2, cells := 0, slots := 0, locals := 44 } s m args below meth c0 H locs 0 0 (MQ below (gQv (SR D cy σ (K Z k_2)) (SA σ)) args s 0 0 (SA σ)) (F0 m 85 ls [])) :
    ∀ (n : Nat) (Z : gM) (k_2 : Nat), k_2 ≤ 2147483647 → 2147483647 < k_2 + n → ∀ (H : Heap) (locs : List Loc) (ls : Array Slot), SR D cy σ Z H → va_S (SA σ) s.heap H locs → lv_has ls 4 [(0, .ref σ), (1, .ref (σ + c1)), (2, .int (nI k_2))] → W p l e { frames := 2, cells := 0, slots := 0, locals := 44 } s m args below meth c0 H locs 0 0 (MQ below (gQv (SR D cy σ (lf_X3_putOutRiders_2 c1 K n Z k_2)) (SA σ)) args s 0 0 (SA σ)) (F0 m 2 ls []) := by
  obtain ⟨hx, hb, hr, hts, hown, hlocks, hml, hK⟩ := C
  have lk175 := hts (.fieldLink RX3 175 "MercuryLine$Line" "slots" "I") (by decide +kernel)
  have inX0 : ∀ w ∈ u_ws RX0 TX0 10, w ∈ wsX3_putOutRiders := by decide +kernel
  have lk38 := hts (.fieldLink RX3 38 "MercuryLine$State" "log" "LMercuryLine$Log;") (by decide +kernel)
  have inX3 : ∀ w ∈ u_ws RX3 TX3 14, w ∈ wsX3_putOutRiders := by decide +kernel
  have lk185 := hts (.fieldLink RX3 185 "MercuryLine$Ticket" "number" "I") (by decide +kernel)
  have inX5 : ∀ w ∈ u_ws RX5 TX5 14, w ∈ wsX3_putOutRiders := by decide +kernel
  have lk122 := hts (.fieldLink RX3 122 "MercuryLine$Line" "number" "I") (by decide +kernel)
  have lk70 := hts (.fieldLink RX3 70 "MercuryLine$State" "tick" "I") (by decide +kernel)
  have lk79 := hts (.fieldLink RX3 79 "MercuryLine$State" "refunded" "I") (by decide +kernel)
  have lk163 := hts (.fieldLink RX3 163 "MercuryLine$Ticket" "paid" "I") (by decide +kernel)
  intro n
  induction n with
  | zero =>
    intro Z k_2 hb_2 hme
    exact absurd hme (by omega)
  | succ n ih =>
    intro Z k_2 hb_2 hme H locs ls hR hS hl
    refine lv_iload_n hx hb dX3_putOutRiders_2 rfl (lv_at hl 2 rfl) ?_
    refine lv_aload_n hx hb dX3_putOutRiders_3 rfl (lv_at hl 1 rfl) ?_
    refine va_get (D := D) (ci := 0) (v := .int (Z c1 4)) (C := RX0) (T := TX0) (N := 10) hx hb hts inX0 hown hK.1 (SR.mk1 hR (c := c1) hc1 (bS_0 hk1)) 0 rfl rfl 4 (by decide) lk175 (fun _ h9 => h9) rfl dX3_putOutRiders_4 ?_
    refine lv_icmp_ge (tgt := 85) hx hb dX3_putOutRiders_7 (by decide) (fun c_1 => ?_) (fun c_1 => ?_)
    · refine gm_q (Q2 := MQ below (gQv (SR D cy σ (K Z k_2)) (SA σ)) args s 0 0 (SA σ)) (by simp only [lf_X3_putOutRiders_2, ↓if_pos c_1]) ?_
      exact hexit Z k_2 hb_2  _ _ _ hR hS (lv_sub hl [0, 1, 2] rfl)
    · have lt_2 : k_2 < 2147483647 := g_big (Nat.lt_of_le_of_lt hb_2 (by decide)) c_1
      refine lv_aload_n hx hb dX3_putOutRiders_10 rfl (lv_at hl 0 rfl) ?_
      refine lv_aload_n hx hb dX3_putOutRiders_11 rfl (lv_at hl 1 rfl) ?_
      refine lv_iload_n hx hb dX3_putOutRiders_12 rfl (lv_at hl 2 rfl) ?_
      refine gm_ci (gm_call (As := [.int (nI k_2)]) (rest := [.ref σ]) (ci := 0) (q := (RX0, TX0, 10)) ⟨hx, hb, hml, hown, hts⟩ hK (c_X0_riderIn l D cy σ Z c1 (nI k_2) hc1 hk1) (cwV 1 hts gX3_putOutRiders_X0_riderIn rfl rfl rfl (by decide +kernel) ⟨Nat.le_of_ble_eq_true rfl, Nat.le_of_ble_eq_true rfl⟩) (SR.mk1 hR (c := c1) hc1 (bS_0 hk1)) rfl hR rfl hl.1 rfl (Nat.le_of_ble_eq_true rfl) dX3_putOutRiders_13 (Nat.zero_le _) (Nat.zero_le _)) hS (fun _ h => h.elim) (fun H locs _ _ hfr hS => ?_)
      have hR := gRep.keep hR hfr (fun _ _ h => h)
      refine gm_cq (gm_call (As := [.int (f_X0_riderIn Z c1 (nI k_2))]) (rest := []) (ci := 3) (q := (RX3, TX3, 14)) ⟨hx, hb, hml, hown, hts⟩ hK (c_X3_ticketOf l D cy σ Z (f_X0_riderIn Z c1 (nI k_2))) (cwV 1 hts gX3_putOutRiders_X3_ticketOf rfl rfl rfl (by decide +kernel) ⟨Nat.le_of_ble_eq_true rfl, Nat.le_of_ble_eq_true rfl⟩) (SR.mk0 hR) rfl hR rfl hl.1 rfl (Nat.le_of_ble_eq_true rfl) dX3_putOutRiders_16 (Nat.zero_le _) (Nat.zero_le _)) hS (fun _ h => h.elim) (fun H locs _ _ hfr hS => ?_)
      have hR := gRep.keep hR hfr (fun _ _ h => h)
      rcases hq3 : f_X3_ticketOf Z (f_X0_riderIn Z c1 (nI k_2)) with _ | q3
      · refine W.eq (g2 := F0 m 19 ls [.null]) rfl ?_
        refine lv_astore_nN (lv' := [(3, .null), (0, .ref σ), (1, .ref (σ + c1)), (2, .int (nI k_2))]) hx hb dX3_putOutRiders_19 rfl hl (by decide) rfl (fun ls hl => ?_)
        refine lv_aload_nN hx hb dX3_putOutRiders_20 rfl (lv_at hl 0 rfl) ?_
        refine lv_ifnullN (tgt := 79) hx hb dX3_putOutRiders_21 (by decide) ?_
        refine lv_iinc (v := nI (k_2 + 1)) (lv' := [(2, .int (nI (k_2 + 1))), (3, .null), (0, .ref σ), (1, .ref (σ + c1))]) hx hb dX3_putOutRiders_79 hl (k := 3) rfl (nI_1 _) (by decide) rfl (fun ls hl => ?_)
        refine lv_goto (tgt := 2) hx hb dX3_putOutRiders_82 (by decide) ?_
        refine gm_q (Q2 := MQ below (gQv (SR D cy σ (lf_X3_putOutRiders_2 c1 K n Z (k_2 + 1))) (SA σ)) args s 0 0 (SA σ)) (by simp only [lf_X3_putOutRiders_2, ↓if_neg c_1, ↓gOpt_n hq3]) ?_
        exact ih Z (k_2 + 1) lt_2 (by omega) _ _ _ hR hS (lv_sub hl [2, 3, 0] rfl)
      · refine W.eq (g2 := F0 m 19 ls [.ref (σ + q3)]) rfl ?_
        refine lv_astore_n (lv' := [(3, .ref (σ + q3)), (0, .ref σ), (1, .ref (σ + c1)), (2, .int (nI k_2))]) hx hb dX3_putOutRiders_19 rfl hl (by decide) rfl (fun ls hl => ?_)
        refine lv_aload_n hx hb dX3_putOutRiders_20 rfl (lv_at hl 0 rfl) ?_
        refine lv_ifnull hx hb dX3_putOutRiders_21 ?_
        refine lv_aload_n hx hb dX3_putOutRiders_24 rfl (lv_at hl 1 rfl) ?_
        refine va_get (D := D) (ci := 3) (v := .ref (σ + 33)) (C := RX3) (T := TX3) (N := 14) hx hb hts inX3 hown hK.1 (SR.mk0 hR) 0 rfl rfl 4 (by decide) lk38 (fun _ h9 => h9) rfl dX3_putOutRiders_25 ?_
        refine lv_bipush (v := 8) hx hb dX3_putOutRiders_28 (by decide) ?_
        refine lv_aload_n hx hb dX3_putOutRiders_30 rfl (lv_at hl 0 rfl) ?_
        refine va_get (D := D) (ci := 5) (v := .int (nI (nTic q3))) (C := RX5) (T := TX5) (N := 14) hx hb hts inX5 hown hK.1 (SR.mk1 hR (c := q3) (fk_X3_ticketOf  hq3).1 (bS_5 (fk_X3_ticketOf  hq3).2)) 0 rfl rfl 0 (by decide) lk185 (fun _ h9 => h9) rfl dX3_putOutRiders_31 ?_
        refine lv_aload_n hx hb dX3_putOutRiders_34 rfl (lv_at hl 2 rfl) ?_
        refine va_get (D := D) (ci := 0) (v := .int (nI (nLin c1))) (C := RX0) (T := TX0) (N := 10) hx hb hts inX0 hown hK.1 (SR.mk1 hR (c := c1) hc1 (bS_0 hk1)) 0 rfl rfl 0 (by decide) lk122 (fun _ h9 => h9) rfl dX3_putOutRiders_35 ?_
        refine lv_bipush (v := (-5)) hx hb dX3_putOutRiders_38 (by decide) ?_
        refine lv_aload_n hx hb dX3_putOutRiders_40 rfl (lv_at hl 1 rfl) ?_
        refine va_get (D := D) (ci := 3) (v := .int (Z 0 7)) (C := RX3) (T := TX3) (N := 14) hx hb hts inX3 hown hK.1 (SR.mk0 hR) 0 rfl rfl 7 (by decide) lk70 (fun _ h9 => h9) rfl dX3_putOutRiders_41 ?_
        refine gm_cv (gm_call (As := [.int 8, .int (nI (nTic q3)), .int (nI (nLin c1)), .int (-5), .int (Z 0 7)]) (rest := []) (ci := 1) (q := (RX1, TX1, 3)) ⟨hx, hb, hml, hown, hts⟩ hK (c_X1_write l D cy σ Z 33 8 (nI (nTic q3)) (nI (nLin c1)) (-5) (Z 0 7) (by decide) (by decide)) (cwV 5 hts gX3_putOutRiders_X1_write rfl rfl rfl (by decide +kernel) ⟨Nat.le_of_ble_eq_true rfl, Nat.le_of_ble_eq_true rfl⟩) (SR.mk1 hR (c := 33) (by decide) (bS_1 (by decide))) rfl hR rfl hl.1 rfl (Nat.le_of_ble_eq_true rfl) dX3_putOutRiders_44 (Nat.zero_le _) (Nat.zero_le _)) hS (fun _ h => h) (fun H locs hR _ _ hS => ?_)
        obtain ⟨X1, eX1⟩ : ∃ Y : gM, Y = p_X1_write Z 33 8 (nI (nTic q3)) (nI (nLin c1)) (-5) (Z 0 7) := ⟨_, rfl⟩
        rw [← eX1] at hR
        refine lv_aload_n hx hb dX3_putOutRiders_47 rfl (lv_at hl 1 rfl) ?_
        refine lv_dup hx hb dX3_putOutRiders_48 rfl ?_
        refine va_get (D := D) (ci := 3) (v := .int (X1 0 12)) (C := RX3) (T := TX3) (N := 14) hx hb hts inX3 hown hK.1 (SR.mk0 hR) 0 rfl rfl 12 (by decide) lk79 (fun _ h9 => h9) rfl dX3_putOutRiders_49 ?_
        refine lv_aload_n hx hb dX3_putOutRiders_52 rfl (lv_at hl 0 rfl) ?_
        refine va_get (D := D) (ci := 5) (v := .int (X1 q3 3)) (C := RX5) (T := TX5) (N := 14) hx hb hts inX5 hown hK.1 (SR.mk1 hR (c := q3) (fk_X3_ticketOf  hq3).1 (bS_5 (fk_X3_ticketOf  hq3).2)) 0 rfl rfl 3 (by decide) lk163 (fun _ h9 => h9) rfl dX3_putOutRiders_53 ?_
        refine lv_iadd hx hb dX3_putOutRiders_56 ?_
        refine gm_put (v := .int ((X1 0 12) + (X1 q3 3))) (ty := .int) (ci := 3) (C := RX3) (T := TX3) (N := 14) hx hb hts inX3 tyX3 tyX3_ok nmX3 hown hK.1 hR injS hS (a := 0) (by decide) rfl (bS_3 (by decide)) rfl 12 (by decide) lk79 (fun _ h9 => h9) rfl (by decide +kernel) rfl rfl (Nat.le_of_ble_eq_true rfl) (j := 12) (x := (X1 0 12) + (X1 q3 3)) (by rw [bS_3 (by decide)]; rfl) dX3_putOutRiders_57 (fun H locs hR hS => ?_)
        obtain ⟨X2, eX2⟩ : ∃ Y : gM, Y = updM X1 0 12 ((X1 0 12) + (X1 q3 3)) := ⟨_, rfl⟩
        rw [← eX2] at hR
        refine lv_aload_n hx hb dX3_putOutRiders_60 rfl (lv_at hl 0 rfl) ?_
        refine lv_bipush (v := 7) hx hb dX3_putOutRiders_61 (by decide) ?_
        refine lv_bipush (v := (-5)) hx hb dX3_putOutRiders_63 (by decide) ?_
        refine lv_aload_n hx hb dX3_putOutRiders_65 rfl (lv_at hl 1 rfl) ?_
        refine va_get (D := D) (ci := 3) (v := .int (X2 0 7)) (C := RX3) (T := TX3) (N := 14) hx hb hts inX3 hown hK.1 (SR.mk0 hR) 0 rfl rfl 7 (by decide) lk70 (fun _ h9 => h9) rfl dX3_putOutRiders_66 ?_
        refine gm_cv (gm_call (As := [.int 7, .int (-5), .int (X2 0 7)]) (rest := []) (ci := 5) (q := (RX5, TX5, 14)) ⟨hx, hb, hml, hown, hts⟩ hK (c_X5_finish l D cy σ X2 q3 7 (-5) (X2 0 7) (fk_X3_ticketOf  hq3).1 (fk_X3_ticketOf  hq3).2) (cwV 3 hts gX3_putOutRiders_X5_finish rfl rfl rfl (by decide +kernel) ⟨Nat.le_of_ble_eq_true rfl, Nat.le_of_ble_eq_true rfl⟩) (SR.mk1 hR (c := q3) (fk_X3_ticketOf  hq3).1 (bS_5 (fk_X3_ticketOf  hq3).2)) rfl hR rfl hl.1 rfl (Nat.le_of_ble_eq_true rfl) dX3_putOutRiders_69 (Nat.zero_le _) (Nat.zero_le _)) hS (fun _ h => h) (fun H locs hR _ _ hS => ?_)
        obtain ⟨X3, eX3⟩ : ∃ Y : gM, Y = p_X5_finish X2 q3 7 (-5) (X2 0 7) := ⟨_, rfl⟩
        rw [← eX3] at hR
        refine lv_aload_n hx hb dX3_putOutRiders_72 rfl (lv_at hl 2 rfl) ?_
        refine lv_iload_n hx hb dX3_putOutRiders_73 rfl (lv_at hl 3 rfl) ?_
        refine lv_bipush (v := (-5)) hx hb dX3_putOutRiders_74 (by decide) ?_
        refine gm_cv (gm_call (As := [.int (nI k_2), .int (-5)]) (rest := []) (ci := 0) (q := (RX0, TX0, 10)) ⟨hx, hb, hml, hown, hts⟩ hK (c_X0_setRider l D cy σ X3 c1 (nI k_2) (-5) hc1 hk1) (cwV 2 hts gX3_putOutRiders_X0_setRider rfl rfl rfl (by decide +kernel) ⟨Nat.le_of_ble_eq_true rfl, Nat.le_of_ble_eq_true rfl⟩) (SR.mk1 hR (c := c1) hc1 (bS_0 hk1)) rfl hR rfl hl.1 rfl (Nat.le_of_ble_eq_true rfl) dX3_putOutRiders_76 (Nat.zero_le _) (Nat.zero_le _)) hS (fun _ h => h) (fun H locs hR _ _ hS => ?_)
        obtain ⟨X4, eX4⟩ : ∃ Y : gM, Y = p_X0_setRider X3 c1 (nI k_2) (-5) := ⟨_, rfl⟩
        rw [← eX4] at hR
        refine lv_iinc (v := nI (k_2 + 1)) (lv' := [(2, .int (nI (k_2 + 1))), (3, .ref (σ + q3)), (0, .ref σ), (1, .ref (σ + c1))]) hx hb dX3_putOutRiders_79 hl (k := 3) rfl (nI_1 _) (by decide) rfl (fun ls hl => ?_)
        refine lv_goto (tgt := 2) hx hb dX3_putOutRiders_82 (by decide) ?_
        refine gm_q (Q2 := MQ below (gQv (SR D cy σ (lf_X3_putOutRiders_2 c1 K n X4 (k_2 + 1))) (SA σ)) args s 0 0 (SA σ)) (by simp only [lf_X3_putOutRiders_2, ↓if_neg c_1, ↓gOpt_s hq3, ← eX1, ← eX2, ← eX3, ← eX4]) ?_
        exact ih X4 (k_2 + 1) lt_2 (by omega) _ _ _ hR hS (lv_sub hl [2, 3, 0] rfl)
set_option maxHeartbeats 4000000 in
set_option maxRecDepth 100000 in
theorem c_X3_putOutRiders (l : Launch) (D : va_G) (cy : Nat → ClassId) (σ : Nat) (X : gM) (c1 : Nat) (hc1 : c1 < 123) (hk1 : kdS c1 = 0) : Met l yX3_putOutRiders wsX3_putOutRiders ({ frames := 2, cells := 0, slots := 0, locals := 44 }) (gP [.ref σ, .ref (σ + c1)] D cy (SR D cy σ X)) (gQv (SR D cy σ (p_X3_putOutRiders X c1)) (SA σ)) 0 0 (SA σ) := by
  refine gm_met (cc := cX3_putOutRiders) (maxL := 4) (ret := none) [.ref σ, .ref (σ + c1)] (by decide) rfl (Nat.le_of_ble_eq_true rfl) ?_
  intro p e s m args below meth c0 ls C hR hl
  obtain ⟨hx, hb, hr, hts, hown, hlocks, hml, hK⟩ := C
  have hl : lv_has ls 4 [(0, .ref σ), (1, .ref (σ + c1))] := hl
  have hS : va_S (SA σ) s.heap s.heap [] := va_S.rf
  refine lv_iconst (v := 0) hx hb dX3_putOutRiders_0 (by decide) ?_
  refine lv_istore_n (lv' := [(2, .int 0), (0, .ref σ), (1, .ref (σ + c1))]) hx hb dX3_putOutRiders_1 rfl hl (by decide) rfl (fun ls hl => ?_)
  refine gm_q (Q2 := MQ below (gQv (SR D cy σ (lf_X3_putOutRiders_2 c1 (fun X1 k_2w1 =>
        X1) 2147483648 X 0)) (SA σ)) args s 0 0 (SA σ)) (by simp only [p_X3_putOutRiders]) ?_
  refine lp_X3_putOutRiders_2 ⟨hx, hb, hr, hts, hown, hlocks, hml, hK⟩ σ c1 hc1 hk1 _ (fun X1 k_2w1 hbk_2w1 H locs ls hR hS hl => ?_) 2147483648 X 0 (by decide) (by omega) _ _ _ hR hS (lv_sub hl [1, 2, 0] rfl)
  exact gm_vret hx hb hr hlocks hS (by (try simp only [p_X3_putOutRiders]); exact hR) dX3_putOutRiders_85
