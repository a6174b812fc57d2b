def p_X8_trialLine (X : gM) (a1 : Int32) : Nat × gM :=
  let X1 := putS X 2 (cpL (vw 2 X) (vw 0 X) (f_X3_lineOf (vw 2 X) a1))
  (f_X3_lineOf (vw 2 X) a1, X1)
set_option maxHeartbeats 4000000 in
set_option maxRecDepth 100000 in
theorem c_X8_trialLine (l : Launch) (D : va_G) (cy : Nat → ClassId) (β : Nat) (X : gM) (a1 : Int32)  : Met l yX8_trialLine wsX8_trialLine ({ frames := 3, cells := 0, slots := 0, locals := 69 }) (gP [.ref β, .int a1] D cy (TR D cy β X)) (gQq (some (β + off 2 + (p_X8_trialLine X a1).1)) (TR D cy β (p_X8_trialLine X a1).2) (TA β)) 0 0 (TA β) := by
  refine gm_met (cc := cX8_trialLine) (maxL := 3) (ret := (some (.object "MercuryLine$Line"))) [.ref β, .int a1] (by decide) rfl (Nat.le_of_ble_eq_true rfl) ?_
  intro p e s m args below meth c0 ls C hR hl
  obtain ⟨hx, hb, hr, hts, hown, hlocks, hml, hK⟩ := C
  have hl : lv_has ls 3 [(0, .ref β), (1, .int a1)] := hl
  have hS : va_S (TA β) s.heap s.heap [] := va_S.rf
  have lk19 := hts (.fieldLink RX8 19 "MercuryLine" "trial" "LMercuryLine$State;") (by decide +kernel)
  have inX8 : ∀ w ∈ u_ws RX8 TX8 8, w ∈ wsX8_trialLine := by decide +kernel
  have lk10 := hts (.fieldLink RX8 10 "MercuryLine" "now" "LMercuryLine$State;") (by decide +kernel)
  refine lv_aload_n hx hb dX8_trialLine_0 rfl (lv_at hl 0 rfl) ?_
  refine va_get (D := D) (ci := 8) (v := .ref (β + off 2)) (C := RX8) (T := TX8) (N := 8) hx hb hts inX8 hown hK.1 (TR.mk0 hR) 0 rfl rfl 2 (by decide) lk19 (fun _ h9 => h9) rfl dX8_trialLine_1 ?_
  refine lv_iload_n hx hb dX8_trialLine_4 rfl (lv_at hl 1 rfl) ?_
  refine gm_cq (gm_call (As := [.int a1]) (rest := []) (ci := 3) (q := (RX3, TX3, 14)) ⟨hx, hb, hml, hown, hts⟩ hK (c_X3_lineOf l D cy (β + off 2) (vw 2 X) a1) (cwV 1 hts gX8_trialLine_X3_lineOf rfl rfl rfl (by decide +kernel) ⟨Nat.le_of_ble_eq_true rfl, Nat.le_of_ble_eq_true rfl⟩) (SR.mk0 (TR.st hR (by decide))) rfl (TR.st hR (by decide)) rfl hl.1 rfl (Nat.le_of_ble_eq_true rfl) dX8_trialLine_5 (Nat.zero_le _) (Nat.zero_le _)) hS (fun _ h => h.elim) (fun H locs _ _ hfr hS => ?_)
  have hR := gRep.keep hR hfr (fun _ _ h => h)
  refine W.eq (g2 := F0 m 8 ls [.ref (β + off 2 + (f_X3_lineOf (vw 2 X) a1))]) rfl ?_
  refine lv_astore_n (lv' := [(2, .ref (β + off 2 + (f_X3_lineOf (vw 2 X) a1))), (0, .ref β), (1, .int a1)]) hx hb dX8_trialLine_8 rfl hl (by decide) rfl (fun ls hl => ?_)
  refine lv_aload_n hx hb dX8_trialLine_9 rfl (lv_at hl 0 rfl) ?_
  refine lv_aload_n hx hb dX8_trialLine_10 rfl (lv_at hl 1 rfl) ?_
  refine va_get (D := D) (ci := 8) (v := .ref (β + off 0)) (C := RX8) (T := TX8) (N := 8) hx hb hts inX8 hown hK.1 (TR.mk0 hR) 0 rfl rfl 0 (by decide) lk10 (fun _ h9 => h9) rfl dX8_trialLine_11 ?_
  refine lv_iload_n hx hb dX8_trialLine_14 rfl (lv_at hl 2 rfl) ?_
  refine gm_cq (gm_call (As := [.int a1]) (rest := [.ref (β + off 2 + (f_X3_lineOf (vw 2 X) a1))]) (ci := 3) (q := (RX3, TX3, 14)) ⟨hx, hb, hml, hown, hts⟩ hK (c_X3_lineOf l D cy (β + off 0) (vw 0 X) a1) (cwV 1 hts gX8_trialLine_X3_lineOf rfl rfl rfl (by decide +kernel) ⟨Nat.le_of_ble_eq_true rfl, Nat.le_of_ble_eq_true rfl⟩) (SR.mk0 (TR.st hR (by decide))) rfl (TR.st hR (by decide)) rfl hl.1 rfl (Nat.le_of_ble_eq_true rfl) dX8_trialLine_15 (Nat.zero_le _) (Nat.zero_le _)) hS (fun _ h => h.elim) (fun H locs _ _ hfr hS => ?_)
  have hR := gRep.keep hR hfr (fun _ _ h => h)
  refine W.eq (g2 := F0 m 18 ls [.ref (β + off 0 + (f_X3_lineOf (vw 0 X) a1)), .ref (β + off 2 + (f_X3_lineOf (vw 2 X) a1))]) rfl ?_
  refine gm_cv (gm_call (As := [.ref (β + off 0 + (f_X3_lineOf (vw 0 X) a1))]) (rest := []) (ci := 0) (q := (RX0, TX0, 10)) ⟨hx, hb, hml, hown, hts⟩ hK (c_X0_copy l D cy (β + off 2) (β + off 0) (vw 2 X) (vw 0 X) (f_X3_lineOf (vw 2 X) a1) (by have q9 := off_ne (j := 2) (k := 0) (show (2 : Nat) ≠ 0 by decide); omega) (fk_X3_lineOf (vw 2 X) a1).1 (fk_X3_lineOf (vw 2 X) a1).2) (cwV 1 hts gX8_trialLine_X0_copyFrom rfl rfl rfl (by decide +kernel) ⟨Nat.le_of_ble_eq_true rfl, Nat.le_of_ble_eq_true rfl⟩) (SR.mk1 (TR.st hR (by decide)) (c := f_X3_lineOf (vw 2 X) a1) (fk_X3_lineOf (vw 2 X) a1).1 (bS_0 (fk_X3_lineOf (vw 2 X) a1).2)) rfl ⟨TR.st hR (by decide), TR.st hR (by decide)⟩ rfl hl.1 rfl (Nat.le_of_ble_eq_true rfl) dX8_trialLine_18 (Nat.zero_le _) (Nat.zero_le _)) hS (TA_D (by decide) (by decide)) (fun H locs hRR _ hfr hS => ?_)
  have hR := TR.mrgD hR (by decide) (by decide) hRR (show (2 : Nat) ≠ 0 by decide) hfr
  obtain ⟨X1, eX1⟩ : ∃ Y : gM, Y = putS X 2 (cpL (vw 2 X) (vw 0 X) (f_X3_lineOf (vw 2 X) a1)) := ⟨_, rfl⟩
  rw [← eX1] at hR
  refine lv_aload_n hx hb dX8_trialLine_21 rfl (lv_at hl 0 rfl) ?_
  exact gm_aret hx hb hr hlocks hS (by (try simp only [p_X8_trialLine, ← eX1]); (try rfl)) (by (try simp only [p_X8_trialLine, ← eX1]); exact hR) dX8_trialLine_22
theorem fk_X8_trialLine (X : gM) (a : Int32) : (p_X8_trialLine X a).1 < 123 ∧ kdS (p_X8_trialLine X a).1 = 0 := by
  unfold p_X8_trialLine
  exact fk_X3_lineOf (vw 2 X) a
def lf_X8_fewestLaps_12 (a1 : Int32) (a2 : Int32) (c3 : Nat) (y_3 : Int32) (K : (gM) → (Int32) → (Nat) → (Int32 × gM)) : Nat → (gM) → (Int32) → (Nat) → (Int32 × gM)
  | 0, Z, x_4, k_5 => K Z x_4 k_5
  | n + 1, Z, x_4, k_5 =>
    if 300 < nI k_5 then
      K Z x_4 k_5
    else
      let X1 := (p_X0_advance Z c3).2
      if f_X0_slotAt X1 c3 a2 = y_3 then
        (x_4, X1)
      else
        if f_X0_slotAt X1 c3 a1 = y_3 then
          if x_4 + 1 ≤ 9 then
            lf_X8_fewestLaps_12 a1 a2 c3 y_3 K n X1 (x_4 + 1) (k_5 + 1)
          else
            ((-5), X1)
        else
          if x_4 ≤ 9 then
            lf_X8_fewestLaps_12 a1 a2 c3 y_3 K n X1 x_4 (k_5 + 1)
          else
            ((-5), X1)
def p_X8_fewestLaps (X : gM) (a1 : Int32) (a2 : Int32) (c3 : Nat) : Int32 × gM :=
  lf_X8_fewestLaps_12 a1 a2 c3 (f_X0_slotAt X c3 a1) (fun X1 x_4w1 k_5w1 =>
        ((-5), X1)) 302 X 1 1
set_option maxHeartbeats 4000000 in
set_option maxRecDepth 100000 in
theorem lp_X8_fewestLaps_12 {p : Program} {l : Launch} {e : Env} {s : State} {m : MethodId} {args : Array Value} {below : List Frame} {meth : Method} {c0 : Code} {D : va_G} {cy : Nat → ClassId} (C : gCtx cX8_fewestLaps 6 (some .int) RX8 wsX8_fewestLaps D cy p s m args meth c0) (σ : Nat) (a1 : Int32) (a2 : Int32) (c3 : Nat) (y_3 : Int32) (hc3 : c3 < 123) (hk3 : kdS c3 = 0)
    (K : (gM) → (Int32) → (Nat) → (Int32 × gM)) (hexit : ∀ (Z : gM) (x_4 : Int32) (k_5 : Nat), k_5 ≤ 301 → ∀ (H : Heap) (locs : List Loc) (ls : Array Slot), SR D cy σ Z H → va_S (SA σ) s.heap H locs → lv_has ls 6 [(0, .int a1), (1, .int a2), (2, .ref (σ + c3)), (3, .int y_3), (4, .int x_4), (5, .int (nI k_5))] → W p l e { frames := 2, cells := 0, slots := 0, locals := 42 } s m args below meth c0 H locs 0 0 (MQ below (gQi (K Z x_4 k_5).1 (SR D cy σ (K Z x_4 k_5).2) (SA σ)) args s 0 0 (SA σ)) (F0 m 65 ls [])) :
    ∀ (n : Nat) (Z : gM) (x_4 : Int32) (k_5 : Nat), k_5 ≤ 301 → 301 < k_5 + n → ∀ (H : Heap) (locs : List Loc) (ls : Array Slot), SR D cy σ Z H → va_S (SA σ) s.heap H locs → lv_has ls 6 [(0, .int a1), (1, .int a2), (2, .ref (σ + c3)), (3, .int y_3), (4, .int x_4), (5, .int (nI k_5))] → W p l e { frames := 2, cells := 0, slots := 0, locals := 42 } s m args below meth c0 H locs 0 0 (MQ below (gQi (lf_X8_fewestLaps_12 a1 a2 c3 y_3 K n Z x_4 k_5).1 (SR D cy σ (lf_X8_fewestLaps_12 a1 a2 c3 y_3 K n Z x_4 k_5).2) (SA σ)) args s 0 0 (SA σ)) (F0 m 12 ls []) := by
  obtain ⟨hx, hb, hr, hts, hown, hlocks, hml, hK⟩ := C
  intro n
  induction n with
  | zero =>
    intro Z x_4 k_5 hb_5 hme
    exact absurd hme (by omega)
  | succ n ih =>
    intro Z x_4 k_5 hb_5 hme H locs ls hR hS hl
    refine lv_iload hx hb dX8_fewestLaps_12 (lv_at hl 5 rfl) ?_
    refine lv_sipush (v := 300) hx hb dX8_fewestLaps_14 (by decide) ?_
    refine lv_icmp_gt (tgt := 65) hx hb dX8_fewestLaps_17 (by decide) (fun c_1 => ?_) (fun c_1 => ?_)
    · refine gm_q (Q2 := MQ below (gQi (K Z x_4 k_5).1 (SR D cy σ (K Z x_4 k_5).2) (SA σ)) args s 0 0 (SA σ)) (by simp only [lf_X8_fewestLaps_12, ↓if_pos c_1]) ?_
      exact hexit Z x_4 k_5 hb_5  _ _ _ hR hS (lv_sub hl [0, 1, 2, 3, 4, 5] rfl)
    · have lt_2 : k_5 < 301 := g_le (Nat.lt_of_le_of_lt hb_5 (by decide)) (by decide) c_1
      refine lv_aload_n hx hb dX8_fewestLaps_20 rfl (lv_at hl 2 rfl) ?_
      refine gm_ci (gm_call (As := []) (rest := []) (ci := 0) (q := (RX0, TX0, 10)) ⟨hx, hb, hml, hown, hts⟩ hK (c_X0_advance l D cy σ Z c3 hc3 hk3) (cwV 0 hts gX8_fewestLaps_X0_advance rfl rfl rfl (by decide +kernel) ⟨Nat.le_of_ble_eq_true rfl, Nat.le_of_ble_eq_true rfl⟩) (SR.mk1 hR (c := c3) hc3 (bS_0 hk3)) rfl hR rfl hl.1 rfl (Nat.le_of_ble_eq_true rfl) dX8_fewestLaps_21 (Nat.zero_le _) (Nat.zero_le _)) hS (fun _ h => h) (fun H locs hR _ _ hS => ?_)
      obtain ⟨X1, eX1⟩ : ∃ Y : gM, Y = (p_X0_advance Z c3).2 := ⟨_, rfl⟩
      rw [← eX1] at hR
      refine lv_pop hx hb dX8_fewestLaps_24 rfl ?_
      refine lv_aload_n hx hb dX8_fewestLaps_25 rfl (lv_at hl 2 rfl) ?_
      refine lv_iload_n hx hb dX8_fewestLaps_26 rfl (lv_at hl 1 rfl) ?_
      refine gm_ci (gm_call (As := [.int a2]) (rest := []) (ci := 0) (q := (RX0, TX0, 10)) ⟨hx, hb, hml, hown, hts⟩ hK (c_X0_slotAt l D cy σ X1 c3 a2 hc3 hk3) (cwV 1 hts gX8_fewestLaps_X0_slotAt rfl rfl rfl (by decide +kernel) ⟨Nat.le_of_ble_eq_true rfl, Nat.le_of_ble_eq_true rfl⟩) (SR.mk1 hR (c := c3) hc3 (bS_0 hk3)) rfl hR rfl hl.1 rfl (Nat.le_of_ble_eq_true rfl) dX8_fewestLaps_27 (Nat.zero_le _) (Nat.zero_le _)) hS (fun _ h => h.elim) (fun H locs _ _ hfr hS => ?_)
      have hR := gRep.keep hR hfr (fun _ _ h => h)
      refine lv_iload_n hx hb dX8_fewestLaps_30 rfl (lv_at hl 3 rfl) ?_
      refine lv_icmp_ne (tgt := 37) hx hb dX8_fewestLaps_31 (by decide) (fun c_3 => ?_) (fun c_3 => ?_)
      · refine lv_aload_n hx hb dX8_fewestLaps_37 rfl (lv_at hl 2 rfl) ?_
        refine lv_iload_n hx hb dX8_fewestLaps_38 rfl (lv_at hl 0 rfl) ?_
        refine gm_ci (gm_call (As := [.int a1]) (rest := []) (ci := 0) (q := (RX0, TX0, 10)) ⟨hx, hb, hml, hown, hts⟩ hK (c_X0_slotAt l D cy σ X1 c3 a1 hc3 hk3) (cwV 1 hts gX8_fewestLaps_X0_slotAt rfl rfl rfl (by decide +kernel) ⟨Nat.le_of_ble_eq_true rfl, Nat.le_of_ble_eq_true rfl⟩) (SR.mk1 hR (c := c3) hc3 (bS_0 hk3)) rfl hR rfl hl.1 rfl (Nat.le_of_ble_eq_true rfl) dX8_fewestLaps_39 (Nat.zero_le _) (Nat.zero_le _)) hS (fun _ h => h.elim) (fun H locs _ _ hfr hS => ?_)
        have hR := gRep.keep hR hfr (fun _ _ h => h)
        refine lv_iload_n hx hb dX8_fewestLaps_42 rfl (lv_at hl 3 rfl) ?_
        refine lv_icmp_ne (tgt := 49) hx hb dX8_fewestLaps_43 (by decide) (fun c_4 => ?_) (fun c_4 => ?_)
        · refine lv_iload hx hb dX8_fewestLaps_49 (lv_at hl 4 rfl) ?_
          refine lv_bipush (v := 9) hx hb dX8_fewestLaps_51 (by decide) ?_
          refine lv_icmp_le (tgt := 59) hx hb dX8_fewestLaps_53 (by decide) (fun c_5 => ?_) (fun c_5 => ?_)
          · refine lv_iinc (v := nI (k_5 + 1)) (lv' := [(5, .int (nI (k_5 + 1))), (0, .int a1), (1, .int a2), (2, .ref (σ + c3)), (3, .int y_3), (4, .int x_4)]) hx hb dX8_fewestLaps_59 hl (k := 5) rfl (nI_1 _) (by decide) rfl (fun ls hl => ?_)
            refine lv_goto (tgt := 12) hx hb dX8_fewestLaps_62 (by decide) ?_
            refine gm_q (Q2 := MQ below (gQi (lf_X8_fewestLaps_12 a1 a2 c3 y_3 K n X1 x_4 (k_5 + 1)).1 (SR D cy σ (lf_X8_fewestLaps_12 a1 a2 c3 y_3 K n X1 x_4 (k_5 + 1)).2) (SA σ)) args s 0 0 (SA σ)) (by simp only [lf_X8_fewestLaps_12, ↓if_neg c_1, ↓if_neg c_3, ↓if_neg c_4, ↓if_pos c_5, ← eX1]) ?_
            exact ih X1 x_4 (k_5 + 1) lt_2 (by omega) _ _ _ hR hS (lv_sub hl [1, 2, 3, 4, 5, 0] rfl)
          · refine lv_bipush (v := (-5)) hx hb dX8_fewestLaps_56 (by decide) ?_
            exact gm_iret hx hb hr hlocks hS (by (try simp only [lf_X8_fewestLaps_12, ↓if_neg c_1, ↓if_neg c_3, ↓if_neg c_4, ↓if_neg c_5, ← eX1]); (try rfl)) (by (try simp only [lf_X8_fewestLaps_12, ↓if_neg c_1, ↓if_neg c_3, ↓if_neg c_4, ↓if_neg c_5, ← eX1]); exact hR) dX8_fewestLaps_58
        · refine lv_iinc (v := x_4 + 1) (lv' := [(4, .int (x_4 + 1)), (0, .int a1), (1, .int a2), (2, .ref (σ + c3)), (3, .int y_3), (5, .int (nI k_5))]) hx hb dX8_fewestLaps_46 hl (k := 4) rfl rfl (by decide) rfl (fun ls hl => ?_)
          refine lv_iload hx hb dX8_fewestLaps_49 (lv_at hl 0 rfl) ?_
          refine lv_bipush (v := 9) hx hb dX8_fewestLaps_51 (by decide) ?_
          refine lv_icmp_le (tgt := 59) hx hb dX8_fewestLaps_53 (by decide) (fun c_6 => ?_) (fun c_6 => ?_)
          · refine lv_iinc (v := nI (k_5 + 1)) (lv' := [(5, .int (nI (k_5 + 1))), (4, .int (x_4 + 1)), (0, .int a1), (1, .int a2), (2, .ref (σ + c3)), (3, .int y_3)]) hx hb dX8_fewestLaps_59 hl (k := 5) rfl (nI_1 _) (by decide) rfl (fun ls hl => ?_)
            refine lv_goto (tgt := 12) hx hb dX8_fewestLaps_62 (by decide) ?_
            refine gm_q (Q2 := MQ below (gQi (lf_X8_fewestLaps_12 a1 a2 c3 y_3 K n X1 (x_4 + 1) (k_5 + 1)).1 (SR D cy σ (lf_X8_fewestLaps_12 a1 a2 c3 y_3 K n X1 (x_4 + 1) (k_5 + 1)).2) (SA σ)) args s 0 0 (SA σ)) (by simp only [lf_X8_fewestLaps_12, ↓if_neg c_1, ↓if_neg c_3, ↓if_pos c_4, ↓if_pos c_6, ← eX1]) ?_
            exact ih X1 (x_4 + 1) (k_5 + 1) lt_2 (by omega) _ _ _ hR hS (lv_sub hl [2, 3, 4, 5, 1, 0] rfl)
          · refine lv_bipush (v := (-5)) hx hb dX8_fewestLaps_56 (by decide) ?_
            exact gm_iret hx hb hr hlocks hS (by (try simp only [lf_X8_fewestLaps_12, ↓if_neg c_1, ↓if_neg c_3, ↓if_pos c_4, ↓if_neg c_6, ← eX1]); (try rfl)) (by (try simp only [lf_X8_fewestLaps_12, ↓if_neg c_1, ↓if_neg c_3, ↓if_pos c_4, ↓if_neg c_6, ← eX1]); exact hR) dX8_fewestLaps_58
      · refine lv_iload hx hb dX8_fewestLaps_34 (lv_at hl 4 rfl) ?_
        exact gm_iret hx hb hr hlocks hS (by (try simp only [lf_X8_fewestLaps_12, ↓if_neg c_1, ↓if_pos c_3, ← eX1]); (try rfl)) (by (try simp only [lf_X8_fewestLaps_12, ↓if_neg c_1, ↓if_pos c_3, ← eX1]); exact hR) dX8_fewestLaps_36
set_option maxHeartbeats 4000000 in
set_option maxRecDepth 100000 in
theorem c_X8_fewestLaps (l : Launch) (D : va_G) (cy : Nat → ClassId) (σ : Nat) (X : gM) (a1 : Int32) (a2 : Int32) (c3 : Nat) (hc3 : c3 < 123) (hk3 : kdS c3 = 0) : Met l yX8_fewestLaps wsX8_fewestLaps ({ frames := 2, cells := 0, slots := 0, locals := 42 }) (gP [.int a1, .int a2, .ref (σ + c3)] D cy (SR D cy σ X)) (gQi (p_X8_fewestLaps X a1 a2 c3).1 (SR D cy σ (p_X8_fewestLaps X a1 a2 c3).2) (SA σ)) 0 0 (SA σ) := by
  refine gm_met (cc := cX8_fewestLaps) (maxL := 6) (ret := (some .int)) [.int a1, .int a2, .ref (σ + c3)] (by decide) rfl (Nat.le_of_ble_eq_true rfl) ?_
  intro p e s m args below meth c0 ls C hR hl
  obtain ⟨hx, hb, hr, hts, hown, hlocks, hml, hK⟩ := C
  have hl : lv_has ls 6 [(0, .int a1), (1, .int a2), (2, .ref (σ + c3))] := hl
  have hS : va_S (SA σ) s.heap s.heap [] := va_S.rf
  refine lv_aload_n hx hb dX8_fewestLaps_0 rfl (lv_at hl 2 rfl) ?_
  refine lv_iload_n hx hb dX8_fewestLaps_1 rfl (lv_at hl 0 rfl) ?_
  refine gm_ci (gm_call (As := [.int a1]) (rest := []) (ci := 0) (q := (RX0, TX0, 10)) ⟨hx, hb, hml, hown, hts⟩ hK (c_X0_slotAt l D cy σ X c3 a1 hc3 hk3) (cwV 1 hts gX8_fewestLaps_X0_slotAt rfl rfl rfl (by decide +kernel) ⟨Nat.le_of_ble_eq_true rfl, Nat.le_of_ble_eq_true rfl⟩) (SR.mk1 hR (c := c3) hc3 (bS_0 hk3)) rfl hR rfl hl.1 rfl (Nat.le_of_ble_eq_true rfl) dX8_fewestLaps_2 (Nat.zero_le _) (Nat.zero_le _)) hS (fun _ h => h.elim) (fun H locs _ _ hfr hS => ?_)
  have hR := gRep.keep hR hfr (fun _ _ h => h)
  refine lv_istore_n (lv' := [(3, .int (f_X0_slotAt X c3 a1)), (0, .int a1), (1, .int a2), (2, .ref (σ + c3))]) hx hb dX8_fewestLaps_5 rfl hl (by decide) rfl (fun ls hl => ?_)
  refine lv_iconst (v := 1) hx hb dX8_fewestLaps_6 (by decide) ?_
  refine lv_istore (lv' := [(4, .int 1), (3, .int (f_X0_slotAt X c3 a1)), (0, .int a1), (1, .int a2), (2, .ref (σ + c3))]) hx hb dX8_fewestLaps_7 hl (by decide) rfl (fun ls hl => ?_)
  refine lv_iconst (v := 1) hx hb dX8_fewestLaps_9 (by decide) ?_
  refine lv_istore (lv' := [(5, .int 1), (4, .int 1), (3, .int (f_X0_slotAt X c3 a1)), (0, .int a1), (1, .int a2), (2, .ref (σ + c3))]) hx hb dX8_fewestLaps_10 hl (by decide) rfl (fun ls hl => ?_)
  refine gm_q (Q2 := MQ below (gQi (lf_X8_fewestLaps_12 a1 a2 c3 (f_X0_slotAt X c3 a1) (fun X1 x_4w1 k_5w1 =>
        ((-5), X1)) 302 X 1 1).1 (SR D cy σ (lf_X8_fewestLaps_12 a1 a2 c3 (f_X0_slotAt X c3 a1) (fun X1 x_4w1 k_5w1 =>
        ((-5), X1)) 302 X 1 1).2) (SA σ)) args s 0 0 (SA σ)) (by simp only [p_X8_fewestLaps]) ?_
  refine lp_X8_fewestLaps_12 ⟨hx, hb, hr, hts, hown, hlocks, hml, hK⟩ σ a1 a2 c3 (f_X0_slotAt X c3 a1) hc3 hk3 _ (fun X1 x_4w1 k_5w1 hbk_5w1 H locs ls hR hS hl => ?_) 302 X 1 1 (by decide) (by omega) _ _ _ hR hS (lv_sub hl [3, 4, 5, 2, 1, 0] rfl)
  refine lv_bipush (v := (-5)) hx hb dX8_fewestLaps_65 (by decide) ?_
  exact gm_iret hx hb hr hlocks hS (by (try simp only [p_X8_fewestLaps]); (try rfl)) (by (try simp only [p_X8_fewestLaps]); exact hR) dX8_fewestLaps_67
def lf_X8_slotIn_42 (a1 : Int32) (a2 : Int32) (d_3 : Nat) (d_4 : Nat) (K : (gM) → (Nat) → (Int32 × gM)) : Nat → (gM) → (Nat) → (Int32 × gM)
  | 0, Z, k_5 => K Z k_5
  | n + 1, Z, k_5 =>
    if a2 ≤ nI k_5 then
      K Z k_5
    else
      let X1 := putS Z 2 ((p_X0_advance (vw 2 Z) d_4).2)
      lf_X8_slotIn_42 a1 a2 d_3 d_4 K n X1 (k_5 + 1)
def p_X8_slotIn (X : gM) (a1 : Int32) (a2 : Int32) : Int32 × gM :=
  gOpt (f_X3_stationOf (vw 0 X) a1) (
    ((-1), X)) (fun q1 =>
    if f_X8_within a2 0 300 = 0 then
      ((-2), X)
    else
      let X1 := (p_X8_trialLine X (nI (nLin q1))).2
      lf_X8_slotIn_42 a1 a2 q1 ((p_X8_trialLine X (nI (nLin q1))).1) (fun X2 k_5w3 =>
            (f_X0_slotAt (vw 2 X2) ((p_X8_trialLine X (nI (nLin q1))).1) (vw 0 X2 q1 5), X2)) 2147483648 X1 0)
set_option maxHeartbeats 4000000 in
set_option maxRecDepth 100000 in
theorem lp_X8_slotIn_42 {p : Program} {l : Launch} {e : Env} {s : State} {m : MethodId} {args : Array Value} {below : List Frame} {meth : Method} {c0 : Code} {D : va_G} {cy : Nat → ClassId} (C : gCtx cX8_slotIn 6 (some .int) RX8 wsX8_slotIn D cy p s m args meth c0) (β : Nat) (a1 : Int32) (a2 : Int32) (d_3 : Nat) (d_4 : Nat) (hc_3 : d_3 < 123) (hk_3 : kdS d_3 = 4) (hc_4 : d_4 < 123) (hk_4 : kdS d_4 = 0)
    (K : (gM) → (Nat) → (Int32 × gM)) (hexit : ∀ (Z : gM) (k_5 : Nat), k_5 ≤ 2147483647 → ∀ (H : Heap) (locs : List Loc) (ls : Array Slot), TR D cy β Z H → va_S (TA β) s.heap H locs → lv_has ls 6 [(0, .ref β), (1, .int a1), (2, .int a2), (3, .ref (β + off 0 + d_3)), (4, .ref (β + off 2 + d_4)), (5, .int (nI k_5))] → W p l e { frames := 4, cells := 0, slots := 0, locals := 91 } s m args below meth c0 H locs 0 0 (MQ below (gQi (K Z k_5).1 (TR D cy β (K Z k_5).2) (TA β)) args s 0 0 (TA β)) (F0 m 60 ls [])) :
    ∀ (n : Nat) (Z : gM) (k_5 : Nat), k_5 ≤ 2147483647 → 2147483647 < k_5 + n → ∀ (H : Heap) (locs : List Loc) (ls : Array Slot), TR D cy β Z H → va_S (TA β) s.heap H locs → lv_has ls 6 [(0, .ref β), (1, .int a1), (2, .int a2), (3, .ref (β + off 0 + d_3)), (4, .ref (β + off 2 + d_4)), (5, .int (nI k_5))] → W p l e { frames := 4, cells := 0, slots := 0, locals := 91 } s m args below meth c0 H locs 0 0 (MQ below (gQi (lf_X8_slotIn_42 a1 a2 d_3 d_4 K n Z k_5).1 (TR D cy β (lf_X8_slotIn_42 a1 a2 d_3 d_4 K n Z k_5).2) (TA β)) args s 0 0 (TA β)) (F0 m 42 ls []) := by
  obtain ⟨hx, hb, hr, hts, hown, hlocks, hml, hK⟩ := C
  intro n
  induction n with
  | zero =>
    intro Z k_5 hb_5 hme
    exact absurd hme (by omega)
  | succ n ih =>
    intro Z k_5 hb_5 hme H locs ls hR hS hl
    refine lv_iload hx hb dX8_slotIn_42 (lv_at hl 5 rfl) ?_
    refine lv_iload_n hx hb dX8_slotIn_44 rfl (lv_at hl 2 rfl) ?_
    refine lv_icmp_ge (tgt := 60) hx hb dX8_slotIn_45 (by decide) (fun c_1 => ?_) (fun c_1 => ?_)
    · refine gm_q (Q2 := MQ below (gQi (K Z k_5).1 (TR D cy β (K Z k_5).2) (TA β)) args s 0 0 (TA β)) (by simp only [lf_X8_slotIn_42, ↓if_pos c_1]) ?_
      exact hexit Z k_5 hb_5  _ _ _ hR hS (lv_sub hl [0, 1, 2, 3, 4, 5] rfl)
    · have lt_2 : k_5 < 2147483647 := g_big (Nat.lt_of_le_of_lt hb_5 (by decide)) c_1
      refine lv_aload hx hb dX8_slotIn_48 (lv_at hl 4 rfl) ?_
      refine gm_ci (gm_call (As := []) (rest := []) (ci := 0) (q := (RX0, TX0, 10)) ⟨hx, hb, hml, hown, hts⟩ hK (c_X0_advance l D cy (β + off 2) (vw 2 Z) d_4 hc_4 hk_4) (cwV 0 hts gX8_slotIn_X0_advance rfl rfl rfl (by decide +kernel) ⟨Nat.le_of_ble_eq_true rfl, Nat.le_of_ble_eq_true rfl⟩) (SR.mk1 (TR.st hR (by decide)) (c := d_4) hc_4 (bS_0 hk_4)) rfl (TR.st hR (by decide)) rfl hl.1 rfl (Nat.le_of_ble_eq_true rfl) dX8_slotIn_50 (Nat.zero_le _) (Nat.zero_le _)) hS (TA_S (by decide)) (fun H locs hRR _ hfr hS => ?_)
      have hR := TR.mrgS hR (by decide) hRR hfr
      obtain ⟨X1, eX1⟩ : ∃ Y : gM, Y = putS Z 2 ((p_X0_advance (vw 2 Z) d_4).2) := ⟨_, rfl⟩
      rw [← eX1] at hR
      refine lv_pop hx hb dX8_slotIn_53 rfl ?_
      refine lv_iinc (v := nI (k_5 + 1)) (lv' := [(5, .int (nI (k_5 + 1))), (0, .ref β), (1, .int a1), (2, .int a2), (3, .ref (β + off 0 + d_3)), (4, .ref (β + off 2 + d_4))]) hx hb dX8_slotIn_54 hl (k := 5) rfl (nI_1 _) (by decide) rfl (fun ls hl => ?_)
      refine lv_goto (tgt := 42) hx hb dX8_slotIn_57 (by decide) ?_
      refine gm_q (Q2 := MQ below (gQi (lf_X8_slotIn_42 a1 a2 d_3 d_4 K n X1 (k_5 + 1)).1 (TR D cy β (lf_X8_slotIn_42 a1 a2 d_3 d_4 K n X1 (k_5 + 1)).2) (TA β)) args s 0 0 (TA β)) (by simp only [lf_X8_slotIn_42, ↓if_neg c_1, ← eX1]) ?_
      exact ih X1 (k_5 + 1) lt_2 (by omega) _ _ _ hR hS (lv_sub hl [1, 2, 3, 4, 5, 0] rfl)
set_option maxHeartbeats 4000000 in
set_option maxRecDepth 100000 in
theorem c_X8_slotIn (l : Launch) (D : va_G) (cy : Nat → ClassId) (β : Nat) (X : gM) (a1 : Int32) (a2 : Int32)  : Met l yX8_slotIn wsX8_slotIn ({ frames := 4, cells := 0, slots := 0, locals := 91 }) (gP [.ref β, .int a1, .int a2] D cy (TR D cy β X)) (gQi (p_X8_slotIn X a1 a2).1 (TR D cy β (p_X8_slotIn X a1 a2).2) (TA β)) 0 0 (TA β) := by
  refine gm_met (cc := cX8_slotIn) (maxL := 6) (ret := (some .int)) [.ref β, .int a1, .int a2] (by decide) rfl (Nat.le_of_ble_eq_true rfl) ?_
  intro p e s m args below meth c0 ls C hR hl
  obtain ⟨hx, hb, hr, hts, hown, hlocks, hml, hK⟩ := C
  have hl : lv_has ls 6 [(0, .ref β), (1, .int a1), (2, .int a2)] := hl
  have hS : va_S (TA β) s.heap s.heap [] := va_S.rf
  have lk10 := hts (.fieldLink RX8 10 "MercuryLine" "now" "LMercuryLine$State;") (by decide +kernel)
  have inX8 : ∀ w ∈ u_ws RX8 TX8 8, w ∈ wsX8_slotIn := by decide +kernel
  have lk248 := hts (.fieldLink RX8 248 "MercuryLine$Station" "line" "I") (by decide +kernel)
  have inX4 : ∀ w ∈ u_ws RX4 TX4 10, w ∈ wsX8_slotIn := by decide +kernel
  have lk245 := hts (.fieldLink RX8 245 "MercuryLine$Station" "offset" "I") (by decide +kernel)
  refine lv_aload_n hx hb dX8_slotIn_0 rfl (lv_at hl 0 rfl) ?_
  refine va_get (D := D) (ci := 8) (v := .ref (β + off 0)) (C := RX8) (T := TX8) (N := 8) hx hb hts inX8 hown hK.1 (TR.mk0 hR) 0 rfl rfl 0 (by decide) lk10 (fun _ h9 => h9) rfl dX8_slotIn_1 ?_
  refine lv_iload_n hx hb dX8_slotIn_4 rfl (lv_at hl 1 rfl) ?_
  refine gm_cq (gm_call (As := [.int a1]) (rest := []) (ci := 3) (q := (RX3, TX3, 14)) ⟨hx, hb, hml, hown, hts⟩ hK (c_X3_stationOf l D cy (β + off 0) (vw 0 X) a1) (cwV 1 hts gX8_slotIn_X3_stationOf rfl rfl rfl (by decide +kernel) ⟨Nat.le_of_ble_eq_true rfl, Nat.le_of_ble_eq_true rfl⟩) (SR.mk0 (TR.st hR (by decide))) rfl (TR.st hR (by decide)) rfl hl.1 rfl (Nat.le_of_ble_eq_true rfl) dX8_slotIn_5 (Nat.zero_le _) (Nat.zero_le _)) hS (fun _ h => h.elim) (fun H locs _ _ hfr hS => ?_)
  have hR := gRep.keep hR hfr (fun _ _ h => h)
  rcases hq1 : f_X3_stationOf (vw 0 X) a1 with _ | q1
  · refine W.eq (g2 := F0 m 8 ls [.null]) rfl ?_
    refine lv_astore_nN (lv' := [(3, .null), (0, .ref β), (1, .int a1), (2, .int a2)]) hx hb dX8_slotIn_8 rfl hl (by decide) rfl (fun ls hl => ?_)
    refine lv_aload_nN hx hb dX8_slotIn_9 rfl (lv_at hl 0 rfl) ?_
    refine lv_ifnonnullN hx hb dX8_slotIn_10 ?_
    refine lv_iconst (v := (-1)) hx hb dX8_slotIn_13 (by decide) ?_
    exact gm_iret hx hb hr hlocks hS (by (try simp only [p_X8_slotIn, ↓gOpt_n hq1]); (try rfl)) (by (try simp only [p_X8_slotIn, ↓gOpt_n hq1]); exact hR) dX8_slotIn_14
  · refine W.eq (g2 := F0 m 8 ls [.ref (β + off 0 + q1)]) rfl ?_
    refine lv_astore_n (lv' := [(3, .ref (β + off 0 + q1)), (0, .ref β), (1, .int a1), (2, .int a2)]) hx hb dX8_slotIn_8 rfl hl (by decide) rfl (fun ls hl => ?_)
    refine lv_aload_n hx hb dX8_slotIn_9 rfl (lv_at hl 0 rfl) ?_
    refine lv_ifnonnull (tgt := 15) hx hb dX8_slotIn_10 (by decide) ?_
    refine lv_iload_n hx hb dX8_slotIn_15 rfl (lv_at hl 3 rfl) ?_
    refine lv_iconst (v := 0) hx hb dX8_slotIn_16 (by decide) ?_
    refine lv_sipush (v := 300) hx hb dX8_slotIn_17 (by decide) ?_
    refine gm_ci (gm_callS (As := [.int a2, .int 0, .int 300]) (rest := []) ⟨hx, hb, hml, hown, hts⟩ hK (c_X8_within l D cy a2 0 300) (va_cwS 3 hts gX8_slotIn_X8_within rfl rfl rfl (by decide +kernel) ⟨Nat.le_of_ble_eq_true rfl, Nat.le_of_ble_eq_true rfl⟩) trivial rfl hl.1 rfl (Nat.le_of_ble_eq_true rfl) dX8_slotIn_20 (Nat.zero_le _) (Nat.zero_le _)) hS (fun _ h => h.elim) (fun H locs _ _ hfr hS => ?_)
    have hR := gRep.keep hR hfr (fun _ _ h => h)
    refine lv_if_ne (tgt := 29) hx hb dX8_slotIn_23 (by decide) (fun c_2 => ?_) (fun c_2 => ?_)
    · refine lv_aload_n hx hb dX8_slotIn_29 rfl (lv_at hl 1 rfl) ?_
      refine lv_aload_n hx hb dX8_slotIn_30 rfl (lv_at hl 0 rfl) ?_
      refine va_get (D := D) (ci := 4) (v := .int (nI (nLin q1))) (C := RX4) (T := TX4) (N := 10) hx hb hts inX4 hown hK.1 (SR.mk1 (TR.st hR (by decide)) (c := q1) (fk_X3_stationOf  hq1).1 (bS_4 (fk_X3_stationOf  hq1).2)) 0 rfl rfl 0 (by decide) lk248 (fun _ h9 => h9) rfl dX8_slotIn_31 ?_
      refine gm_cq (gm_call (As := [.int (nI (nLin q1))]) (rest := []) (ci := 8) (q := (RX8, TX8, 8)) ⟨hx, hb, hml, hown, hts⟩ hK (c_X8_trialLine l D cy β X (nI (nLin q1))) (cwV 1 hts gX8_slotIn_X8_trialLine rfl rfl rfl (by decide +kernel) ⟨Nat.le_of_ble_eq_true rfl, Nat.le_of_ble_eq_true rfl⟩) (TR.mk0 hR) rfl hR rfl hl.1 rfl (Nat.le_of_ble_eq_true rfl) dX8_slotIn_34 (Nat.zero_le _) (Nat.zero_le _)) hS (fun _ h => h) (fun H locs hR _ _ hS => ?_)
      refine W.eq (g2 := F0 m 37 ls [.ref (β + off 2 + ((p_X8_trialLine X (nI (nLin q1))).1))]) rfl ?_
      obtain ⟨X1, eX1⟩ : ∃ Y : gM, Y = (p_X8_trialLine X (nI (nLin q1))).2 := ⟨_, rfl⟩
      rw [← eX1] at hR
      refine lv_astore (lv' := [(4, .ref (β + off 2 + ((p_X8_trialLine X (nI (nLin q1))).1))), (3, .ref (β + off 0 + q1)), (0, .ref β), (1, .int a1), (2, .int a2)]) hx hb dX8_slotIn_37 hl (by decide) rfl (fun ls hl => ?_)
      refine lv_iconst (v := 0) hx hb dX8_slotIn_39 (by decide) ?_
      refine lv_istore (lv' := [(5, .int 0), (4, .ref (β + off 2 + ((p_X8_trialLine X (nI (nLin q1))).1))), (3, .ref (β + off 0 + q1)), (0, .ref β), (1, .int a1), (2, .int a2)]) hx hb dX8_slotIn_40 hl (by decide) rfl (fun ls hl => ?_)
      refine gm_q (Q2 := MQ below (gQi (lf_X8_slotIn_42 a1 a2 q1 ((p_X8_trialLine X (nI (nLin q1))).1) (fun X2 k_5w3 =>
            (f_X0_slotAt (vw 2 X2) ((p_X8_trialLine X (nI (nLin q1))).1) (vw 0 X2 q1 5), X2)) 2147483648 X1 0).1 (TR D cy β (lf_X8_slotIn_42 a1 a2 q1 ((p_X8_trialLine X (nI (nLin q1))).1) (fun X2 k_5w3 =>
            (f_X0_slotAt (vw 2 X2) ((p_X8_trialLine X (nI (nLin q1))).1) (vw 0 X2 q1 5), X2)) 2147483648 X1 0).2) (TA β)) args s 0 0 (TA β)) (by simp only [p_X8_slotIn, ↓if_neg c_2, ↓gOpt_s hq1, ← eX1]) ?_
      refine lp_X8_slotIn_42 ⟨hx, hb, hr, hts, hown, hlocks, hml, hK⟩ β a1 a2 q1 ((p_X8_trialLine X (nI (nLin q1))).1) (fk_X3_stationOf  hq1).1 (fk_X3_stationOf  hq1).2 (fk_X8_trialLine X (nI (nLin q1))).1 (fk_X8_trialLine X (nI (nLin q1))).2 _ (fun X2 k_5w3 hbk_5w3 H locs ls hR hS hl => ?_) 2147483648 X1 0 (by decide) (by omega) _ _ _ hR hS (lv_sub hl [3, 4, 5, 2, 1, 0] rfl)
      refine lv_aload hx hb dX8_slotIn_60 (lv_at hl 4 rfl) ?_
      refine lv_aload_n hx hb dX8_slotIn_62 rfl (lv_at hl 3 rfl) ?_
      refine va_get (D := D) (ci := 4) (v := .int (vw 0 X2 q1 5)) (C := RX4) (T := TX4) (N := 10) hx hb hts inX4 hown hK.1 (SR.mk1 (TR.st hR (by decide)) (c := q1) (fk_X3_stationOf  hq1).1 (bS_4 (fk_X3_stationOf  hq1).2)) 0 rfl rfl 5 (by decide) lk245 (fun _ h9 => h9) rfl dX8_slotIn_63 ?_
      refine gm_ci (gm_call (As := [.int (vw 0 X2 q1 5)]) (rest := []) (ci := 0) (q := (RX0, TX0, 10)) ⟨hx, hb, hml, hown, hts⟩ hK (c_X0_slotAt l D cy (β + off 2) (vw 2 X2) ((p_X8_trialLine X (nI (nLin q1))).1) (vw 0 X2 q1 5) (fk_X8_trialLine X (nI (nLin q1))).1 (fk_X8_trialLine X (nI (nLin q1))).2) (cwV 1 hts gX8_slotIn_X0_slotAt rfl rfl rfl (by decide +kernel) ⟨Nat.le_of_ble_eq_true rfl, Nat.le_of_ble_eq_true rfl⟩) (SR.mk1 (TR.st hR (by decide)) (c := (p_X8_trialLine X (nI (nLin q1))).1) (fk_X8_trialLine X (nI (nLin q1))).1 (bS_0 (fk_X8_trialLine X (nI (nLin q1))).2)) rfl (TR.st hR (by decide)) rfl hl.1 rfl (Nat.le_of_ble_eq_true rfl) dX8_slotIn_66 (Nat.zero_le _) (Nat.zero_le _)) hS (fun _ h => h.elim) (fun H locs _ _ hfr hS => ?_)
      have hR := gRep.keep hR hfr (fun _ _ h => h)
      exact gm_iret hx hb hr hlocks hS (by (try simp only [p_X8_slotIn, ↓if_neg c_2, ↓gOpt_s hq1, ← eX1]); (try rfl)) (by (try simp only [p_X8_slotIn, ↓if_neg c_2, ↓gOpt_s hq1, ← eX1]); exact hR) dX8_slotIn_69
    · refine lv_bipush (v := (-2)) hx hb dX8_slotIn_26 (by decide) ?_
      exact gm_iret hx hb hr hlocks hS (by (try simp only [p_X8_slotIn, ↓if_pos c_2, ↓gOpt_s hq1]); (try rfl)) (by (try simp only [p_X8_slotIn, ↓if_pos c_2, ↓gOpt_s hq1]); exact hR) dX8_slotIn_28
def p_X8_lapsNeeded (X : gM) (a1 : Int32) (a2 : Int32) : Int32 × gM :=
  gOpt (f_X3_stationOf (vw 0 X) a1) (
    gOpt (f_X3_stationOf (vw 0 X) a2) (
      ((-1), X)) (fun q2 =>
      ((-1), X))) (fun q1 =>
    gOpt (f_X3_stationOf (vw 0 X) a2) (
      ((-1), X)) (fun q3 =>
      if a1 = a2 then
        ((-2), X)
      else
        if nI (nLin q1) = nI (nLin q3) then
          let X1 := (p_X8_trialLine X (nI (nLin q1))).2
          let X2 := putS X1 2 ((p_X8_fewestLaps (vw 2 X1) (vw 0 X q1 5) (vw 0 X q3 5) ((p_X8_trialLine X (nI (nLin q1))).1)).2)
          ((p_X8_fewestLaps (vw 2 X1) (vw 0 X q1 5) (vw 0 X q3 5) ((p_X8_trialLine X (nI (nLin q1))).1)).1, X2)
        else
          ((-2), X)))
set_option maxHeartbeats 4000000 in
set_option maxRecDepth 100000 in
theorem c_X8_lapsNeeded (l : Launch) (D : va_G) (cy : Nat → ClassId) (β : Nat) (X : gM) (a1 : Int32) (a2 : Int32)  : Met l yX8_lapsNeeded wsX8_lapsNeeded ({ frames := 4, cells := 0, slots := 0, locals := 91 }) (gP [.ref β, .int a1, .int a2] D cy (TR D cy β X)) (gQi (p_X8_lapsNeeded X a1 a2).1 (TR D cy β (p_X8_lapsNeeded X a1 a2).2) (TA β)) 0 0 (TA β) := by
  refine gm_met (cc := cX8_lapsNeeded) (maxL := 5) (ret := (some .int)) [.ref β, .int a1, .int a2] (by decide) rfl (Nat.le_of_ble_eq_true rfl) ?_
  intro p e s m args below meth c0 ls C hR hl
  obtain ⟨hx, hb, hr, hts, hown, hlocks, hml, hK⟩ := C
  have hl : lv_has ls 5 [(0, .ref β), (1, .int a1), (2, .int a2)] := hl
  have hS : va_S (TA β) s.heap s.heap [] := va_S.rf
  have lk10 := hts (.fieldLink RX8 10 "MercuryLine" "now" "LMercuryLine$State;") (by decide +kernel)
  have inX8 : ∀ w ∈ u_ws RX8 TX8 8, w ∈ wsX8_lapsNeeded := by decide +kernel
  have lk248 := hts (.fieldLink RX8 248 "MercuryLine$Station" "line" "I") (by decide +kernel)
  have inX4 : ∀ w ∈ u_ws RX4 TX4 10, w ∈ wsX8_lapsNeeded := by decide +kernel
  have lk245 := hts (.fieldLink RX8 245 "MercuryLine$Station" "offset" "I") (by decide +kernel)
  refine lv_aload_n hx hb dX8_lapsNeeded_0 rfl (lv_at hl 0 rfl) ?_
  refine va_get (D := D) (ci := 8) (v := .ref (β + off 0)) (C := RX8) (T := TX8) (N := 8) hx hb hts inX8 hown hK.1 (TR.mk0 hR) 0 rfl rfl 0 (by decide) lk10 (fun _ h9 => h9) rfl dX8_lapsNeeded_1 ?_
  refine lv_iload_n hx hb dX8_lapsNeeded_4 rfl (lv_at hl 1 rfl) ?_
  refine gm_cq (gm_call (As := [.int a1]) (rest := []) (ci := 3) (q := (RX3, TX3, 14)) ⟨hx, hb, hml, hown, hts⟩ hK (c_X3_stationOf l D cy (β + off 0) (vw 0 X) a1) (cwV 1 hts gX8_lapsNeeded_X3_stationOf rfl rfl rfl (by decide +kernel) ⟨Nat.le_of_ble_eq_true rfl, Nat.le_of_ble_eq_true rfl⟩) (SR.mk0 (TR.st hR (by decide))) rfl (TR.st hR (by decide)) rfl hl.1 rfl (Nat.le_of_ble_eq_true rfl) dX8_lapsNeeded_5 (Nat.zero_le _) (Nat.zero_le _)) hS (fun _ h => h.elim) (fun H locs _ _ hfr hS => ?_)
  have hR := gRep.keep hR hfr (fun _ _ h => h)
  rcases hq1 : f_X3_stationOf (vw 0 X) a1 with _ | q1
  · refine W.eq (g2 := F0 m 8 ls [.null]) rfl ?_
    refine lv_astore_nN (lv' := [(3, .null), (0, .ref β), (1, .int a1), (2, .int a2)]) hx hb dX8_lapsNeeded_8 rfl hl (by decide) rfl (fun ls hl => ?_)
    refine lv_aload_n hx hb dX8_lapsNeeded_9 rfl (lv_at hl 1 rfl) ?_
    refine va_get (D := D) (ci := 8) (v := .ref (β + off 0)) (C := RX8) (T := TX8) (N := 8) hx hb hts inX8 hown hK.1 (TR.mk0 hR) 0 rfl rfl 0 (by decide) lk10 (fun _ h9 => h9) rfl dX8_lapsNeeded_10 ?_
    refine lv_iload_n hx hb dX8_lapsNeeded_13 rfl (lv_at hl 3 rfl) ?_
    refine gm_cq (gm_call (As := [.int a2]) (rest := []) (ci := 3) (q := (RX3, TX3, 14)) ⟨hx, hb, hml, hown, hts⟩ hK (c_X3_stationOf l D cy (β + off 0) (vw 0 X) a2) (cwV 1 hts gX8_lapsNeeded_X3_stationOf rfl rfl rfl (by decide +kernel) ⟨Nat.le_of_ble_eq_true rfl, Nat.le_of_ble_eq_true rfl⟩) (SR.mk0 (TR.st hR (by decide))) rfl (TR.st hR (by decide)) rfl hl.1 rfl (Nat.le_of_ble_eq_true rfl) dX8_lapsNeeded_14 (Nat.zero_le _) (Nat.zero_le _)) hS (fun _ h => h.elim) (fun H locs _ _ hfr hS => ?_)
    have hR := gRep.keep hR hfr (fun _ _ h => h)
    rcases hq2 : f_X3_stationOf (vw 0 X) a2 with _ | q2
    · refine W.eq (g2 := F0 m 17 ls [.null]) rfl ?_
      refine lv_astoreN (lv' := [(4, .null), (3, .null), (0, .ref β), (1, .int a1), (2, .int a2)]) hx hb dX8_lapsNeeded_17 hl (by decide) rfl (fun ls hl => ?_)
      refine lv_aload_nN hx hb dX8_lapsNeeded_19 rfl (lv_at hl 1 rfl) ?_
      refine lv_ifnullN (tgt := 28) hx hb dX8_lapsNeeded_20 (by decide) ?_
      refine lv_iconst (v := (-1)) hx hb dX8_lapsNeeded_28 (by decide) ?_
      exact gm_iret hx hb hr hlocks hS (by (try simp only [p_X8_lapsNeeded, ↓gOpt_n hq1, ↓gOpt_n hq2]); (try rfl)) (by (try simp only [p_X8_lapsNeeded, ↓gOpt_n hq1, ↓gOpt_n hq2]); exact hR) dX8_lapsNeeded_29
    · refine W.eq (g2 := F0 m 17 ls [.ref (β + off 0 + q2)]) rfl ?_
      refine lv_astore (lv' := [(4, .ref (β + off 0 + q2)), (3, .null), (0, .ref β), (1, .int a1), (2, .int a2)]) hx hb dX8_lapsNeeded_17 hl (by decide) rfl (fun ls hl => ?_)
      refine lv_aload_nN hx hb dX8_lapsNeeded_19 rfl (lv_at hl 1 rfl) ?_
      refine lv_ifnullN (tgt := 28) hx hb dX8_lapsNeeded_20 (by decide) ?_
      refine lv_iconst (v := (-1)) hx hb dX8_lapsNeeded_28 (by decide) ?_
      exact gm_iret hx hb hr hlocks hS (by (try simp only [p_X8_lapsNeeded, ↓gOpt_n hq1, ↓gOpt_s hq2]); (try rfl)) (by (try simp only [p_X8_lapsNeeded, ↓gOpt_n hq1, ↓gOpt_s hq2]); exact hR) dX8_lapsNeeded_29
  · refine W.eq (g2 := F0 m 8 ls [.ref (β + off 0 + q1)]) rfl ?_
    refine lv_astore_n (lv' := [(3, .ref (β + off 0 + q1)), (0, .ref β), (1, .int a1), (2, .int a2)]) hx hb dX8_lapsNeeded_8 rfl hl (by decide) rfl (fun ls hl => ?_)
    refine lv_aload_n hx hb dX8_lapsNeeded_9 rfl (lv_at hl 1 rfl) ?_
    refine va_get (D := D) (ci := 8) (v := .ref (β + off 0)) (C := RX8) (T := TX8) (N := 8) hx hb hts inX8 hown hK.1 (TR.mk0 hR) 0 rfl rfl 0 (by decide) lk10 (fun _ h9 => h9) rfl dX8_lapsNeeded_10 ?_
    refine lv_iload_n hx hb dX8_lapsNeeded_13 rfl (lv_at hl 3 rfl) ?_
    refine gm_cq (gm_call (As := [.int a2]) (rest := []) (ci := 3) (q := (RX3, TX3, 14)) ⟨hx, hb, hml, hown, hts⟩ hK (c_X3_stationOf l D cy (β + off 0) (vw 0 X) a2) (cwV 1 hts gX8_lapsNeeded_X3_stationOf rfl rfl rfl (by decide +kernel) ⟨Nat.le_of_ble_eq_true rfl, Nat.le_of_ble_eq_true rfl⟩) (SR.mk0 (TR.st hR (by decide))) rfl (TR.st hR (by decide)) rfl hl.1 rfl (Nat.le_of_ble_eq_true rfl) dX8_lapsNeeded_14 (Nat.zero_le _) (Nat.zero_le _)) hS (fun _ h => h.elim) (fun H locs _ _ hfr hS => ?_)
    have hR := gRep.keep hR hfr (fun _ _ h => h)
    rcases hq3 : f_X3_stationOf (vw 0 X) a2 with _ | q3
    · refine W.eq (g2 := F0 m 17 ls [.null]) rfl ?_
      refine lv_astoreN (lv' := [(4, .null), (3, .ref (β + off 0 + q1)), (0, .ref β), (1, .int a1), (2, .int a2)]) hx hb dX8_lapsNeeded_17 hl (by decide) rfl (fun ls hl => ?_)
      refine lv_aload_n hx hb dX8_lapsNeeded_19 rfl (lv_at hl 1 rfl) ?_
      refine lv_ifnull hx hb dX8_lapsNeeded_20 ?_
      refine lv_aloadN hx hb dX8_lapsNeeded_23 (lv_at hl 0 rfl) ?_
      refine lv_ifnonnullN hx hb dX8_lapsNeeded_25 ?_
      refine lv_iconst (v := (-1)) hx hb dX8_lapsNeeded_28 (by decide) ?_
      exact gm_iret hx hb hr hlocks hS (by (try simp only [p_X8_lapsNeeded, ↓gOpt_s hq1, ↓gOpt_n hq3]); (try rfl)) (by (try simp only [p_X8_lapsNeeded, ↓gOpt_s hq1, ↓gOpt_n hq3]); exact hR) dX8_lapsNeeded_29
    · refine W.eq (g2 := F0 m 17 ls [.ref (β + off 0 + q3)]) rfl ?_
      refine lv_astore (lv' := [(4, .ref (β + off 0 + q3)), (3, .ref (β + off 0 + q1)), (0, .ref β), (1, .int a1), (2, .int a2)]) hx hb dX8_lapsNeeded_17 hl (by decide) rfl (fun ls hl => ?_)
      refine lv_aload_n hx hb dX8_lapsNeeded_19 rfl (lv_at hl 1 rfl) ?_
      refine lv_ifnull hx hb dX8_lapsNeeded_20 ?_
      refine lv_aload hx hb dX8_lapsNeeded_23 (lv_at hl 0 rfl) ?_
      refine lv_ifnonnull (tgt := 30) hx hb dX8_lapsNeeded_25 (by decide) ?_
      refine lv_iload_n hx hb dX8_lapsNeeded_30 rfl (lv_at hl 3 rfl) ?_
      refine lv_iload_n hx hb dX8_lapsNeeded_31 rfl (lv_at hl 4 rfl) ?_
      refine lv_icmp_eq (tgt := 47) hx hb dX8_lapsNeeded_32 (by decide) (fun c_4 => ?_) (fun c_4 => ?_)
      · refine lv_bipush (v := (-2)) hx hb dX8_lapsNeeded_47 (by decide) ?_
        exact gm_iret hx hb hr hlocks hS (by (try simp only [p_X8_lapsNeeded, ↓if_pos c_4, ↓gOpt_s hq1, ↓gOpt_s hq3]); (try rfl)) (by (try simp only [p_X8_lapsNeeded, ↓if_pos c_4, ↓gOpt_s hq1, ↓gOpt_s hq3]); exact hR) dX8_lapsNeeded_49
      · refine lv_aload_n hx hb dX8_lapsNeeded_35 rfl (lv_at hl 1 rfl) ?_
        refine va_get (D := D) (ci := 4) (v := .int (nI (nLin q1))) (C := RX4) (T := TX4) (N := 10) hx hb hts inX4 hown hK.1 (SR.mk1 (TR.st hR (by decide)) (c := q1) (fk_X3_stationOf  hq1).1 (bS_4 (fk_X3_stationOf  hq1).2)) 0 rfl rfl 0 (by decide) lk248 (fun _ h9 => h9) rfl dX8_lapsNeeded_36 ?_
        refine lv_aload hx hb dX8_lapsNeeded_39 (lv_at hl 0 rfl) ?_
        refine va_get (D := D) (ci := 4) (v := .int (nI (nLin q3))) (C := RX4) (T := TX4) (N := 10) hx hb hts inX4 hown hK.1 (SR.mk1 (TR.st hR (by decide)) (c := q3) (fk_X3_stationOf  hq3).1 (bS_4 (fk_X3_stationOf  hq3).2)) 0 rfl rfl 0 (by decide) lk248 (fun _ h9 => h9) rfl dX8_lapsNeeded_41 ?_
        refine lv_icmp_eq (tgt := 50) hx hb dX8_lapsNeeded_44 (by decide) (fun c_5 => ?_) (fun c_5 => ?_)
        · refine lv_aload_n hx hb dX8_lapsNeeded_50 rfl (lv_at hl 1 rfl) ?_
          refine va_get (D := D) (ci := 4) (v := .int (vw 0 X q1 5)) (C := RX4) (T := TX4) (N := 10) hx hb hts inX4 hown hK.1 (SR.mk1 (TR.st hR (by decide)) (c := q1) (fk_X3_stationOf  hq1).1 (bS_4 (fk_X3_stationOf  hq1).2)) 0 rfl rfl 5 (by decide) lk245 (fun _ h9 => h9) rfl dX8_lapsNeeded_51 ?_
          refine lv_aload hx hb dX8_lapsNeeded_54 (lv_at hl 0 rfl) ?_
          refine va_get (D := D) (ci := 4) (v := .int (vw 0 X q3 5)) (C := RX4) (T := TX4) (N := 10) hx hb hts inX4 hown hK.1 (SR.mk1 (TR.st hR (by decide)) (c := q3) (fk_X3_stationOf  hq3).1 (bS_4 (fk_X3_stationOf  hq3).2)) 0 rfl rfl 5 (by decide) lk245 (fun _ h9 => h9) rfl dX8_lapsNeeded_56 ?_
          refine lv_aload_n hx hb dX8_lapsNeeded_59 rfl (lv_at hl 2 rfl) ?_
          refine lv_aload_n hx hb dX8_lapsNeeded_60 rfl (lv_at hl 1 rfl) ?_
          refine va_get (D := D) (ci := 4) (v := .int (nI (nLin q1))) (C := RX4) (T := TX4) (N := 10) hx hb hts inX4 hown hK.1 (SR.mk1 (TR.st hR (by decide)) (c := q1) (fk_X3_stationOf  hq1).1 (bS_4 (fk_X3_stationOf  hq1).2)) 0 rfl rfl 0 (by decide) lk248 (fun _ h9 => h9) rfl dX8_lapsNeeded_61 ?_
          refine gm_cq (gm_call (As := [.int (nI (nLin q1))]) (rest := [.int (vw 0 X q3 5), .int (vw 0 X q1 5)]) (ci := 8) (q := (RX8, TX8, 8)) ⟨hx, hb, hml, hown, hts⟩ hK (c_X8_trialLine l D cy β X (nI (nLin q1))) (cwV 1 hts gX8_lapsNeeded_X8_trialLine rfl rfl rfl (by decide +kernel) ⟨Nat.le_of_ble_eq_true rfl, Nat.le_of_ble_eq_true rfl⟩) (TR.mk0 hR) rfl hR rfl hl.1 rfl (Nat.le_of_ble_eq_true rfl) dX8_lapsNeeded_64 (Nat.zero_le _) (Nat.zero_le _)) hS (fun _ h => h) (fun H locs hR _ _ hS => ?_)
          refine W.eq (g2 := F0 m 67 ls [.ref (β + off 2 + ((p_X8_trialLine X (nI (nLin q1))).1)), .int (vw 0 X q3 5), .int (vw 0 X q1 5)]) rfl ?_
          obtain ⟨X1, eX1⟩ : ∃ Y : gM, Y = (p_X8_trialLine X (nI (nLin q1))).2 := ⟨_, rfl⟩
          rw [← eX1] at hR
          refine gm_ci (gm_callS (As := [.int (vw 0 X q1 5), .int (vw 0 X q3 5), .ref (β + off 2 + ((p_X8_trialLine X (nI (nLin q1))).1))]) (rest := []) ⟨hx, hb, hml, hown, hts⟩ hK (c_X8_fewestLaps l D cy (β + off 2) (vw 2 X1) (vw 0 X q1 5) (vw 0 X q3 5) ((p_X8_trialLine X (nI (nLin q1))).1) (fk_X8_trialLine X (nI (nLin q1))).1 (fk_X8_trialLine X (nI (nLin q1))).2) (va_cwS 3 hts gX8_lapsNeeded_X8_fewestLaps rfl rfl rfl (by decide +kernel) ⟨Nat.le_of_ble_eq_true rfl, Nat.le_of_ble_eq_true rfl⟩) (TR.st hR (by decide)) rfl hl.1 rfl (Nat.le_of_ble_eq_true rfl) dX8_lapsNeeded_67 (Nat.zero_le _) (Nat.zero_le _)) hS (TA_S (by decide)) (fun H locs hRR _ hfr hS => ?_)
          have hR := TR.mrgS hR (by decide) hRR hfr
          obtain ⟨X2, eX2⟩ : ∃ Y : gM, Y = putS X1 2 ((p_X8_fewestLaps (vw 2 X1) (vw 0 X q1 5) (vw 0 X q3 5) ((p_X8_trialLine X (nI (nLin q1))).1)).2) := ⟨_, rfl⟩
          rw [← eX2] at hR
          exact gm_iret hx hb hr hlocks hS (by (try simp only [p_X8_lapsNeeded, ↓if_neg c_4, ↓if_pos c_5, ↓gOpt_s hq1, ↓gOpt_s hq3, ← eX1, ← eX2]); (try rfl)) (by (try simp only [p_X8_lapsNeeded, ↓if_neg c_4, ↓if_pos c_5, ↓gOpt_s hq1, ↓gOpt_s hq3, ← eX1, ← eX2]); exact hR) dX8_lapsNeeded_70
        · refine lv_bipush (v := (-2)) hx hb dX8_lapsNeeded_47 (by decide) ?_
          exact gm_iret hx hb hr hlocks hS (by (try simp only [p_X8_lapsNeeded, ↓if_neg c_4, ↓if_neg c_5, ↓gOpt_s hq1, ↓gOpt_s hq3]); (try rfl)) (by (try simp only [p_X8_lapsNeeded, ↓if_neg c_4, ↓if_neg c_5, ↓gOpt_s hq1, ↓gOpt_s hq3]); exact hR) dX8_lapsNeeded_49
