def lf_X8_fate_61n (a1 : Int32) (a2 : Int32) (d_3 : Nat) (K : (gM) → (Nat) → (Int32 × gM)) : Nat → (gM) → (Nat) → (Int32 × gM)
  | 0, Z, k_5 => K Z k_5
  | n + 1, Z, k_5 =>
    K Z k_5
def lf_X8_fate_61 (a1 : Int32) (a2 : Int32) (d_3 : Nat) (d_4 : Nat) (K : (gM) → (Nat) → (Int32 × gM)) : Nat → (gM) → (Nat) → (Int32 × gM)
  | 0, Z, k_5 => K Z k_5
  | n + 1, Z, k_5 =>
    if 300 < nI k_5 then
      K Z k_5
    else
      let X1 := putS Z 2 (p_X3_passTick (vw 2 Z))
      if f_X5_hasEnded (vw 2 X1) d_4 = 0 then
        lf_X8_fate_61 a1 a2 d_3 d_4 K n X1 (k_5 + 1)
      else
        (f_X8_fateTold (vw 2 X1) d_4 a2 (nI k_5), X1)
def p_X8_fate (X : gM) (a1 : Int32) (a2 : Int32) : Int32 × gM :=
  gOpt (f_X3_ticketOf (vw 0 X) a1) (
    ((-1), X)) (fun q1 =>
    if f_X8_within a2 0 3 = 0 then
      ((-2), X)
    else
      if f_X5_hasEnded (vw 0 X) q1 = 0 then
        let X1 := putS X 2 (vw 0 X)
        gOpt (f_X3_ticketOf (vw 2 X1) a1) (
          lf_X8_fate_61n a1 a2 q1 (fun X2 k_5w5 =>
                ((-5), X2)) 2147483648 X1 1) (fun q4 =>
          lf_X8_fate_61 a1 a2 q1 q4 (fun X3 k_5w6 =>
                ((-5), X3)) 2147483648 X1 1)
      else
        ((-4), X))
set_option maxHeartbeats 4000000 in
set_option maxRecDepth 100000 in
theorem lp_X8_fate_61n {p : Program} {l : Launch} {e : Env} {s : State} {m : MethodId} {args : Array Value} {below : List Frame} {meth : Method} {c0 : Code} {D : va_G} {cy : Nat → ClassId} (C : gCtx cX8_fate 6 (some .int) RX8 wsX8_fate D cy p s m args meth c0) (β : Nat) (a1 : Int32) (a2 : Int32) (d_3 : Nat) (hc_3 : d_3 < 123) (hk_3 : kdS d_3 = 5)
    (K : (gM) → (Nat) → (Int32 × gM)) (hexit : ∀ (Z : gM) (k_5 : Nat), k_5 ≤ 2147483647 → ∀ (H : Heap) (locs : List Loc) (ls : Array Slot), TR D cy β Z H → va_S (TA β) s.heap H locs → lv_has ls 6 [(0, .ref β), (1, .int a1), (2, .int a2), (3, .ref (β + off 0 + d_3)), (4, .null), (5, .int (nI k_5))] → W p l e { frames := 6, cells := 0, slots := 0, locals := 139 } s m args below meth c0 H locs 0 0 (MQ below (gQi (K Z k_5).1 (TR D cy β (K Z k_5).2) (TA β)) args s 0 0 (TA β)) (F0 m 104 ls [])) :
    ∀ (n : Nat) (Z : gM) (k_5 : Nat), k_5 ≤ 2147483647 → 2147483647 < k_5 + n → ∀ (H : Heap) (locs : List Loc) (ls : Array Slot), TR D cy β Z H → va_S (TA β) s.heap H locs → lv_has ls 6 [(0, .ref β), (1, .int a1), (2, .int a2), (3, .ref (β + off 0 + d_3)), (4, .null), (5, .int (nI k_5))] → W p l e { frames := 6, cells := 0, slots := 0, locals := 139 } s m args below meth c0 H locs 0 0 (MQ below (gQi (lf_X8_fate_61n a1 a2 d_3 K n Z k_5).1 (TR D cy β (lf_X8_fate_61n a1 a2 d_3 K n Z k_5).2) (TA β)) args s 0 0 (TA β)) (F0 m 61 ls []) := by
  obtain ⟨hx, hb, hr, hts, hown, hlocks, hml, hK⟩ := C
  intro n
  induction n with
  | zero =>
    intro Z k_5 hb_5 hme
    exact absurd hme (by omega)
  | succ n ih =>
    intro Z k_5 hb_5 hme H locs ls hR hS hl
    refine lv_aloadN hx hb dX8_fate_61 (lv_at hl 4 rfl) ?_
    refine lv_ifnullN (tgt := 104) hx hb dX8_fate_63 (by decide) ?_
    refine gm_q (Q2 := MQ below (gQi (K Z k_5).1 (TR D cy β (K Z k_5).2) (TA β)) args s 0 0 (TA β)) (by simp only [lf_X8_fate_61n]) ?_
    exact hexit Z k_5 hb_5  _ _ _ hR hS (lv_sub hl [0, 1, 2, 3, 4, 5] rfl)
set_option maxHeartbeats 4000000 in
set_option maxRecDepth 100000 in
theorem lp_X8_fate_61 {p : Program} {l : Launch} {e : Env} {s : State} {m : MethodId} {args : Array Value} {below : List Frame} {meth : Method} {c0 : Code} {D : va_G} {cy : Nat → ClassId} (C : gCtx cX8_fate 6 (some .int) RX8 wsX8_fate D cy p s m args meth c0) (β : Nat) (a1 : Int32) (a2 : Int32) (d_3 : Nat) (d_4 : Nat) (hc_3 : d_3 < 123) (hk_3 : kdS d_3 = 5) (hc_4 : d_4 < 123) (hk_4 : kdS d_4 = 5)
    (K : (gM) → (Nat) → (Int32 × gM)) (hexit : ∀ (Z : gM) (k_5 : Nat), k_5 ≤ 2147483647 → ∀ (H : Heap) (locs : List Loc) (ls : Array Slot), TR D cy β Z H → va_S (TA β) s.heap H locs → lv_has ls 6 [(0, .ref β), (1, .int a1), (2, .int a2), (3, .ref (β + off 0 + d_3)), (4, .ref (β + off 2 + d_4)), (5, .int (nI k_5))] → W p l e { frames := 6, cells := 0, slots := 0, locals := 139 } s m args below meth c0 H locs 0 0 (MQ below (gQi (K Z k_5).1 (TR D cy β (K Z k_5).2) (TA β)) args s 0 0 (TA β)) (F0 m 104 ls [])) :
    ∀ (n : Nat) (Z : gM) (k_5 : Nat), k_5 ≤ 2147483647 → 2147483647 < k_5 + n → ∀ (H : Heap) (locs : List Loc) (ls : Array Slot), TR D cy β Z H → va_S (TA β) s.heap H locs → lv_has ls 6 [(0, .ref β), (1, .int a1), (2, .int a2), (3, .ref (β + off 0 + d_3)), (4, .ref (β + off 2 + d_4)), (5, .int (nI k_5))] → W p l e { frames := 6, cells := 0, slots := 0, locals := 139 } s m args below meth c0 H locs 0 0 (MQ below (gQi (lf_X8_fate_61 a1 a2 d_3 d_4 K n Z k_5).1 (TR D cy β (lf_X8_fate_61 a1 a2 d_3 d_4 K n Z k_5).2) (TA β)) args s 0 0 (TA β)) (F0 m 61 ls []) := by
  obtain ⟨hx, hb, hr, hts, hown, hlocks, hml, hK⟩ := C
  have lk19 := hts (.fieldLink RX8 19 "MercuryLine" "trial" "LMercuryLine$State;") (by decide +kernel)
  have inX8 : ∀ w ∈ u_ws RX8 TX8 8, w ∈ wsX8_fate := by decide +kernel
  intro n
  induction n with
  | zero =>
    intro Z k_5 hb_5 hme
    exact absurd hme (by omega)
  | succ n ih =>
    intro Z k_5 hb_5 hme H locs ls hR hS hl
    refine lv_aload hx hb dX8_fate_61 (lv_at hl 4 rfl) ?_
    refine lv_ifnull hx hb dX8_fate_63 ?_
    refine lv_iload hx hb dX8_fate_66 (lv_at hl 5 rfl) ?_
    refine lv_sipush (v := 300) hx hb dX8_fate_68 (by decide) ?_
    refine lv_icmp_gt (tgt := 104) hx hb dX8_fate_71 (by decide) (fun c_1 => ?_) (fun c_1 => ?_)
    · refine gm_q (Q2 := MQ below (gQi (K Z k_5).1 (TR D cy β (K Z k_5).2) (TA β)) args s 0 0 (TA β)) (by simp only [lf_X8_fate_61, ↓if_pos c_1]) ?_
      exact hexit Z k_5 hb_5  _ _ _ hR hS (lv_sub hl [0, 1, 2, 3, 4, 5] rfl)
    · have lt_2 : k_5 < 301 := g_le (Nat.lt_of_le_of_lt hb_5 (by decide)) (by decide) c_1
      refine lv_aload_n hx hb dX8_fate_74 rfl (lv_at hl 0 rfl) ?_
      refine va_get (D := D) (ci := 8) (v := .ref (β + off 2)) (C := RX8) (T := TX8) (N := 8) hx hb hts inX8 hown hK.1 (TR.mk0 hR) 0 rfl rfl 2 (by decide) lk19 (fun _ h9 => h9) rfl dX8_fate_75 ?_
      refine gm_cv (gm_call (As := []) (rest := []) (ci := 3) (q := (RX3, TX3, 14)) ⟨hx, hb, hml, hown, hts⟩ hK (c_X3_passTick l D cy (β + off 2) (vw 2 Z)) (cwV 0 hts gX8_fate_X3_passTick rfl rfl rfl (by decide +kernel) ⟨Nat.le_of_ble_eq_true rfl, Nat.le_of_ble_eq_true rfl⟩) (SR.mk0 (TR.st hR (by decide))) rfl (TR.st hR (by decide)) rfl hl.1 rfl (Nat.le_of_ble_eq_true rfl) dX8_fate_78 (Nat.zero_le _) (Nat.zero_le _)) hS (TA_S (by decide)) (fun H locs hRR _ hfr hS => ?_)
      have hR := TR.mrgS hR (by decide) hRR hfr
      obtain ⟨X1, eX1⟩ : ∃ Y : gM, Y = putS Z 2 (p_X3_passTick (vw 2 Z)) := ⟨_, rfl⟩
      rw [← eX1] at hR
      refine lv_aload hx hb dX8_fate_81 (lv_at hl 4 rfl) ?_
      refine gm_ci (gm_call (As := []) (rest := []) (ci := 5) (q := (RX5, TX5, 14)) ⟨hx, hb, hml, hown, hts⟩ hK (c_X5_hasEnded l D cy (β + off 2) (vw 2 X1) d_4 hc_4 hk_4) (cwV 0 hts gX8_fate_X5_hasEnded rfl rfl rfl (by decide +kernel) ⟨Nat.le_of_ble_eq_true rfl, Nat.le_of_ble_eq_true rfl⟩) (SR.mk1 (TR.st hR (by decide)) (c := d_4) hc_4 (bS_5 hk_4)) rfl (TR.st hR (by decide)) rfl hl.1 rfl (Nat.le_of_ble_eq_true rfl) dX8_fate_83 (Nat.zero_le _) (Nat.zero_le _)) hS (fun _ h => h.elim) (fun H locs _ _ hfr hS => ?_)
      have hR := gRep.keep hR hfr (fun _ _ h => h)
      refine lv_if_eq (tgt := 98) hx hb dX8_fate_86 (by decide) (fun c_3 => ?_) (fun c_3 => ?_)
      · refine lv_iinc (v := nI (k_5 + 1)) (lv' := [(5, .int (nI (k_5 + 1))), (0, .ref β), (1, .int a1), (2, .int a2), (3, .ref (β + off 0 + d_3)), (4, .ref (β + off 2 + d_4))]) hx hb dX8_fate_98 hl (k := 5) rfl (nI_1 _) (by decide) rfl (fun ls hl => ?_)
        refine lv_goto (tgt := 61) hx hb dX8_fate_101 (by decide) ?_
        refine gm_q (Q2 := MQ below (gQi (lf_X8_fate_61 a1 a2 d_3 d_4 K n X1 (k_5 + 1)).1 (TR D cy β (lf_X8_fate_61 a1 a2 d_3 d_4 K n X1 (k_5 + 1)).2) (TA β)) args s 0 0 (TA β)) (by simp only [lf_X8_fate_61, ↓if_neg c_1, ↓if_pos c_3, ← eX1]) ?_
        exact ih X1 (k_5 + 1) (Nat.lt_of_lt_of_le lt_2 (by decide)) (by omega) _ _ _ hR hS (lv_sub hl [1, 2, 3, 4, 5, 0] rfl)
      · refine lv_aload hx hb dX8_fate_89 (lv_at hl 4 rfl) ?_
        refine lv_iload_n hx hb dX8_fate_91 rfl (lv_at hl 2 rfl) ?_
        refine lv_iload hx hb dX8_fate_92 (lv_at hl 5 rfl) ?_
        refine gm_ci (gm_callS (As := [.ref (β + off 2 + d_4), .int a2, .int (nI k_5)]) (rest := []) ⟨hx, hb, hml, hown, hts⟩ hK (c_X8_fateTold l D cy (β + off 2) (vw 2 X1) d_4 a2 (nI k_5) hc_4 hk_4) (va_cwS 3 hts gX8_fate_X8_fateTold rfl rfl rfl (by decide +kernel) ⟨Nat.le_of_ble_eq_true rfl, Nat.le_of_ble_eq_true rfl⟩) (TR.st hR (by decide)) rfl hl.1 rfl (Nat.le_of_ble_eq_true rfl) dX8_fate_94 (Nat.zero_le _) (Nat.zero_le _)) hS (fun _ h => h.elim) (fun H locs _ _ hfr hS => ?_)
        have hR := gRep.keep hR hfr (fun _ _ h => h)
        exact gm_iret hx hb hr hlocks hS (by (try simp only [lf_X8_fate_61, ↓if_neg c_1, ↓if_neg c_3, ← eX1]); (try rfl)) (by (try simp only [lf_X8_fate_61, ↓if_neg c_1, ↓if_neg c_3, ← eX1]); exact hR) dX8_fate_97
set_option maxHeartbeats 4000000 in
set_option maxRecDepth 100000 in
theorem c_X8_fate (l : Launch) (D : va_G) (cy : Nat → ClassId) (β : Nat) (X : gM) (a1 : Int32) (a2 : Int32)  : Met l yX8_fate wsX8_fate ({ frames := 6, cells := 0, slots := 0, locals := 139 }) (gP [.ref β, .int a1, .int a2] D cy (TR D cy β X)) (gQi (p_X8_fate X a1 a2).1 (TR D cy β (p_X8_fate X a1 a2).2) (TA β)) 0 0 (TA β) := by
  refine gm_met (cc := cX8_fate) (maxL := 6) (ret := (some .int)) [.ref β, .int a1, .int a2] (by decide) rfl (Nat.le_of_ble_eq_true rfl) ?_
  intro p e s m args below meth c0 ls C hR hl
  obtain ⟨hx, hb, hr, hts, hown, hlocks, hml, hK⟩ := C
  have hl : lv_has ls 6 [(0, .ref β), (1, .int a1), (2, .int a2)] := hl
  have hS : va_S (TA β) s.heap s.heap [] := va_S.rf
  have lk10 := hts (.fieldLink RX8 10 "MercuryLine" "now" "LMercuryLine$State;") (by decide +kernel)
  have inX8 : ∀ w ∈ u_ws RX8 TX8 8, w ∈ wsX8_fate := by decide +kernel
  have lk19 := hts (.fieldLink RX8 19 "MercuryLine" "trial" "LMercuryLine$State;") (by decide +kernel)
  refine lv_aload_n hx hb dX8_fate_0 rfl (lv_at hl 0 rfl) ?_
  refine va_get (D := D) (ci := 8) (v := .ref (β + off 0)) (C := RX8) (T := TX8) (N := 8) hx hb hts inX8 hown hK.1 (TR.mk0 hR) 0 rfl rfl 0 (by decide) lk10 (fun _ h9 => h9) rfl dX8_fate_1 ?_
  refine lv_iload_n hx hb dX8_fate_4 rfl (lv_at hl 1 rfl) ?_
  refine gm_cq (gm_call (As := [.int a1]) (rest := []) (ci := 3) (q := (RX3, TX3, 14)) ⟨hx, hb, hml, hown, hts⟩ hK (c_X3_ticketOf l D cy (β + off 0) (vw 0 X) a1) (cwV 1 hts gX8_fate_X3_ticketOf rfl rfl rfl (by decide +kernel) ⟨Nat.le_of_ble_eq_true rfl, Nat.le_of_ble_eq_true rfl⟩) (SR.mk0 (TR.st hR (by decide))) rfl (TR.st hR (by decide)) rfl hl.1 rfl (Nat.le_of_ble_eq_true rfl) dX8_fate_5 (Nat.zero_le _) (Nat.zero_le _)) hS (fun _ h => h.elim) (fun H locs _ _ hfr hS => ?_)
  have hR := gRep.keep hR hfr (fun _ _ h => h)
  rcases hq1 : f_X3_ticketOf (vw 0 X) a1 with _ | q1
  · refine W.eq (g2 := F0 m 8 ls [.null]) rfl ?_
    refine lv_astore_nN (lv' := [(3, .null), (0, .ref β), (1, .int a1), (2, .int a2)]) hx hb dX8_fate_8 rfl hl (by decide) rfl (fun ls hl => ?_)
    refine lv_aload_nN hx hb dX8_fate_9 rfl (lv_at hl 0 rfl) ?_
    refine lv_ifnonnullN hx hb dX8_fate_10 ?_
    refine lv_iconst (v := (-1)) hx hb dX8_fate_13 (by decide) ?_
    exact gm_iret hx hb hr hlocks hS (by (try simp only [p_X8_fate, ↓gOpt_n hq1]); (try rfl)) (by (try simp only [p_X8_fate, ↓gOpt_n hq1]); exact hR) dX8_fate_14
  · refine W.eq (g2 := F0 m 8 ls [.ref (β + off 0 + q1)]) rfl ?_
    refine lv_astore_n (lv' := [(3, .ref (β + off 0 + q1)), (0, .ref β), (1, .int a1), (2, .int a2)]) hx hb dX8_fate_8 rfl hl (by decide) rfl (fun ls hl => ?_)
    refine lv_aload_n hx hb dX8_fate_9 rfl (lv_at hl 0 rfl) ?_
    refine lv_ifnonnull (tgt := 15) hx hb dX8_fate_10 (by decide) ?_
    refine lv_iload_n hx hb dX8_fate_15 rfl (lv_at hl 3 rfl) ?_
    refine lv_iconst (v := 0) hx hb dX8_fate_16 (by decide) ?_
    refine lv_iconst (v := 3) hx hb dX8_fate_17 (by decide) ?_
    refine gm_ci (gm_callS (As := [.int a2, .int 0, .int 3]) (rest := []) ⟨hx, hb, hml, hown, hts⟩ hK (c_X8_within l D cy a2 0 3) (va_cwS 3 hts gX8_fate_X8_within rfl rfl rfl (by decide +kernel) ⟨Nat.le_of_ble_eq_true rfl, Nat.le_of_ble_eq_true rfl⟩) trivial rfl hl.1 rfl (Nat.le_of_ble_eq_true rfl) dX8_fate_18 (Nat.zero_le _) (Nat.zero_le _)) hS (fun _ h => h.elim) (fun H locs _ _ hfr hS => ?_)
    have hR := gRep.keep hR hfr (fun _ _ h => h)
    refine lv_if_ne (tgt := 27) hx hb dX8_fate_21 (by decide) (fun c_2 => ?_) (fun c_2 => ?_)
    · refine lv_aload_n hx hb dX8_fate_27 rfl (lv_at hl 0 rfl) ?_
      refine gm_ci (gm_call (As := []) (rest := []) (ci := 5) (q := (RX5, TX5, 14)) ⟨hx, hb, hml, hown, hts⟩ hK (c_X5_hasEnded l D cy (β + off 0) (vw 0 X) q1 (fk_X3_ticketOf  hq1).1 (fk_X3_ticketOf  hq1).2) (cwV 0 hts gX8_fate_X5_hasEnded rfl rfl rfl (by decide +kernel) ⟨Nat.le_of_ble_eq_true rfl, Nat.le_of_ble_eq_true rfl⟩) (SR.mk1 (TR.st hR (by decide)) (c := q1) (fk_X3_ticketOf  hq1).1 (bS_5 (fk_X3_ticketOf  hq1).2)) rfl (TR.st hR (by decide)) rfl hl.1 rfl (Nat.le_of_ble_eq_true rfl) dX8_fate_28 (Nat.zero_le _) (Nat.zero_le _)) hS (fun _ h => h.elim) (fun H locs _ _ hfr hS => ?_)
      have hR := gRep.keep hR hfr (fun _ _ h => h)
      refine lv_if_eq (tgt := 37) hx hb dX8_fate_31 (by decide) (fun c_3 => ?_) (fun c_3 => ?_)
      · refine lv_aload_n hx hb dX8_fate_37 rfl (lv_at hl 1 rfl) ?_
        refine va_get (D := D) (ci := 8) (v := .ref (β + off 2)) (C := RX8) (T := TX8) (N := 8) hx hb hts inX8 hown hK.1 (TR.mk0 hR) 0 rfl rfl 2 (by decide) lk19 (fun _ h9 => h9) rfl dX8_fate_38 ?_
        refine lv_aload_n hx hb dX8_fate_41 rfl (lv_at hl 1 rfl) ?_
        refine va_get (D := D) (ci := 8) (v := .ref (β + off 0)) (C := RX8) (T := TX8) (N := 8) hx hb hts inX8 hown hK.1 (TR.mk0 hR) 0 rfl rfl 0 (by decide) lk10 (fun _ h9 => h9) rfl dX8_fate_42 ?_
        refine gm_cv (gm_call (As := [.ref (β + off 0)]) (rest := []) (ci := 3) (q := (RX3, TX3, 14)) ⟨hx, hb, hml, hown, hts⟩ hK (c_X3_copy l D cy (β + off 2) (β + off 0) (vw 2 X) (vw 0 X) (by have q9 := off_ne (j := 2) (k := 0) (show (2 : Nat) ≠ 0 by decide); omega)) (cwV 1 hts gX8_fate_X3_copyFrom rfl rfl rfl (by decide +kernel) ⟨Nat.le_of_ble_eq_true rfl, Nat.le_of_ble_eq_true rfl⟩) (SR.mk0 (TR.st hR (by decide))) rfl ⟨TR.st hR (by decide), TR.st hR (by decide)⟩ rfl hl.1 rfl (Nat.le_of_ble_eq_true rfl) dX8_fate_45 (Nat.zero_le _) (Nat.zero_le _)) hS (TA_D (by decide) (by decide)) (fun H locs hRR _ hfr hS => ?_)
        have hR := TR.mrgD hR (by decide) (by decide) hRR (show (2 : Nat) ≠ 0 by decide) hfr
        obtain ⟨X1, eX1⟩ : ∃ Y : gM, Y = putS X 2 (vw 0 X) := ⟨_, rfl⟩
        rw [← eX1] at hR
        refine lv_aload_n hx hb dX8_fate_48 rfl (lv_at hl 1 rfl) ?_
        refine va_get (D := D) (ci := 8) (v := .ref (β + off 2)) (C := RX8) (T := TX8) (N := 8) hx hb hts inX8 hown hK.1 (TR.mk0 hR) 0 rfl rfl 2 (by decide) lk19 (fun _ h9 => h9) rfl dX8_fate_49 ?_
        refine lv_iload_n hx hb dX8_fate_52 rfl (lv_at hl 2 rfl) ?_
        refine gm_cq (gm_call (As := [.int a1]) (rest := []) (ci := 3) (q := (RX3, TX3, 14)) ⟨hx, hb, hml, hown, hts⟩ hK (c_X3_ticketOf l D cy (β + off 2) (vw 2 X1) a1) (cwV 1 hts gX8_fate_X3_ticketOf rfl rfl rfl (by decide +kernel) ⟨Nat.le_of_ble_eq_true rfl, Nat.le_of_ble_eq_true rfl⟩) (SR.mk0 (TR.st hR (by decide))) rfl (TR.st hR (by decide)) rfl hl.1 rfl (Nat.le_of_ble_eq_true rfl) dX8_fate_53 (Nat.zero_le _) (Nat.zero_le _)) hS (fun _ h => h.elim) (fun H locs _ _ hfr hS => ?_)
        have hR := gRep.keep hR hfr (fun _ _ h => h)
        rcases hq4 : f_X3_ticketOf (vw 2 X1) a1 with _ | q4
        · refine W.eq (g2 := F0 m 56 ls [.null]) rfl ?_
          refine lv_astoreN (lv' := [(4, .null), (3, .ref (β + off 0 + q1)), (0, .ref β), (1, .int a1), (2, .int a2)]) hx hb dX8_fate_56 hl (by decide) rfl (fun ls hl => ?_)
          refine lv_iconst (v := 1) hx hb dX8_fate_58 (by decide) ?_
          refine lv_istore (lv' := [(5, .int 1), (4, .null), (3, .ref (β + off 0 + q1)), (0, .ref β), (1, .int a1), (2, .int a2)]) hx hb dX8_fate_59 hl (by decide) rfl (fun ls hl => ?_)
          refine gm_q (Q2 := MQ below (gQi (lf_X8_fate_61n a1 a2 q1 (fun X2 k_5w5 =>
                ((-5), X2)) 2147483648 X1 1).1 (TR D cy β (lf_X8_fate_61n a1 a2 q1 (fun X2 k_5w5 =>
                ((-5), X2)) 2147483648 X1 1).2) (TA β)) args s 0 0 (TA β)) (by simp only [p_X8_fate, ↓if_neg c_2, ↓if_pos c_3, ↓gOpt_s hq1, ↓gOpt_n hq4, ← eX1]) ?_
          refine lp_X8_fate_61n ⟨hx, hb, hr, hts, hown, hlocks, hml, hK⟩ β a1 a2 q1 (fk_X3_ticketOf  hq1).1 (fk_X3_ticketOf  hq1).2 _ (fun X2 k_5w5 hbk_5w5 H locs ls hR hS hl => ?_) 2147483648 X1 1 (by decide) (by omega) _ _ _ hR hS (lv_sub hl [3, 4, 5, 2, 1, 0] rfl)
          refine lv_bipush (v := (-5)) hx hb dX8_fate_104 (by decide) ?_
          exact gm_iret hx hb hr hlocks hS (by (try simp only [p_X8_fate, ↓if_neg c_2, ↓if_pos c_3, ↓gOpt_s hq1, ↓gOpt_n hq4, ← eX1]); (try rfl)) (by (try simp only [p_X8_fate, ↓if_neg c_2, ↓if_pos c_3, ↓gOpt_s hq1, ↓gOpt_n hq4, ← eX1]); exact hR) dX8_fate_106
        · refine W.eq (g2 := F0 m 56 ls [.ref (β + off 2 + q4)]) rfl ?_
          refine lv_astore (lv' := [(4, .ref (β + off 2 + q4)), (3, .ref (β + off 0 + q1)), (0, .ref β), (1, .int a1), (2, .int a2)]) hx hb dX8_fate_56 hl (by decide) rfl (fun ls hl => ?_)
          refine lv_iconst (v := 1) hx hb dX8_fate_58 (by decide) ?_
          refine lv_istore (lv' := [(5, .int 1), (4, .ref (β + off 2 + q4)), (3, .ref (β + off 0 + q1)), (0, .ref β), (1, .int a1), (2, .int a2)]) hx hb dX8_fate_59 hl (by decide) rfl (fun ls hl => ?_)
          refine gm_q (Q2 := MQ below (gQi (lf_X8_fate_61 a1 a2 q1 q4 (fun X3 k_5w6 =>
                ((-5), X3)) 2147483648 X1 1).1 (TR D cy β (lf_X8_fate_61 a1 a2 q1 q4 (fun X3 k_5w6 =>
                ((-5), X3)) 2147483648 X1 1).2) (TA β)) args s 0 0 (TA β)) (by simp only [p_X8_fate, ↓if_neg c_2, ↓if_pos c_3, ↓gOpt_s hq1, ↓gOpt_s hq4, ← eX1]) ?_
          refine lp_X8_fate_61 ⟨hx, hb, hr, hts, hown, hlocks, hml, hK⟩ β a1 a2 q1 q4 (fk_X3_ticketOf  hq1).1 (fk_X3_ticketOf  hq1).2 (fk_X3_ticketOf  hq4).1 (fk_X3_ticketOf  hq4).2 _ (fun X3 k_5w6 hbk_5w6 H locs ls hR hS hl => ?_) 2147483648 X1 1 (by decide) (by omega) _ _ _ hR hS (lv_sub hl [3, 4, 5, 2, 1, 0] rfl)
          refine lv_bipush (v := (-5)) hx hb dX8_fate_104 (by decide) ?_
          exact gm_iret hx hb hr hlocks hS (by (try simp only [p_X8_fate, ↓if_neg c_2, ↓if_pos c_3, ↓gOpt_s hq1, ↓gOpt_s hq4, ← eX1]); (try rfl)) (by (try simp only [p_X8_fate, ↓if_neg c_2, ↓if_pos c_3, ↓gOpt_s hq1, ↓gOpt_s hq4, ← eX1]); exact hR) dX8_fate_106
      · refine lv_bipush (v := (-4)) hx hb dX8_fate_34 (by decide) ?_
        exact gm_iret hx hb hr hlocks hS (by (try simp only [p_X8_fate, ↓if_neg c_2, ↓if_neg c_3, ↓gOpt_s hq1]); (try rfl)) (by (try simp only [p_X8_fate, ↓if_neg c_2, ↓if_neg c_3, ↓gOpt_s hq1]); exact hR) dX8_fate_36
    · refine lv_bipush (v := (-2)) hx hb dX8_fate_24 (by decide) ?_
      exact gm_iret hx hb hr hlocks hS (by (try simp only [p_X8_fate, ↓if_pos c_2, ↓gOpt_s hq1]); (try rfl)) (by (try simp only [p_X8_fate, ↓if_pos c_2, ↓gOpt_s hq1]); exact hR) dX8_fate_26
