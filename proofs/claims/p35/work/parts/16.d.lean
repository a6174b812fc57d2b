theorem ln_no {X : gM} (h : Iv X) (a : Int32) : ¬ f_X8_line X a 0 = 0 := by
  obtain ⟨Y, hR⟩ := h
  obtain ⟨tc, oc, sl, ph, mn, hs⟩ := hR.1
  unfold f_X8_line
  rcases line_arg a with ⟨e1, -⟩ | ⟨l, hl, rfl, e1, -⟩
  · rw [e1, if_pos rfl]
    decide
  · have hL := (hs.lin hl).1
    rw [e1, if_neg (show ¬ (1 : Int32) = 0 by decide), if_pos rfl, lineOf_n hl, hs.1.g (LL0 hl), hL.1]
    intro c
    have c2 := congrArg Int32.toInt c
    rw [nI_toInt (by omega), tx_z] at c2
    omega
def lf_L_lays_52 (a2 : Int32) (k_3 : Nat) (y_4 : Int32) (y_5 : Int32) (y_6 : Int32) (K : (gM) → (Int32) → (Nat) → (Int32 × gM)) : Nat → (gM) → (Int32) → (Nat) → (Int32 × gM)
  | 0, Z, x_2, k_7 => K Z x_2 k_7
  | n + 1, Z, x_2, k_7 =>
    if y_6 ≤ nI k_7 then
      K Z x_2 k_7
    else
      let X1 := (p_X8_addStation Z (nI k_3) (f_L_part (y_4 >>> ((nI ((3 * k_7) + 1)) &&& 31)) (f_X8_line Z (nI k_3) 0))).2
      lf_L_lays_52 a2 k_3 y_4 y_5 y_6 K n X1 (x_2 + ((p_X8_addStation Z (nI k_3) (f_L_part (y_4 >>> ((nI ((3 * k_7) + 1)) &&& 31)) (f_X8_line Z (nI k_3) 0))).1)) (k_7 + 1)
def lf_L_lays_4 (a2 : Int32) (K : (gM) → (Int32) → (Nat) → (Int32 × gM)) : Nat → (gM) → (Int32) → (Nat) → (Int32 × gM)
  | 0, Z, x_2, k_3 => K Z x_2 k_3
  | n + 1, Z, x_2, k_3 =>
    if 2 ≤ nI k_3 then
      K Z x_2 k_3
    else
      let X1 := (p_X8_build Z (nI k_3) ((2 : Int32) + (f_L_part (a2 >>> ((nI (3 * k_3)) &&& 31)) 11))).2
      lf_L_lays_52 a2 k_3 (a2 >>> ((nI (3 * k_3)) &&& 31)) ((p_X8_build Z (nI k_3) ((2 : Int32) + (f_L_part (a2 >>> ((nI (3 * k_3)) &&& 31)) 11))).1) ((2 : Int32) + (f_L_part ((a2 >>> ((nI (3 * k_3)) &&& 31)) >>> (2 &&& 31)) 3)) (fun X2 x_2w4 k_7w4 =>
            if f_X8_line X2 (nI k_3) 4 = 1 then
              if f_X8_station X2 (nI (10 * k_3)) 0 = 0 then
                let X4 := (p_X8_addStation X2 (nI k_3) 1).2
                lf_L_lays_4 a2 K n X4 (x_2w4 + ((p_X8_addStation X2 (nI k_3) 1).1)) (k_3 + 1)
              else
                let X3 := (p_X8_addStation X2 (nI k_3) 0).2
                lf_L_lays_4 a2 K n X3 (x_2w4 + ((p_X8_addStation X2 (nI k_3) 0).1)) (k_3 + 1)
            else
              lf_L_lays_4 a2 K n X2 x_2w4 (k_3 + 1)) 2147483648 X1 (x_2 + ((p_X8_build Z (nI k_3) ((2 : Int32) + (f_L_part (a2 >>> ((nI (3 * k_3)) &&& 31)) 11))).1)) 0
def p_L_lays (X : gM) (a2 : Int32) : Int32 × gM :=
  lf_L_lays_4 a2 (fun X1 x_2w1 k_3w1 =>
        (x_2w1, X1)) 2147483648 X 0 0
set_option maxHeartbeats 4000000 in
set_option maxRecDepth 100000 in
theorem lp_L_lays_52 {p : Program} {l : Launch} {e : Env} {s : State} {m : MethodId} {args : Array Value} {below : List Frame} {meth : Method} {c0 : Code} {D : va_G} {cy : Nat → ClassId} (C : gCtx cL_lays 8 (some .int) RL wsK_lays D cy p s m args meth c0) (β : Nat) (a2 : Int32) (k_3 : Nat) (y_4 : Int32) (y_5 : Int32) (y_6 : Int32) (hb_3 : k_3 < 2147483648)
    (K : (gM) → (Int32) → (Nat) → (Int32 × gM)) (hexit : ∀ (Z : gM) (x_2 : Int32) (k_7 : Nat), Iv Z → k_7 ≤ 2147483647 → ∀ (H : Heap) (locs : List Loc) (ls : Array Slot), TR D cy β Z H → va_S (TA β) s.heap H locs → lv_has ls 8 [(0, .ref β), (1, .int a2), (2, .int x_2), (3, .int (nI k_3)), (4, .int y_4), (5, .int y_5), (6, .int y_6), (7, .int (nI k_7))] → W p l e { frames := 6, cells := 0, slots := 0, locals := 135 } s m args below meth c0 H locs 0 0 (MQ below (gQi (K Z x_2 k_7).1 (TR D cy β (K Z x_2 k_7).2) (TA β)) args s 0 0 (TA β)) (F0 m 91 ls [])) :
    ∀ (n : Nat) (Z : gM) (x_2 : Int32) (k_7 : Nat), Iv Z → k_7 ≤ 2147483647 → 2147483647 < k_7 + n → ∀ (H : Heap) (locs : List Loc) (ls : Array Slot), TR D cy β Z H → va_S (TA β) s.heap H locs → lv_has ls 8 [(0, .ref β), (1, .int a2), (2, .int x_2), (3, .int (nI k_3)), (4, .int y_4), (5, .int y_5), (6, .int y_6), (7, .int (nI k_7))] → W p l e { frames := 6, cells := 0, slots := 0, locals := 135 } s m args below meth c0 H locs 0 0 (MQ below (gQi (lf_L_lays_52 a2 k_3 y_4 y_5 y_6 K n Z x_2 k_7).1 (TR D cy β (lf_L_lays_52 a2 k_3 y_4 y_5 y_6 K n Z x_2 k_7).2) (TA β)) args s 0 0 (TA β)) (F0 m 52 ls []) := by
  obtain ⟨hx, hb, hr, hts, hown, hlocks, hml, hK⟩ := C
  intro n
  induction n with
  | zero =>
    intro Z x_2 k_7 hz hb_7 hme
    exact absurd hme (by omega)
  | succ n ih =>
    intro Z x_2 k_7 hz hb_7 hme H locs ls hR hS hl
    refine lv_iload hx hb dL_lays_52 (lv_at hl 7 rfl) ?_
    refine lv_iload hx hb dL_lays_54 (lv_at hl 6 rfl) ?_
    refine lv_icmp_ge (tgt := 91) hx hb dL_lays_56 (by decide) (fun c_1 => ?_) (fun c_1 => ?_)
    · refine gm_q (Q2 := MQ below (gQi (K Z x_2 k_7).1 (TR D cy β (K Z x_2 k_7).2) (TA β)) args s 0 0 (TA β)) (by simp only [lf_L_lays_52, ↓if_pos c_1]) ?_
      exact hexit Z x_2 k_7 hz hb_7  _ _ _ hR hS (lv_sub hl [0, 1, 2, 3, 4, 5, 6, 7] rfl)
    · have lt_2 : k_7 < 2147483647 := g_big (Nat.lt_of_le_of_lt hb_7 (by decide)) c_1
      refine lv_iload_n hx hb dL_lays_59 rfl (lv_at hl 2 rfl) ?_
      refine lv_aload_n hx hb dL_lays_60 rfl (lv_at hl 0 rfl) ?_
      refine lv_iload_n hx hb dL_lays_61 rfl (lv_at hl 3 rfl) ?_
      refine lv_iload hx hb dL_lays_62 (lv_at hl 4 rfl) ?_
      refine lv_iconst (v := 3) hx hb dL_lays_64 (by decide) ?_
      refine lv_iload hx hb dL_lays_65 (lv_at hl 7 rfl) ?_
      refine lv_imul hx hb dL_lays_67 ?_
      rw [show (3 * (nI k_7) : Int32) = nI (3 * k_7) from pk_mul 3 _]
      refine lv_iconst (v := 1) hx hb dL_lays_68 (by decide) ?_
      refine lv_iadd hx hb dL_lays_69 ?_
      rw [show ((nI (3 * k_7)) + 1 : Int32) = nI ((3 * k_7) + 1) from nI_add _ 1]
      refine lv_ishr hx hb dL_lays_70 ?_
      refine lv_aload_n hx hb dL_lays_71 rfl (lv_at hl 0 rfl) ?_
      refine lv_iload_n hx hb dL_lays_72 rfl (lv_at hl 3 rfl) ?_
      refine lv_iconst (v := 0) hx hb dL_lays_73 (by decide) ?_
      refine gm_ci (gm_call (As := [.int (nI k_3), .int 0]) (rest := [.int (y_4 >>> ((nI ((3 * k_7) + 1)) &&& 31)), .int (nI k_3), .ref β, .int x_2]) (ci := 8) (q := (RX8, TX8, 8)) ⟨hx, hb, hml, hown, hts⟩ hK (c_X8_line l D cy β Z (nI k_3) 0) (cwV 2 hts (kIn kv_line) rfl rfl rfl (by decide +kernel) ⟨Nat.le_of_ble_eq_true rfl, Nat.le_of_ble_eq_true rfl⟩) (TR.mk0 hR) rfl hR rfl hl.1 rfl (Nat.le_of_ble_eq_true rfl) dL_lays_74 (Nat.zero_le _) (Nat.zero_le _)) hS (fun _ h => h.elim) (fun H locs _ _ hfr hS => ?_)
      have hR := gRep.keep hR hfr (fun _ _ h => h)
      refine gm_ci (gm_callS (As := [.int (y_4 >>> ((nI ((3 * k_7) + 1)) &&& 31)), .int (f_X8_line Z (nI k_3) 0)]) (rest := [.int (nI k_3), .ref β, .int x_2]) ⟨hx, hb, hml, hown, hts⟩ hK (c_L_part l D cy (y_4 >>> ((nI ((3 * k_7) + 1)) &&& 31)) (f_X8_line Z (nI k_3) 0) (ln_no hz (nI k_3))) (va_cwS 2 hts (kIn ks_part) rfl rfl rfl (by decide +kernel) ⟨Nat.le_of_ble_eq_true rfl, Nat.le_of_ble_eq_true rfl⟩) trivial rfl hl.1 rfl (Nat.le_of_ble_eq_true rfl) dL_lays_77 (Nat.zero_le _) (Nat.zero_le _)) hS (fun _ h => h.elim) (fun H locs _ _ hfr hS => ?_)
      have hR := gRep.keep hR hfr (fun _ _ h => h)
      refine gm_ci (gm_call (As := [.int (nI k_3), .int (f_L_part (y_4 >>> ((nI ((3 * k_7) + 1)) &&& 31)) (f_X8_line Z (nI k_3) 0))]) (rest := [.int x_2]) (ci := 8) (q := (RX8, TX8, 8)) ⟨hx, hb, hml, hown, hts⟩ hK (c_X8_addStation l D cy β Z (nI k_3) (f_L_part (y_4 >>> ((nI ((3 * k_7) + 1)) &&& 31)) (f_X8_line Z (nI k_3) 0)) (Iv.ok hz)) (cwV 2 hts (kIn kv_addStation) rfl rfl rfl (by decide +kernel) ⟨Nat.le_of_ble_eq_true rfl, Nat.le_of_ble_eq_true rfl⟩) (TR.mk0 hR) rfl hR rfl hl.1 rfl (Nat.le_of_ble_eq_true rfl) dL_lays_80 (Nat.zero_le _) (Nat.zero_le _)) hS (fun _ h => h) (fun H locs hR _ _ hS => ?_)
      obtain ⟨X1, eX1⟩ : ∃ Y : gM, Y = (p_X8_addStation Z (nI k_3) (f_L_part (y_4 >>> ((nI ((3 * k_7) + 1)) &&& 31)) (f_X8_line Z (nI k_3) 0))).2 := ⟨_, rfl⟩
      rw [← eX1] at hR
      have iX1 : Iv X1 := by rw [eX1]; exact I_addStation hz (nI k_3) (f_L_part (y_4 >>> ((nI ((3 * k_7) + 1)) &&& 31)) (f_X8_line Z (nI k_3) 0))
      refine lv_iadd hx hb dL_lays_83 ?_
      refine lv_istore_n (lv' := [(2, .int (x_2 + ((p_X8_addStation Z (nI k_3) (f_L_part (y_4 >>> ((nI ((3 * k_7) + 1)) &&& 31)) (f_X8_line Z (nI k_3) 0))).1))), (0, .ref β), (1, .int a2), (3, .int (nI k_3)), (4, .int y_4), (5, .int y_5), (6, .int y_6), (7, .int (nI k_7))]) hx hb dL_lays_84 rfl hl (by decide) rfl (fun ls hl => ?_)
      refine lv_iinc (v := nI (k_7 + 1)) (lv' := [(7, .int (nI (k_7 + 1))), (2, .int (x_2 + ((p_X8_addStation Z (nI k_3) (f_L_part (y_4 >>> ((nI ((3 * k_7) + 1)) &&& 31)) (f_X8_line Z (nI k_3) 0))).1))), (0, .ref β), (1, .int a2), (3, .int (nI k_3)), (4, .int y_4), (5, .int y_5), (6, .int y_6)]) hx hb dL_lays_85 hl (k := 7) rfl (nI_1 _) (by decide) rfl (fun ls hl => ?_)
      refine lv_goto (tgt := 52) hx hb dL_lays_88 (by decide) ?_
      refine gm_q (Q2 := MQ below (gQi (lf_L_lays_52 a2 k_3 y_4 y_5 y_6 K n X1 (x_2 + ((p_X8_addStation Z (nI k_3) (f_L_part (y_4 >>> ((nI ((3 * k_7) + 1)) &&& 31)) (f_X8_line Z (nI k_3) 0))).1)) (k_7 + 1)).1 (TR D cy β (lf_L_lays_52 a2 k_3 y_4 y_5 y_6 K n X1 (x_2 + ((p_X8_addStation Z (nI k_3) (f_L_part (y_4 >>> ((nI ((3 * k_7) + 1)) &&& 31)) (f_X8_line Z (nI k_3) 0))).1)) (k_7 + 1)).2) (TA β)) args s 0 0 (TA β)) (by simp only [lf_L_lays_52, ↓if_neg c_1, ← eX1]) ?_
      exact ih X1 (x_2 + ((p_X8_addStation Z (nI k_3) (f_L_part (y_4 >>> ((nI ((3 * k_7) + 1)) &&& 31)) (f_X8_line Z (nI k_3) 0))).1)) (k_7 + 1) iX1 lt_2 (by omega) _ _ _ hR hS (lv_sub hl [2, 3, 1, 4, 5, 6, 7, 0] rfl)
set_option maxHeartbeats 4000000 in
set_option maxRecDepth 100000 in
theorem lp_L_lays_4 {p : Program} {l : Launch} {e : Env} {s : State} {m : MethodId} {args : Array Value} {below : List Frame} {meth : Method} {c0 : Code} {D : va_G} {cy : Nat → ClassId} (C : gCtx cL_lays 8 (some .int) RL wsK_lays D cy p s m args meth c0) (β : Nat) (a2 : Int32) 
    (K : (gM) → (Int32) → (Nat) → (Int32 × gM)) (hexit : ∀ (Z : gM) (x_2 : Int32) (k_3 : Nat), Iv Z → k_3 ≤ 2147483647 → ∀ (H : Heap) (locs : List Loc) (ls : Array Slot), TR D cy β Z H → va_S (TA β) s.heap H locs → lv_has ls 8 [(0, .ref β), (1, .int a2), (2, .int x_2), (3, .int (nI k_3))] → W p l e { frames := 6, cells := 0, slots := 0, locals := 135 } s m args below meth c0 H locs 0 0 (MQ below (gQi (K Z x_2 k_3).1 (TR D cy β (K Z x_2 k_3).2) (TA β)) args s 0 0 (TA β)) (F0 m 132 ls [])) :
    ∀ (n : Nat) (Z : gM) (x_2 : Int32) (k_3 : Nat), Iv Z → k_3 ≤ 2147483647 → 2147483647 < k_3 + n → ∀ (H : Heap) (locs : List Loc) (ls : Array Slot), TR D cy β Z H → va_S (TA β) s.heap H locs → lv_has ls 8 [(0, .ref β), (1, .int a2), (2, .int x_2), (3, .int (nI k_3))] → W p l e { frames := 6, cells := 0, slots := 0, locals := 135 } s m args below meth c0 H locs 0 0 (MQ below (gQi (lf_L_lays_4 a2 K n Z x_2 k_3).1 (TR D cy β (lf_L_lays_4 a2 K n Z x_2 k_3).2) (TA β)) args s 0 0 (TA β)) (F0 m 4 ls []) := by
  obtain ⟨hx, hb, hr, hts, hown, hlocks, hml, hK⟩ := C
  intro n
  induction n with
  | zero =>
    intro Z x_2 k_3 hz hb_3 hme
    exact absurd hme (by omega)
  | succ n ih =>
    intro Z x_2 k_3 hz hb_3 hme H locs ls hR hS hl
    refine lv_iload_n hx hb dL_lays_4 rfl (lv_at hl 3 rfl) ?_
    refine lv_iconst (v := 2) hx hb dL_lays_5 (by decide) ?_
    refine lv_icmp_ge (tgt := 132) hx hb dL_lays_6 (by decide) (fun c_1 => ?_) (fun c_1 => ?_)
    · have ge_2 : 2 ≤ k_3 := g_ge2 (Nat.lt_of_le_of_lt hb_3 (by decide)) (by decide) c_1
      refine gm_q (Q2 := MQ below (gQi (K Z x_2 k_3).1 (TR D cy β (K Z x_2 k_3).2) (TA β)) args s 0 0 (TA β)) (by simp only [lf_L_lays_4, ↓if_pos c_1]) ?_
      exact hexit Z x_2 k_3 hz hb_3  _ _ _ hR hS (lv_sub hl [0, 1, 2, 3] rfl)
    · have lt_3 : k_3 < 2 := g_lt (Nat.lt_of_le_of_lt hb_3 (by decide)) (by decide) c_1
      refine lv_iload_n hx hb dL_lays_9 rfl (lv_at hl 1 rfl) ?_
      refine lv_iconst (v := 3) hx hb dL_lays_10 (by decide) ?_
      refine lv_iload_n hx hb dL_lays_11 rfl (lv_at hl 3 rfl) ?_
      refine lv_imul hx hb dL_lays_12 ?_
      rw [show (3 * (nI k_3) : Int32) = nI (3 * k_3) from pk_mul 3 _]
      refine lv_ishr hx hb dL_lays_13 ?_
      refine lv_istore (lv' := [(4, .int (a2 >>> ((nI (3 * k_3)) &&& 31))), (0, .ref β), (1, .int a2), (2, .int x_2), (3, .int (nI k_3))]) hx hb dL_lays_14 hl (by decide) rfl (fun ls hl => ?_)
      refine lv_aload_n hx hb dL_lays_16 rfl (lv_at hl 1 rfl) ?_
      refine lv_iload_n hx hb dL_lays_17 rfl (lv_at hl 4 rfl) ?_
      refine lv_iconst (v := 2) hx hb dL_lays_18 (by decide) ?_
      refine lv_iload hx hb dL_lays_19 (lv_at hl 0 rfl) ?_
      refine lv_bipush (v := 11) hx hb dL_lays_21 (by decide) ?_
      refine gm_ci (gm_callS (As := [.int (a2 >>> ((nI (3 * k_3)) &&& 31)), .int 11]) (rest := [.int 2, .int (nI k_3), .ref β]) ⟨hx, hb, hml, hown, hts⟩ hK (c_L_part l D cy (a2 >>> ((nI (3 * k_3)) &&& 31)) 11 (by decide)) (va_cwS 2 hts (kIn ks_part) rfl rfl rfl (by decide +kernel) ⟨Nat.le_of_ble_eq_true rfl, Nat.le_of_ble_eq_true rfl⟩) trivial rfl hl.1 rfl (Nat.le_of_ble_eq_true rfl) dL_lays_23 (Nat.zero_le _) (Nat.zero_le _)) hS (fun _ h => h.elim) (fun H locs _ _ hfr hS => ?_)
      have hR := gRep.keep hR hfr (fun _ _ h => h)
      refine lv_iadd hx hb dL_lays_26 ?_
      refine gm_ci (gm_call (As := [.int (nI k_3), .int ((2 : Int32) + (f_L_part (a2 >>> ((nI (3 * k_3)) &&& 31)) 11))]) (rest := []) (ci := 8) (q := (RX8, TX8, 8)) ⟨hx, hb, hml, hown, hts⟩ hK (c_X8_build l D cy β Z (nI k_3) ((2 : Int32) + (f_L_part (a2 >>> ((nI (3 * k_3)) &&& 31)) 11)) (Iv.ok hz)) (cwV 2 hts (kIn kv_build) rfl rfl rfl (by decide +kernel) ⟨Nat.le_of_ble_eq_true rfl, Nat.le_of_ble_eq_true rfl⟩) (TR.mk0 hR) rfl hR rfl hl.1 rfl (Nat.le_of_ble_eq_true rfl) dL_lays_27 (Nat.zero_le _) (Nat.zero_le _)) hS (fun _ h => h) (fun H locs hR _ _ hS => ?_)
      obtain ⟨X1, eX1⟩ : ∃ Y : gM, Y = (p_X8_build Z (nI k_3) ((2 : Int32) + (f_L_part (a2 >>> ((nI (3 * k_3)) &&& 31)) 11))).2 := ⟨_, rfl⟩
      rw [← eX1] at hR
      have iX1 : Iv X1 := by rw [eX1]; exact I_build hz (nI k_3) ((2 : Int32) + (f_L_part (a2 >>> ((nI (3 * k_3)) &&& 31)) 11))
      refine lv_istore (lv' := [(5, .int ((p_X8_build Z (nI k_3) ((2 : Int32) + (f_L_part (a2 >>> ((nI (3 * k_3)) &&& 31)) 11))).1)), (4, .int (a2 >>> ((nI (3 * k_3)) &&& 31))), (0, .ref β), (1, .int a2), (2, .int x_2), (3, .int (nI k_3))]) hx hb dL_lays_30 hl (by decide) rfl (fun ls hl => ?_)
      refine lv_iload_n hx hb dL_lays_32 rfl (lv_at hl 4 rfl) ?_
      refine lv_iload hx hb dL_lays_33 (lv_at hl 0 rfl) ?_
      refine lv_iadd hx hb dL_lays_35 ?_
      refine lv_istore_n (lv' := [(2, .int (x_2 + ((p_X8_build Z (nI k_3) ((2 : Int32) + (f_L_part (a2 >>> ((nI (3 * k_3)) &&& 31)) 11))).1))), (5, .int ((p_X8_build Z (nI k_3) ((2 : Int32) + (f_L_part (a2 >>> ((nI (3 * k_3)) &&& 31)) 11))).1)), (4, .int (a2 >>> ((nI (3 * k_3)) &&& 31))), (0, .ref β), (1, .int a2), (3, .int (nI k_3))]) hx hb dL_lays_36 rfl hl (by decide) rfl (fun ls hl => ?_)
      refine lv_iconst (v := 2) hx hb dL_lays_37 (by decide) ?_
      refine lv_iload hx hb dL_lays_38 (lv_at hl 2 rfl) ?_
      refine lv_iconst (v := 2) hx hb dL_lays_40 (by decide) ?_
      refine lv_ishr hx hb dL_lays_41 ?_
      refine lv_iconst (v := 3) hx hb dL_lays_42 (by decide) ?_
      refine gm_ci (gm_callS (As := [.int ((a2 >>> ((nI (3 * k_3)) &&& 31)) >>> (2 &&& 31)), .int 3]) (rest := [.int 2]) ⟨hx, hb, hml, hown, hts⟩ hK (c_L_part l D cy ((a2 >>> ((nI (3 * k_3)) &&& 31)) >>> (2 &&& 31)) 3 (by decide)) (va_cwS 2 hts (kIn ks_part) rfl rfl rfl (by decide +kernel) ⟨Nat.le_of_ble_eq_true rfl, Nat.le_of_ble_eq_true rfl⟩) trivial rfl hl.1 rfl (Nat.le_of_ble_eq_true rfl) dL_lays_43 (Nat.zero_le _) (Nat.zero_le _)) hS (fun _ h => h.elim) (fun H locs _ _ hfr hS => ?_)
      have hR := gRep.keep hR hfr (fun _ _ h => h)
      refine lv_iadd hx hb dL_lays_46 ?_
      refine lv_istore (lv' := [(6, .int ((2 : Int32) + (f_L_part ((a2 >>> ((nI (3 * k_3)) &&& 31)) >>> (2 &&& 31)) 3))), (2, .int (x_2 + ((p_X8_build Z (nI k_3) ((2 : Int32) + (f_L_part (a2 >>> ((nI (3 * k_3)) &&& 31)) 11))).1))), (5, .int ((p_X8_build Z (nI k_3) ((2 : Int32) + (f_L_part (a2 >>> ((nI (3 * k_3)) &&& 31)) 11))).1)), (4, .int (a2 >>> ((nI (3 * k_3)) &&& 31))), (0, .ref β), (1, .int a2), (3, .int (nI k_3))]) hx hb dL_lays_47 hl (by decide) rfl (fun ls hl => ?_)
      refine lv_iconst (v := 0) hx hb dL_lays_49 (by decide) ?_
      refine lv_istore (lv' := [(7, .int 0), (6, .int ((2 : Int32) + (f_L_part ((a2 >>> ((nI (3 * k_3)) &&& 31)) >>> (2 &&& 31)) 3))), (2, .int (x_2 + ((p_X8_build Z (nI k_3) ((2 : Int32) + (f_L_part (a2 >>> ((nI (3 * k_3)) &&& 31)) 11))).1))), (5, .int ((p_X8_build Z (nI k_3) ((2 : Int32) + (f_L_part (a2 >>> ((nI (3 * k_3)) &&& 31)) 11))).1)), (4, .int (a2 >>> ((nI (3 * k_3)) &&& 31))), (0, .ref β), (1, .int a2), (3, .int (nI k_3))]) hx hb dL_lays_50 hl (by decide) rfl (fun ls hl => ?_)
      refine gm_q (Q2 := MQ below (gQi (lf_L_lays_52 a2 k_3 (a2 >>> ((nI (3 * k_3)) &&& 31)) ((p_X8_build Z (nI k_3) ((2 : Int32) + (f_L_part (a2 >>> ((nI (3 * k_3)) &&& 31)) 11))).1) ((2 : Int32) + (f_L_part ((a2 >>> ((nI (3 * k_3)) &&& 31)) >>> (2 &&& 31)) 3)) (fun X2 x_2w4 k_7w4 =>
            if f_X8_line X2 (nI k_3) 4 = 1 then
              if f_X8_station X2 (nI (10 * k_3)) 0 = 0 then
                let X4 := (p_X8_addStation X2 (nI k_3) 1).2
                lf_L_lays_4 a2 K n X4 (x_2w4 + ((p_X8_addStation X2 (nI k_3) 1).1)) (k_3 + 1)
              else
                let X3 := (p_X8_addStation X2 (nI k_3) 0).2
                lf_L_lays_4 a2 K n X3 (x_2w4 + ((p_X8_addStation X2 (nI k_3) 0).1)) (k_3 + 1)
            else
              lf_L_lays_4 a2 K n X2 x_2w4 (k_3 + 1)) 2147483648 X1 (x_2 + ((p_X8_build Z (nI k_3) ((2 : Int32) + (f_L_part (a2 >>> ((nI (3 * k_3)) &&& 31)) 11))).1)) 0).1 (TR D cy β (lf_L_lays_52 a2 k_3 (a2 >>> ((nI (3 * k_3)) &&& 31)) ((p_X8_build Z (nI k_3) ((2 : Int32) + (f_L_part (a2 >>> ((nI (3 * k_3)) &&& 31)) 11))).1) ((2 : Int32) + (f_L_part ((a2 >>> ((nI (3 * k_3)) &&& 31)) >>> (2 &&& 31)) 3)) (fun X2 x_2w4 k_7w4 =>
            if f_X8_line X2 (nI k_3) 4 = 1 then
              if f_X8_station X2 (nI (10 * k_3)) 0 = 0 then
                let X4 := (p_X8_addStation X2 (nI k_3) 1).2
                lf_L_lays_4 a2 K n X4 (x_2w4 + ((p_X8_addStation X2 (nI k_3) 1).1)) (k_3 + 1)
              else
                let X3 := (p_X8_addStation X2 (nI k_3) 0).2
                lf_L_lays_4 a2 K n X3 (x_2w4 + ((p_X8_addStation X2 (nI k_3) 0).1)) (k_3 + 1)
            else
              lf_L_lays_4 a2 K n X2 x_2w4 (k_3 + 1)) 2147483648 X1 (x_2 + ((p_X8_build Z (nI k_3) ((2 : Int32) + (f_L_part (a2 >>> ((nI (3 * k_3)) &&& 31)) 11))).1)) 0).2) (TA β)) args s 0 0 (TA β)) (by simp only [lf_L_lays_4, ↓if_neg c_1, ← eX1]) ?_
      refine lp_L_lays_52 ⟨hx, hb, hr, hts, hown, hlocks, hml, hK⟩ β a2 k_3 (a2 >>> ((nI (3 * k_3)) &&& 31)) ((p_X8_build Z (nI k_3) ((2 : Int32) + (f_L_part (a2 >>> ((nI (3 * k_3)) &&& 31)) 11))).1) ((2 : Int32) + (f_L_part ((a2 >>> ((nI (3 * k_3)) &&& 31)) >>> (2 &&& 31)) 3)) (by omega) _ (fun X2 x_2w4 k_7w4 hzX2 hbk_7w4 H locs ls hR hS hl => ?_) 2147483648 X1 (x_2 + ((p_X8_build Z (nI k_3) ((2 : Int32) + (f_L_part (a2 >>> ((nI (3 * k_3)) &&& 31)) 11))).1)) 0 iX1 (by decide) (by omega) _ _ _ hR hS (lv_sub hl [5, 6, 2, 7, 4, 3, 1, 0] rfl)
      refine lv_aload_n hx hb dL_lays_91 rfl (lv_at hl 0 rfl) ?_
      refine lv_iload_n hx hb dL_lays_92 rfl (lv_at hl 3 rfl) ?_
      refine lv_iconst (v := 4) hx hb dL_lays_93 (by decide) ?_
      refine gm_ci (gm_call (As := [.int (nI k_3), .int 4]) (rest := []) (ci := 8) (q := (RX8, TX8, 8)) ⟨hx, hb, hml, hown, hts⟩ hK (c_X8_line l D cy β X2 (nI k_3) 4) (cwV 2 hts (kIn kv_line) rfl rfl rfl (by decide +kernel) ⟨Nat.le_of_ble_eq_true rfl, Nat.le_of_ble_eq_true rfl⟩) (TR.mk0 hR) rfl hR rfl hl.1 rfl (Nat.le_of_ble_eq_true rfl) dL_lays_94 (Nat.zero_le _) (Nat.zero_le _)) hS (fun _ h => h.elim) (fun H locs _ _ hfr hS => ?_)
      have hR := gRep.keep hR hfr (fun _ _ h => h)
      refine lv_iconst (v := 1) hx hb dL_lays_97 (by decide) ?_
      refine lv_icmp_ne (tgt := 126) hx hb dL_lays_98 (by decide) (fun c_5 => ?_) (fun c_5 => ?_)
      · refine lv_iinc (v := nI (k_3 + 1)) (lv' := [(3, .int (nI (k_3 + 1))), (0, .ref β), (1, .int a2), (2, .int x_2w4), (4, .int (a2 >>> ((nI (3 * k_3)) &&& 31))), (5, .int ((p_X8_build Z (nI k_3) ((2 : Int32) + (f_L_part (a2 >>> ((nI (3 * k_3)) &&& 31)) 11))).1)), (6, .int ((2 : Int32) + (f_L_part ((a2 >>> ((nI (3 * k_3)) &&& 31)) >>> (2 &&& 31)) 3))), (7, .int (nI k_7w4))]) hx hb dL_lays_126 hl (k := 3) rfl (nI_1 _) (by decide) rfl (fun ls hl => ?_)
        refine lv_goto (tgt := 4) hx hb dL_lays_129 (by decide) ?_
        refine gm_q (Q2 := MQ below (gQi (lf_L_lays_4 a2 K n X2 x_2w4 (k_3 + 1)).1 (TR D cy β (lf_L_lays_4 a2 K n X2 x_2w4 (k_3 + 1)).2) (TA β)) args s 0 0 (TA β)) (by simp only [lf_L_lays_4, ↓if_neg c_1, ↓if_neg c_5, ← eX1]) ?_
        exact ih X2 x_2w4 (k_3 + 1) hzX2 (Nat.lt_of_lt_of_le lt_3 (by decide)) (by omega) _ _ _ hR hS (lv_sub hl [1, 2, 3, 0] rfl)
      · refine lv_iload_n hx hb dL_lays_101 rfl (lv_at hl 2 rfl) ?_
        refine lv_aload_n hx hb dL_lays_102 rfl (lv_at hl 0 rfl) ?_
        refine lv_iload_n hx hb dL_lays_103 rfl (lv_at hl 3 rfl) ?_
        refine lv_aload_n hx hb dL_lays_104 rfl (lv_at hl 0 rfl) ?_
        refine lv_bipush (v := 10) hx hb dL_lays_105 (by decide) ?_
        refine lv_iload_n hx hb dL_lays_107 rfl (lv_at hl 3 rfl) ?_
        refine lv_imul hx hb dL_lays_108 ?_
        rw [show (10 * (nI k_3) : Int32) = nI (10 * k_3) from pk_mul 10 _]
        refine lv_iconst (v := 0) hx hb dL_lays_109 (by decide) ?_
        refine gm_ci (gm_call (As := [.int (nI (10 * k_3)), .int 0]) (rest := [.int (nI k_3), .ref β, .int x_2w4]) (ci := 8) (q := (RX8, TX8, 8)) ⟨hx, hb, hml, hown, hts⟩ hK (c_X8_station l D cy β X2 (nI (10 * k_3)) 0) (cwV 2 hts (kIn kv_station) rfl rfl rfl (by decide +kernel) ⟨Nat.le_of_ble_eq_true rfl, Nat.le_of_ble_eq_true rfl⟩) (TR.mk0 hR) rfl hR rfl hl.1 rfl (Nat.le_of_ble_eq_true rfl) dL_lays_110 (Nat.zero_le _) (Nat.zero_le _)) hS (fun _ h => h.elim) (fun H locs _ _ hfr hS => ?_)
        have hR := gRep.keep hR hfr (fun _ _ h => h)
        refine lv_if_ne (tgt := 120) hx hb dL_lays_113 (by decide) (fun c_6 => ?_) (fun c_6 => ?_)
        · refine lv_iconst (v := 0) hx hb dL_lays_120 (by decide) ?_
          refine gm_ci (gm_call (As := [.int (nI k_3), .int 0]) (rest := [.int x_2w4]) (ci := 8) (q := (RX8, TX8, 8)) ⟨hx, hb, hml, hown, hts⟩ hK (c_X8_addStation l D cy β X2 (nI k_3) 0 (Iv.ok hzX2)) (cwV 2 hts (kIn kv_addStation) rfl rfl rfl (by decide +kernel) ⟨Nat.le_of_ble_eq_true rfl, Nat.le_of_ble_eq_true rfl⟩) (TR.mk0 hR) rfl hR rfl hl.1 rfl (Nat.le_of_ble_eq_true rfl) dL_lays_121 (Nat.zero_le _) (Nat.zero_le _)) hS (fun _ h => h) (fun H locs hR _ _ hS => ?_)
          obtain ⟨X3, eX3⟩ : ∃ Y : gM, Y = (p_X8_addStation X2 (nI k_3) 0).2 := ⟨_, rfl⟩
          rw [← eX3] at hR
          have iX3 : Iv X3 := by rw [eX3]; exact I_addStation hzX2 (nI k_3) 0
          refine lv_iadd hx hb dL_lays_124 ?_
          refine lv_istore_n (lv' := [(2, .int (x_2w4 + ((p_X8_addStation X2 (nI k_3) 0).1))), (0, .ref β), (1, .int a2), (3, .int (nI k_3)), (4, .int (a2 >>> ((nI (3 * k_3)) &&& 31))), (5, .int ((p_X8_build Z (nI k_3) ((2 : Int32) + (f_L_part (a2 >>> ((nI (3 * k_3)) &&& 31)) 11))).1)), (6, .int ((2 : Int32) + (f_L_part ((a2 >>> ((nI (3 * k_3)) &&& 31)) >>> (2 &&& 31)) 3))), (7, .int (nI k_7w4))]) hx hb dL_lays_125 rfl hl (by decide) rfl (fun ls hl => ?_)
          refine lv_iinc (v := nI (k_3 + 1)) (lv' := [(3, .int (nI (k_3 + 1))), (2, .int (x_2w4 + ((p_X8_addStation X2 (nI k_3) 0).1))), (0, .ref β), (1, .int a2), (4, .int (a2 >>> ((nI (3 * k_3)) &&& 31))), (5, .int ((p_X8_build Z (nI k_3) ((2 : Int32) + (f_L_part (a2 >>> ((nI (3 * k_3)) &&& 31)) 11))).1)), (6, .int ((2 : Int32) + (f_L_part ((a2 >>> ((nI (3 * k_3)) &&& 31)) >>> (2 &&& 31)) 3))), (7, .int (nI k_7w4))]) hx hb dL_lays_126 hl (k := 3) rfl (nI_1 _) (by decide) rfl (fun ls hl => ?_)
          refine lv_goto (tgt := 4) hx hb dL_lays_129 (by decide) ?_
          refine gm_q (Q2 := MQ below (gQi (lf_L_lays_4 a2 K n X3 (x_2w4 + ((p_X8_addStation X2 (nI k_3) 0).1)) (k_3 + 1)).1 (TR D cy β (lf_L_lays_4 a2 K n X3 (x_2w4 + ((p_X8_addStation X2 (nI k_3) 0).1)) (k_3 + 1)).2) (TA β)) args s 0 0 (TA β)) (by simp only [lf_L_lays_4, ↓if_neg c_1, ↓if_pos c_5, ↓if_neg c_6, ← eX1, ← eX3]) ?_
          exact ih X3 (x_2w4 + ((p_X8_addStation X2 (nI k_3) 0).1)) (k_3 + 1) iX3 (Nat.lt_of_lt_of_le lt_3 (by decide)) (by omega) _ _ _ hR hS (lv_sub hl [2, 3, 1, 0] rfl)
        · refine lv_iconst (v := 1) hx hb dL_lays_116 (by decide) ?_
          refine lv_goto (tgt := 121) hx hb dL_lays_117 (by decide) ?_
          refine gm_ci (gm_call (As := [.int (nI k_3), .int 1]) (rest := [.int x_2w4]) (ci := 8) (q := (RX8, TX8, 8)) ⟨hx, hb, hml, hown, hts⟩ hK (c_X8_addStation l D cy β X2 (nI k_3) 1 (Iv.ok hzX2)) (cwV 2 hts (kIn kv_addStation) rfl rfl rfl (by decide +kernel) ⟨Nat.le_of_ble_eq_true rfl, Nat.le_of_ble_eq_true rfl⟩) (TR.mk0 hR) rfl hR rfl hl.1 rfl (Nat.le_of_ble_eq_true rfl) dL_lays_121 (Nat.zero_le _) (Nat.zero_le _)) hS (fun _ h => h) (fun H locs hR _ _ hS => ?_)
          obtain ⟨X4, eX4⟩ : ∃ Y : gM, Y = (p_X8_addStation X2 (nI k_3) 1).2 := ⟨_, rfl⟩
          rw [← eX4] at hR
          have iX4 : Iv X4 := by rw [eX4]; exact I_addStation hzX2 (nI k_3) 1
          refine lv_iadd hx hb dL_lays_124 ?_
          refine lv_istore_n (lv' := [(2, .int (x_2w4 + ((p_X8_addStation X2 (nI k_3) 1).1))), (0, .ref β), (1, .int a2), (3, .int (nI k_3)), (4, .int (a2 >>> ((nI (3 * k_3)) &&& 31))), (5, .int ((p_X8_build Z (nI k_3) ((2 : Int32) + (f_L_part (a2 >>> ((nI (3 * k_3)) &&& 31)) 11))).1)), (6, .int ((2 : Int32) + (f_L_part ((a2 >>> ((nI (3 * k_3)) &&& 31)) >>> (2 &&& 31)) 3))), (7, .int (nI k_7w4))]) hx hb dL_lays_125 rfl hl (by decide) rfl (fun ls hl => ?_)
          refine lv_iinc (v := nI (k_3 + 1)) (lv' := [(3, .int (nI (k_3 + 1))), (2, .int (x_2w4 + ((p_X8_addStation X2 (nI k_3) 1).1))), (0, .ref β), (1, .int a2), (4, .int (a2 >>> ((nI (3 * k_3)) &&& 31))), (5, .int ((p_X8_build Z (nI k_3) ((2 : Int32) + (f_L_part (a2 >>> ((nI (3 * k_3)) &&& 31)) 11))).1)), (6, .int ((2 : Int32) + (f_L_part ((a2 >>> ((nI (3 * k_3)) &&& 31)) >>> (2 &&& 31)) 3))), (7, .int (nI k_7w4))]) hx hb dL_lays_126 hl (k := 3) rfl (nI_1 _) (by decide) rfl (fun ls hl => ?_)
          refine lv_goto (tgt := 4) hx hb dL_lays_129 (by decide) ?_
          refine gm_q (Q2 := MQ below (gQi (lf_L_lays_4 a2 K n X4 (x_2w4 + ((p_X8_addStation X2 (nI k_3) 1).1)) (k_3 + 1)).1 (TR D cy β (lf_L_lays_4 a2 K n X4 (x_2w4 + ((p_X8_addStation X2 (nI k_3) 1).1)) (k_3 + 1)).2) (TA β)) args s 0 0 (TA β)) (by simp only [lf_L_lays_4, ↓if_neg c_1, ↓if_pos c_5, ↓if_pos c_6, ← eX1, ← eX4]) ?_
          exact ih X4 (x_2w4 + ((p_X8_addStation X2 (nI k_3) 1).1)) (k_3 + 1) iX4 (Nat.lt_of_lt_of_le lt_3 (by decide)) (by omega) _ _ _ hR hS (lv_sub hl [2, 3, 1, 0] rfl)
set_option maxHeartbeats 4000000 in
set_option maxRecDepth 100000 in
theorem c_L_lays (l : Launch) (D : va_G) (cy : Nat → ClassId) (β : Nat) (X : gM) (a2 : Int32) (hI : Iv X) : Met l yL_lays wsK_lays ({ frames := 6, cells := 0, slots := 0, locals := 135 }) (gP [.ref β, .int a2] D cy (TR D cy β X)) (gQi (p_L_lays X a2).1 (TR D cy β (p_L_lays X a2).2) (TA β)) 0 0 (TA β) := by
  refine gm_met (cc := cL_lays) (maxL := 8) (ret := (some .int)) [.ref β, .int a2] (by decide) rfl (Nat.le_of_ble_eq_true rfl) ?_
  intro p e s m args below meth c0 ls C hR hl
  obtain ⟨hx, hb, hr, hts, hown, hlocks, hml, hK⟩ := C
  have hl : lv_has ls 8 [(0, .ref β), (1, .int a2)] := hl
  have hS : va_S (TA β) s.heap s.heap [] := va_S.rf
  refine lv_iconst (v := 0) hx hb dL_lays_0 (by decide) ?_
  refine lv_istore_n (lv' := [(2, .int 0), (0, .ref β), (1, .int a2)]) hx hb dL_lays_1 rfl hl (by decide) rfl (fun ls hl => ?_)
  refine lv_iconst (v := 0) hx hb dL_lays_2 (by decide) ?_
  refine lv_istore_n (lv' := [(3, .int 0), (2, .int 0), (0, .ref β), (1, .int a2)]) hx hb dL_lays_3 rfl hl (by decide) rfl (fun ls hl => ?_)
  refine gm_q (Q2 := MQ below (gQi (lf_L_lays_4 a2 (fun X1 x_2w1 k_3w1 =>
        (x_2w1, X1)) 2147483648 X 0 0).1 (TR D cy β (lf_L_lays_4 a2 (fun X1 x_2w1 k_3w1 =>
        (x_2w1, X1)) 2147483648 X 0 0).2) (TA β)) args s 0 0 (TA β)) (by simp only [p_L_lays]) ?_
  refine lp_L_lays_4 ⟨hx, hb, hr, hts, hown, hlocks, hml, hK⟩ β a2  _ (fun X1 x_2w1 k_3w1 hzX1 hbk_3w1 H locs ls hR hS hl => ?_) 2147483648 X 0 0 hI (by decide) (by omega) _ _ _ hR hS (lv_sub hl [2, 3, 1, 0] rfl)
  refine lv_iload_n hx hb dL_lays_132 rfl (lv_at hl 2 rfl) ?_
  exact gm_iret hx hb hr hlocks hS (by (try simp only [p_L_lays]); (try rfl)) (by (try simp only [p_L_lays]); exact hR) dL_lays_133
