def lf_L_stations_30 (X : gM) (a2 : Int32) (k_4 : Nat) (y_5 : Int32) (K : (Int64) → (Nat) → (Int64)) : Nat → (Int64) → (Nat) → (Int64)
  | 0, z_2, k_6 => K z_2 k_6
  | n + 1, z_2, k_6 =>
    if 9 ≤ nI k_6 then
      K z_2 k_6
    else
      lf_L_stations_30 X a2 k_4 y_5 K n (f_L_mixed z_2 (Int32.toInt64 (f_X8_station X y_5 (nI k_6)))) (k_6 + 1)
def lf_L_stations_60 (X : gM) (a2 : Int32) (k_4 : Nat) (y_5 : Int32) (K : (Int64) → (Nat) → (Int64)) : Nat → (Int64) → (Nat) → (Int64)
  | 0, z_2, k_6 => K z_2 k_6
  | n + 1, z_2, k_6 =>
    if f_X8_station X y_5 2 < nI k_6 then
      K z_2 k_6
    else
      lf_L_stations_60 X a2 k_4 y_5 K n (f_L_mixed z_2 (Int32.toInt64 (f_X8_waiting X y_5 (nI k_6)))) (k_6 + 1)
def lf_L_stations_95 (X : gM) (a2 : Int32) (k_4 : Nat) (y_5 : Int32) (K : (Int64) → (Nat) → (Int64)) : Nat → (Int64) → (Nat) → (Int64)
  | 0, z_2, k_6 => K z_2 k_6
  | n + 1, z_2, k_6 =>
    if 4 ≤ nI k_6 then
      K z_2 k_6
    else
      lf_L_stations_95 X a2 k_4 y_5 K n (f_L_mixed z_2 (Int32.toInt64 (f_X8_calls X y_5 (nI k_6)))) (k_6 + 1)
def lf_L_stations_7 (X : gM) (a2 : Int32) (K : (Int64) → (Nat) → (Int64)) : Nat → (Int64) → (Nat) → (Int64)
  | 0, z_2, k_4 => K z_2 k_4
  | n + 1, z_2, k_4 =>
    if f_X8_line X a2 4 ≤ nI k_4 then
      K z_2 k_4
    else
      lf_L_stations_30 X a2 k_4 ((10 * a2) + (nI k_4)) (fun z_2w3 k_6w3 =>
            lf_L_stations_60 X a2 k_4 ((10 * a2) + (nI k_4)) (fun z_2w4 k_6w4 =>
            lf_L_stations_95 X a2 k_4 ((10 * a2) + (nI k_4)) (fun z_2w5 k_6w5 =>
            lf_L_stations_7 X a2 K n z_2w5 (k_4 + 1)) 2147483648 z_2w4 0) 2147483648 z_2w3 0) 2147483648 z_2 0
def f_L_stations (X : gM) (a2 : Int32) : Int64 :=
  lf_L_stations_7 X a2 (fun z_2w1 k_4w1 =>
        z_2w1) 2147483648 5 0
set_option maxHeartbeats 4000000 in
set_option maxRecDepth 100000 in
theorem lp_L_stations_30 {p : Program} {l : Launch} {e : Env} {s : State} {m : MethodId} {args : Array Value} {below : List Frame} {meth : Method} {c0 : Code} {D : va_G} {cy : Nat → ClassId} (C : gCtx cL_stations 7 (some .long) RL wsK_stations D cy p s m args meth c0) (β : Nat) (X : gM) (a2 : Int32) (k_4 : Nat) (y_5 : Int32) (hI : Iv X) (hb_4 : k_4 < 2147483648)
    (K : (Int64) → (Nat) → (Int64)) (hexit : ∀ (z_2 : Int64) (k_6 : Nat), k_6 ≤ 2147483647 → ∀ (H : Heap) (locs : List Loc) (ls : Array Slot), TR D cy β X H → va_S gNo s.heap H locs → lv_has ls 7 [(0, .ref β), (1, .int a2), (2, .long z_2), (4, .int (nI k_4)), (5, .int y_5), (6, .int (nI k_6))] → W p l e { frames := 4, cells := 0, slots := 0, locals := 89 } s m args below meth c0 H locs 0 0 (MQ below (gQl (K z_2 k_6) (fun _ => True) gNo) args s 0 0 gNo) (F0 m 57 ls [])) :
    ∀ (n : Nat) (z_2 : Int64) (k_6 : Nat), k_6 ≤ 2147483647 → 2147483647 < k_6 + n → ∀ (H : Heap) (locs : List Loc) (ls : Array Slot), TR D cy β X H → va_S gNo s.heap H locs → lv_has ls 7 [(0, .ref β), (1, .int a2), (2, .long z_2), (4, .int (nI k_4)), (5, .int y_5), (6, .int (nI k_6))] → W p l e { frames := 4, cells := 0, slots := 0, locals := 89 } s m args below meth c0 H locs 0 0 (MQ below (gQl (lf_L_stations_30 X a2 k_4 y_5 K n z_2 k_6) (fun _ => True) gNo) args s 0 0 gNo) (F0 m 30 ls []) := by
  obtain ⟨hx, hb, hr, hts, hown, hlocks, hml, hK⟩ := C
  intro n
  induction n with
  | zero =>
    intro z_2 k_6 hb_6 hme
    exact absurd hme (by omega)
  | succ n ih =>
    intro z_2 k_6 hb_6 hme H locs ls hR hS hl
    refine lv_iload hx hb dL_stations_30 (lv_at hl 5 rfl) ?_
    refine lv_bipush (v := 9) hx hb dL_stations_32 (by decide) ?_
    refine lv_icmp_ge (tgt := 57) hx hb dL_stations_34 (by decide) (fun c_1 => ?_) (fun c_1 => ?_)
    · have ge_2 : 9 ≤ k_6 := g_ge2 (Nat.lt_of_le_of_lt hb_6 (by decide)) (by decide) c_1
      refine gm_q (Q2 := MQ below (gQl (K z_2 k_6) (fun _ => True) gNo) args s 0 0 gNo) (by simp only [lf_L_stations_30, ↓if_pos c_1]) ?_
      exact hexit z_2 k_6 hb_6  _ _ _ hR hS (lv_sub hl [0, 1, 2, 3, 4, 5] rfl)
    · have lt_3 : k_6 < 9 := g_lt (Nat.lt_of_le_of_lt hb_6 (by decide)) (by decide) c_1
      refine lv_lload_n hx hb dL_stations_37 rfl (lv_at hl 2 rfl) ?_
      refine lv_aload_n hx hb dL_stations_38 rfl (lv_at hl 0 rfl) ?_
      refine lv_iload hx hb dL_stations_39 (lv_at hl 4 rfl) ?_
      refine lv_iload hx hb dL_stations_41 (lv_at hl 5 rfl) ?_
      refine gm_ci (gm_call (As := [.int y_5, .int (nI k_6)]) (rest := [.long z_2]) (ci := 8) (q := (RX8, TX8, 8)) ⟨hx, hb, hml, hown, hts⟩ hK (c_X8_station l D cy β X y_5 (nI k_6)) (cwV 2 hts (kIn kv_station) rfl rfl rfl (by decide +kernel) ⟨Nat.le_of_ble_eq_true rfl, Nat.le_of_ble_eq_true rfl⟩) (TR.mk0 hR) rfl hR rfl hl.1 rfl (Nat.le_of_ble_eq_true rfl) dL_stations_43 (Nat.zero_le _) (Nat.zero_le _)) hS (fun _ h => h.elim) (fun H locs _ _ hfr hS => ?_)
      have hR := gRep.keep hR hfr (fun _ _ h => h)
      refine lv_i2l (v := Int32.toInt64 (f_X8_station X y_5 (nI k_6))) hx hb dL_stations_46 rfl ?_
      refine gm_cl (gm_callS (As := [.long z_2, .long (Int32.toInt64 (f_X8_station X y_5 (nI k_6)))]) (rest := []) ⟨hx, hb, hml, hown, hts⟩ hK (c_L_mixed l D cy z_2 (Int32.toInt64 (f_X8_station X y_5 (nI k_6)))) (va_cwS 2 hts (kIn ks_mixed) rfl rfl rfl (by decide +kernel) ⟨Nat.le_of_ble_eq_true rfl, Nat.le_of_ble_eq_true rfl⟩) trivial rfl hl.1 rfl (Nat.le_of_ble_eq_true rfl) dL_stations_47 (Nat.zero_le _) (Nat.zero_le _)) hS (fun _ h => h.elim) (fun H locs _ _ hfr hS => ?_)
      have hR := gRep.keep hR hfr (fun _ _ h => h)
      refine lv_lstore_n (lv' := [(2, .long (f_L_mixed z_2 (Int32.toInt64 (f_X8_station X y_5 (nI k_6))))), (0, .ref β), (1, .int a2), (4, .int (nI k_4)), (5, .int y_5), (6, .int (nI k_6))]) hx hb dL_stations_50 rfl hl (by decide) rfl (fun ls hl => ?_)
      refine lv_iinc (v := nI (k_6 + 1)) (lv' := [(6, .int (nI (k_6 + 1))), (2, .long (f_L_mixed z_2 (Int32.toInt64 (f_X8_station X y_5 (nI k_6))))), (0, .ref β), (1, .int a2), (4, .int (nI k_4)), (5, .int y_5)]) hx hb dL_stations_51 hl (k := 5) rfl (nI_1 _) (by decide) rfl (fun ls hl => ?_)
      refine lv_goto (tgt := 30) hx hb dL_stations_54 (by decide) ?_
      refine gm_q (Q2 := MQ below (gQl (lf_L_stations_30 X a2 k_4 y_5 K n (f_L_mixed z_2 (Int32.toInt64 (f_X8_station X y_5 (nI k_6)))) (k_6 + 1)) (fun _ => True) gNo) args s 0 0 gNo) (by simp only [lf_L_stations_30, ↓if_neg c_1]) ?_
      exact ih (f_L_mixed z_2 (Int32.toInt64 (f_X8_station X y_5 (nI k_6)))) (k_6 + 1) (Nat.lt_of_lt_of_le lt_3 (by decide)) (by omega) _ _ _ hR hS (lv_sub hl [2, 3, 1, 4, 5, 0] rfl)
set_option maxHeartbeats 4000000 in
set_option maxRecDepth 100000 in
theorem lp_L_stations_60 {p : Program} {l : Launch} {e : Env} {s : State} {m : MethodId} {args : Array Value} {below : List Frame} {meth : Method} {c0 : Code} {D : va_G} {cy : Nat → ClassId} (C : gCtx cL_stations 7 (some .long) RL wsK_stations D cy p s m args meth c0) (β : Nat) (X : gM) (a2 : Int32) (k_4 : Nat) (y_5 : Int32) (hI : Iv X) (hb_4 : k_4 < 2147483648)
    (K : (Int64) → (Nat) → (Int64)) (hexit : ∀ (z_2 : Int64) (k_6 : Nat), k_6 ≤ 2147483647 → ∀ (H : Heap) (locs : List Loc) (ls : Array Slot), TR D cy β X H → va_S gNo s.heap H locs → lv_has ls 7 [(0, .ref β), (1, .int a2), (2, .long z_2), (4, .int (nI k_4)), (5, .int y_5), (6, .int (nI k_6))] → W p l e { frames := 4, cells := 0, slots := 0, locals := 89 } s m args below meth c0 H locs 0 0 (MQ below (gQl (K z_2 k_6) (fun _ => True) gNo) args s 0 0 gNo) (F0 m 92 ls [])) :
    ∀ (n : Nat) (z_2 : Int64) (k_6 : Nat), k_6 ≤ 2147483647 → 2147483647 < k_6 + n → ∀ (H : Heap) (locs : List Loc) (ls : Array Slot), TR D cy β X H → va_S gNo s.heap H locs → lv_has ls 7 [(0, .ref β), (1, .int a2), (2, .long z_2), (4, .int (nI k_4)), (5, .int y_5), (6, .int (nI k_6))] → W p l e { frames := 4, cells := 0, slots := 0, locals := 89 } s m args below meth c0 H locs 0 0 (MQ below (gQl (lf_L_stations_60 X a2 k_4 y_5 K n z_2 k_6) (fun _ => True) gNo) args s 0 0 gNo) (F0 m 60 ls []) := by
  obtain ⟨hx, hb, hr, hts, hown, hlocks, hml, hK⟩ := C
  intro n
  induction n with
  | zero =>
    intro z_2 k_6 hb_6 hme
    exact absurd hme (by omega)
  | succ n ih =>
    intro z_2 k_6 hb_6 hme H locs ls hR hS hl
    refine lv_iload hx hb dL_stations_60 (lv_at hl 5 rfl) ?_
    refine lv_aload_n hx hb dL_stations_62 rfl (lv_at hl 0 rfl) ?_
    refine lv_iload hx hb dL_stations_63 (lv_at hl 4 rfl) ?_
    refine lv_iconst (v := 2) hx hb dL_stations_65 (by decide) ?_
    refine gm_ci (gm_call (As := [.int y_5, .int 2]) (rest := [.int (nI k_6)]) (ci := 8) (q := (RX8, TX8, 8)) ⟨hx, hb, hml, hown, hts⟩ hK (c_X8_station l D cy β X y_5 2) (cwV 2 hts (kIn kv_station) rfl rfl rfl (by decide +kernel) ⟨Nat.le_of_ble_eq_true rfl, Nat.le_of_ble_eq_true rfl⟩) (TR.mk0 hR) rfl hR rfl hl.1 rfl (Nat.le_of_ble_eq_true rfl) dL_stations_66 (Nat.zero_le _) (Nat.zero_le _)) hS (fun _ h => h.elim) (fun H locs _ _ hfr hS => ?_)
    have hR := gRep.keep hR hfr (fun _ _ h => h)
    refine lv_icmp_gt (tgt := 92) hx hb dL_stations_69 (by decide) (fun c_1 => ?_) (fun c_1 => ?_)
    · refine gm_q (Q2 := MQ below (gQl (K z_2 k_6) (fun _ => True) gNo) args s 0 0 gNo) (by simp only [lf_L_stations_60, ↓if_pos c_1]) ?_
      exact hexit z_2 k_6 hb_6  _ _ _ hR hS (lv_sub hl [0, 1, 2, 3, 4, 5] rfl)
    · have lt_2 : k_6 < 2147483647 := st_bd hI c_1 (Nat.lt_of_le_of_lt hb_6 (by decide))
      refine lv_lload_n hx hb dL_stations_72 rfl (lv_at hl 2 rfl) ?_
      refine lv_aload_n hx hb dL_stations_73 rfl (lv_at hl 0 rfl) ?_
      refine lv_iload hx hb dL_stations_74 (lv_at hl 4 rfl) ?_
      refine lv_iload hx hb dL_stations_76 (lv_at hl 5 rfl) ?_
      refine gm_ci (gm_call (As := [.int y_5, .int (nI k_6)]) (rest := [.long z_2]) (ci := 8) (q := (RX8, TX8, 8)) ⟨hx, hb, hml, hown, hts⟩ hK (c_X8_waiting l D cy β X y_5 (nI k_6)) (cwV 2 hts (kIn kv_waiting) rfl rfl rfl (by decide +kernel) ⟨Nat.le_of_ble_eq_true rfl, Nat.le_of_ble_eq_true rfl⟩) (TR.mk0 hR) rfl hR rfl hl.1 rfl (Nat.le_of_ble_eq_true rfl) dL_stations_78 (Nat.zero_le _) (Nat.zero_le _)) hS (fun _ h => h.elim) (fun H locs _ _ hfr hS => ?_)
      have hR := gRep.keep hR hfr (fun _ _ h => h)
      refine lv_i2l (v := Int32.toInt64 (f_X8_waiting X y_5 (nI k_6))) hx hb dL_stations_81 rfl ?_
      refine gm_cl (gm_callS (As := [.long z_2, .long (Int32.toInt64 (f_X8_waiting X y_5 (nI k_6)))]) (rest := []) ⟨hx, hb, hml, hown, hts⟩ hK (c_L_mixed l D cy z_2 (Int32.toInt64 (f_X8_waiting X y_5 (nI k_6)))) (va_cwS 2 hts (kIn ks_mixed) rfl rfl rfl (by decide +kernel) ⟨Nat.le_of_ble_eq_true rfl, Nat.le_of_ble_eq_true rfl⟩) trivial rfl hl.1 rfl (Nat.le_of_ble_eq_true rfl) dL_stations_82 (Nat.zero_le _) (Nat.zero_le _)) hS (fun _ h => h.elim) (fun H locs _ _ hfr hS => ?_)
      have hR := gRep.keep hR hfr (fun _ _ h => h)
      refine lv_lstore_n (lv' := [(2, .long (f_L_mixed z_2 (Int32.toInt64 (f_X8_waiting X y_5 (nI k_6))))), (0, .ref β), (1, .int a2), (4, .int (nI k_4)), (5, .int y_5), (6, .int (nI k_6))]) hx hb dL_stations_85 rfl hl (by decide) rfl (fun ls hl => ?_)
      refine lv_iinc (v := nI (k_6 + 1)) (lv' := [(6, .int (nI (k_6 + 1))), (2, .long (f_L_mixed z_2 (Int32.toInt64 (f_X8_waiting X y_5 (nI k_6))))), (0, .ref β), (1, .int a2), (4, .int (nI k_4)), (5, .int y_5)]) hx hb dL_stations_86 hl (k := 5) rfl (nI_1 _) (by decide) rfl (fun ls hl => ?_)
      refine lv_goto (tgt := 60) hx hb dL_stations_89 (by decide) ?_
      refine gm_q (Q2 := MQ below (gQl (lf_L_stations_60 X a2 k_4 y_5 K n (f_L_mixed z_2 (Int32.toInt64 (f_X8_waiting X y_5 (nI k_6)))) (k_6 + 1)) (fun _ => True) gNo) args s 0 0 gNo) (by simp only [lf_L_stations_60, ↓if_neg c_1]) ?_
      exact ih (f_L_mixed z_2 (Int32.toInt64 (f_X8_waiting X y_5 (nI k_6)))) (k_6 + 1) lt_2 (by omega) _ _ _ hR hS (lv_sub hl [2, 3, 1, 4, 5, 0] rfl)
set_option maxHeartbeats 4000000 in
set_option maxRecDepth 100000 in
theorem lp_L_stations_95 {p : Program} {l : Launch} {e : Env} {s : State} {m : MethodId} {args : Array Value} {below : List Frame} {meth : Method} {c0 : Code} {D : va_G} {cy : Nat → ClassId} (C : gCtx cL_stations 7 (some .long) RL wsK_stations D cy p s m args meth c0) (β : Nat) (X : gM) (a2 : Int32) (k_4 : Nat) (y_5 : Int32) (hI : Iv X) (hb_4 : k_4 < 2147483648)
    (K : (Int64) → (Nat) → (Int64)) (hexit : ∀ (z_2 : Int64) (k_6 : Nat), k_6 ≤ 2147483647 → ∀ (H : Heap) (locs : List Loc) (ls : Array Slot), TR D cy β X H → va_S gNo s.heap H locs → lv_has ls 7 [(0, .ref β), (1, .int a2), (2, .long z_2), (4, .int (nI k_4)), (5, .int y_5), (6, .int (nI k_6))] → W p l e { frames := 4, cells := 0, slots := 0, locals := 89 } s m args below meth c0 H locs 0 0 (MQ below (gQl (K z_2 k_6) (fun _ => True) gNo) args s 0 0 gNo) (F0 m 121 ls [])) :
    ∀ (n : Nat) (z_2 : Int64) (k_6 : Nat), k_6 ≤ 2147483647 → 2147483647 < k_6 + n → ∀ (H : Heap) (locs : List Loc) (ls : Array Slot), TR D cy β X H → va_S gNo s.heap H locs → lv_has ls 7 [(0, .ref β), (1, .int a2), (2, .long z_2), (4, .int (nI k_4)), (5, .int y_5), (6, .int (nI k_6))] → W p l e { frames := 4, cells := 0, slots := 0, locals := 89 } s m args below meth c0 H locs 0 0 (MQ below (gQl (lf_L_stations_95 X a2 k_4 y_5 K n z_2 k_6) (fun _ => True) gNo) args s 0 0 gNo) (F0 m 95 ls []) := by
  obtain ⟨hx, hb, hr, hts, hown, hlocks, hml, hK⟩ := C
  intro n
  induction n with
  | zero =>
    intro z_2 k_6 hb_6 hme
    exact absurd hme (by omega)
  | succ n ih =>
    intro z_2 k_6 hb_6 hme H locs ls hR hS hl
    refine lv_iload hx hb dL_stations_95 (lv_at hl 5 rfl) ?_
    refine lv_iconst (v := 4) hx hb dL_stations_97 (by decide) ?_
    refine lv_icmp_ge (tgt := 121) hx hb dL_stations_98 (by decide) (fun c_1 => ?_) (fun c_1 => ?_)
    · have ge_2 : 4 ≤ k_6 := g_ge2 (Nat.lt_of_le_of_lt hb_6 (by decide)) (by decide) c_1
      refine gm_q (Q2 := MQ below (gQl (K z_2 k_6) (fun _ => True) gNo) args s 0 0 gNo) (by simp only [lf_L_stations_95, ↓if_pos c_1]) ?_
      exact hexit z_2 k_6 hb_6  _ _ _ hR hS (lv_sub hl [0, 1, 2, 3, 4, 5] rfl)
    · have lt_3 : k_6 < 4 := g_lt (Nat.lt_of_le_of_lt hb_6 (by decide)) (by decide) c_1
      refine lv_lload_n hx hb dL_stations_101 rfl (lv_at hl 2 rfl) ?_
      refine lv_aload_n hx hb dL_stations_102 rfl (lv_at hl 0 rfl) ?_
      refine lv_iload hx hb dL_stations_103 (lv_at hl 4 rfl) ?_
      refine lv_iload hx hb dL_stations_105 (lv_at hl 5 rfl) ?_
      refine gm_ci (gm_call (As := [.int y_5, .int (nI k_6)]) (rest := [.long z_2]) (ci := 8) (q := (RX8, TX8, 8)) ⟨hx, hb, hml, hown, hts⟩ hK (c_X8_calls l D cy β X y_5 (nI k_6)) (cwV 2 hts (kIn kv_calls) rfl rfl rfl (by decide +kernel) ⟨Nat.le_of_ble_eq_true rfl, Nat.le_of_ble_eq_true rfl⟩) (TR.mk0 hR) rfl hR rfl hl.1 rfl (Nat.le_of_ble_eq_true rfl) dL_stations_107 (Nat.zero_le _) (Nat.zero_le _)) hS (fun _ h => h.elim) (fun H locs _ _ hfr hS => ?_)
      have hR := gRep.keep hR hfr (fun _ _ h => h)
      refine lv_i2l (v := Int32.toInt64 (f_X8_calls X y_5 (nI k_6))) hx hb dL_stations_110 rfl ?_
      refine gm_cl (gm_callS (As := [.long z_2, .long (Int32.toInt64 (f_X8_calls X y_5 (nI k_6)))]) (rest := []) ⟨hx, hb, hml, hown, hts⟩ hK (c_L_mixed l D cy z_2 (Int32.toInt64 (f_X8_calls X y_5 (nI k_6)))) (va_cwS 2 hts (kIn ks_mixed) rfl rfl rfl (by decide +kernel) ⟨Nat.le_of_ble_eq_true rfl, Nat.le_of_ble_eq_true rfl⟩) trivial rfl hl.1 rfl (Nat.le_of_ble_eq_true rfl) dL_stations_111 (Nat.zero_le _) (Nat.zero_le _)) hS (fun _ h => h.elim) (fun H locs _ _ hfr hS => ?_)
      have hR := gRep.keep hR hfr (fun _ _ h => h)
      refine lv_lstore_n (lv' := [(2, .long (f_L_mixed z_2 (Int32.toInt64 (f_X8_calls X y_5 (nI k_6))))), (0, .ref β), (1, .int a2), (4, .int (nI k_4)), (5, .int y_5), (6, .int (nI k_6))]) hx hb dL_stations_114 rfl hl (by decide) rfl (fun ls hl => ?_)
      refine lv_iinc (v := nI (k_6 + 1)) (lv' := [(6, .int (nI (k_6 + 1))), (2, .long (f_L_mixed z_2 (Int32.toInt64 (f_X8_calls X y_5 (nI k_6))))), (0, .ref β), (1, .int a2), (4, .int (nI k_4)), (5, .int y_5)]) hx hb dL_stations_115 hl (k := 5) rfl (nI_1 _) (by decide) rfl (fun ls hl => ?_)
      refine lv_goto (tgt := 95) hx hb dL_stations_118 (by decide) ?_
      refine gm_q (Q2 := MQ below (gQl (lf_L_stations_95 X a2 k_4 y_5 K n (f_L_mixed z_2 (Int32.toInt64 (f_X8_calls X y_5 (nI k_6)))) (k_6 + 1)) (fun _ => True) gNo) args s 0 0 gNo) (by simp only [lf_L_stations_95, ↓if_neg c_1]) ?_
      exact ih (f_L_mixed z_2 (Int32.toInt64 (f_X8_calls X y_5 (nI k_6)))) (k_6 + 1) (Nat.lt_of_lt_of_le lt_3 (by decide)) (by omega) _ _ _ hR hS (lv_sub hl [2, 3, 1, 4, 5, 0] rfl)
set_option maxHeartbeats 4000000 in
set_option maxRecDepth 100000 in
theorem lp_L_stations_7 {p : Program} {l : Launch} {e : Env} {s : State} {m : MethodId} {args : Array Value} {below : List Frame} {meth : Method} {c0 : Code} {D : va_G} {cy : Nat → ClassId} (C : gCtx cL_stations 7 (some .long) RL wsK_stations D cy p s m args meth c0) (β : Nat) (X : gM) (a2 : Int32) (hI : Iv X)
    (K : (Int64) → (Nat) → (Int64)) (hexit : ∀ (z_2 : Int64) (k_4 : Nat), k_4 ≤ 2147483647 → ∀ (H : Heap) (locs : List Loc) (ls : Array Slot), TR D cy β X H → va_S gNo s.heap H locs → lv_has ls 7 [(0, .ref β), (1, .int a2), (2, .long z_2), (4, .int (nI k_4))] → W p l e { frames := 4, cells := 0, slots := 0, locals := 89 } s m args below meth c0 H locs 0 0 (MQ below (gQl (K z_2 k_4) (fun _ => True) gNo) args s 0 0 gNo) (F0 m 127 ls [])) :
    ∀ (n : Nat) (z_2 : Int64) (k_4 : Nat), k_4 ≤ 2147483647 → 2147483647 < k_4 + n → ∀ (H : Heap) (locs : List Loc) (ls : Array Slot), TR D cy β X H → va_S gNo s.heap H locs → lv_has ls 7 [(0, .ref β), (1, .int a2), (2, .long z_2), (4, .int (nI k_4))] → W p l e { frames := 4, cells := 0, slots := 0, locals := 89 } s m args below meth c0 H locs 0 0 (MQ below (gQl (lf_L_stations_7 X a2 K n z_2 k_4) (fun _ => True) gNo) args s 0 0 gNo) (F0 m 7 ls []) := by
  obtain ⟨hx, hb, hr, hts, hown, hlocks, hml, hK⟩ := C
  intro n
  induction n with
  | zero =>
    intro z_2 k_4 hb_4 hme
    exact absurd hme (by omega)
  | succ n ih =>
    intro z_2 k_4 hb_4 hme H locs ls hR hS hl
    refine lv_iload hx hb dL_stations_7 (lv_at hl 3 rfl) ?_
    refine lv_aload_n hx hb dL_stations_9 rfl (lv_at hl 0 rfl) ?_
    refine lv_iload_n hx hb dL_stations_10 rfl (lv_at hl 1 rfl) ?_
    refine lv_iconst (v := 4) hx hb dL_stations_11 (by decide) ?_
    refine gm_ci (gm_call (As := [.int a2, .int 4]) (rest := [.int (nI k_4)]) (ci := 8) (q := (RX8, TX8, 8)) ⟨hx, hb, hml, hown, hts⟩ hK (c_X8_line l D cy β X a2 4) (cwV 2 hts (kIn kv_line) rfl rfl rfl (by decide +kernel) ⟨Nat.le_of_ble_eq_true rfl, Nat.le_of_ble_eq_true rfl⟩) (TR.mk0 hR) rfl hR rfl hl.1 rfl (Nat.le_of_ble_eq_true rfl) dL_stations_12 (Nat.zero_le _) (Nat.zero_le _)) hS (fun _ h => h.elim) (fun H locs _ _ hfr hS => ?_)
    have hR := gRep.keep hR hfr (fun _ _ h => h)
    refine lv_icmp_ge (tgt := 127) hx hb dL_stations_15 (by decide) (fun c_1 => ?_) (fun c_1 => ?_)
    · refine gm_q (Q2 := MQ below (gQl (K z_2 k_4) (fun _ => True) gNo) args s 0 0 gNo) (by simp only [lf_L_stations_7, ↓if_pos c_1]) ?_
      exact hexit z_2 k_4 hb_4  _ _ _ hR hS (lv_sub hl [0, 1, 2, 3] rfl)
    · have lt_2 : k_4 < 2147483647 := g_big (Nat.lt_of_le_of_lt hb_4 (by decide)) c_1
      refine lv_bipush (v := 10) hx hb dL_stations_18 (by decide) ?_
      refine lv_iload_n hx hb dL_stations_20 rfl (lv_at hl 1 rfl) ?_
      refine lv_imul hx hb dL_stations_21 ?_
      refine lv_iload hx hb dL_stations_22 (lv_at hl 3 rfl) ?_
      refine lv_iadd hx hb dL_stations_24 ?_
      refine lv_istore (lv' := [(5, .int ((10 * a2) + (nI k_4))), (0, .ref β), (1, .int a2), (2, .long z_2), (4, .int (nI k_4))]) hx hb dL_stations_25 hl (by decide) rfl (fun ls hl => ?_)
      refine lv_iconst (v := 0) hx hb dL_stations_27 (by decide) ?_
      refine lv_istore (lv' := [(6, .int 0), (5, .int ((10 * a2) + (nI k_4))), (0, .ref β), (1, .int a2), (2, .long z_2), (4, .int (nI k_4))]) hx hb dL_stations_28 hl (by decide) rfl (fun ls hl => ?_)
      refine gm_q (Q2 := MQ below (gQl (lf_L_stations_30 X a2 k_4 ((10 * a2) + (nI k_4)) (fun z_2w3 k_6w3 =>
            lf_L_stations_60 X a2 k_4 ((10 * a2) + (nI k_4)) (fun z_2w4 k_6w4 =>
            lf_L_stations_95 X a2 k_4 ((10 * a2) + (nI k_4)) (fun z_2w5 k_6w5 =>
            lf_L_stations_7 X a2 K n z_2w5 (k_4 + 1)) 2147483648 z_2w4 0) 2147483648 z_2w3 0) 2147483648 z_2 0) (fun _ => True) gNo) args s 0 0 gNo) (by simp only [lf_L_stations_7, ↓if_neg c_1]) ?_
      refine lp_L_stations_30 ⟨hx, hb, hr, hts, hown, hlocks, hml, hK⟩ β X a2 k_4 ((10 * a2) + (nI k_4)) hI (by omega) _ (fun z_2w3 k_6w3 hbk_6w3 H locs ls hR hS hl => ?_) 2147483648 z_2 0 (by decide) (by omega) _ _ _ hR hS (lv_sub hl [2, 3, 4, 5, 1, 0] rfl)
      refine lv_iconst (v := 0) hx hb dL_stations_57 (by decide) ?_
      refine lv_istore (lv' := [(6, .int 0), (0, .ref β), (1, .int a2), (2, .long z_2w3), (4, .int (nI k_4)), (5, .int ((10 * a2) + (nI k_4)))]) hx hb dL_stations_58 hl (by decide) rfl (fun ls hl => ?_)
      refine gm_q (Q2 := MQ below (gQl (lf_L_stations_60 X a2 k_4 ((10 * a2) + (nI k_4)) (fun z_2w4 k_6w4 =>
            lf_L_stations_95 X a2 k_4 ((10 * a2) + (nI k_4)) (fun z_2w5 k_6w5 =>
            lf_L_stations_7 X a2 K n z_2w5 (k_4 + 1)) 2147483648 z_2w4 0) 2147483648 z_2w3 0) (fun _ => True) gNo) args s 0 0 gNo) (by simp only [lf_L_stations_7, ↓if_neg c_1]) ?_
      refine lp_L_stations_60 ⟨hx, hb, hr, hts, hown, hlocks, hml, hK⟩ β X a2 k_4 ((10 * a2) + (nI k_4)) hI (by omega) _ (fun z_2w4 k_6w4 hbk_6w4 H locs ls hR hS hl => ?_) 2147483648 z_2w3 0 (by decide) (by omega) _ _ _ hR hS (lv_sub hl [1, 2, 3, 4, 5, 0] rfl)
      refine lv_iconst (v := 0) hx hb dL_stations_92 (by decide) ?_
      refine lv_istore (lv' := [(6, .int 0), (0, .ref β), (1, .int a2), (2, .long z_2w4), (4, .int (nI k_4)), (5, .int ((10 * a2) + (nI k_4)))]) hx hb dL_stations_93 hl (by decide) rfl (fun ls hl => ?_)
      refine gm_q (Q2 := MQ below (gQl (lf_L_stations_95 X a2 k_4 ((10 * a2) + (nI k_4)) (fun z_2w5 k_6w5 =>
            lf_L_stations_7 X a2 K n z_2w5 (k_4 + 1)) 2147483648 z_2w4 0) (fun _ => True) gNo) args s 0 0 gNo) (by simp only [lf_L_stations_7, ↓if_neg c_1]) ?_
      refine lp_L_stations_95 ⟨hx, hb, hr, hts, hown, hlocks, hml, hK⟩ β X a2 k_4 ((10 * a2) + (nI k_4)) hI (by omega) _ (fun z_2w5 k_6w5 hbk_6w5 H locs ls hR hS hl => ?_) 2147483648 z_2w4 0 (by decide) (by omega) _ _ _ hR hS (lv_sub hl [1, 2, 3, 4, 5, 0] rfl)
      refine lv_iinc (v := nI (k_4 + 1)) (lv' := [(4, .int (nI (k_4 + 1))), (0, .ref β), (1, .int a2), (2, .long z_2w5), (5, .int ((10 * a2) + (nI k_4))), (6, .int (nI k_6w5))]) hx hb dL_stations_121 hl (k := 3) rfl (nI_1 _) (by decide) rfl (fun ls hl => ?_)
      refine lv_goto (tgt := 7) hx hb dL_stations_124 (by decide) ?_
      refine gm_q (Q2 := MQ below (gQl (lf_L_stations_7 X a2 K n z_2w5 (k_4 + 1)) (fun _ => True) gNo) args s 0 0 gNo) (by simp only [lf_L_stations_7, ↓if_neg c_1]) ?_
      exact ih z_2w5 (k_4 + 1) lt_2 (by omega) _ _ _ hR hS (lv_sub hl [1, 2, 3, 0] rfl)
set_option maxHeartbeats 4000000 in
set_option maxRecDepth 100000 in
theorem c_L_stations (l : Launch) (D : va_G) (cy : Nat → ClassId) (β : Nat) (X : gM) (a2 : Int32) (hI : Iv X) : Met l yL_stations wsK_stations ({ frames := 4, cells := 0, slots := 0, locals := 89 }) (gP [.ref β, .int a2] D cy (TR D cy β X)) (gQl (f_L_stations X a2) (fun _ => True) gNo) 0 0 gNo := by
  refine gm_met (cc := cL_stations) (maxL := 7) (ret := (some .long)) [.ref β, .int a2] (by decide) rfl (Nat.le_of_ble_eq_true rfl) ?_
  intro p e s m args below meth c0 ls C hR hl
  obtain ⟨hx, hb, hr, hts, hown, hlocks, hml, hK⟩ := C
  have hl : lv_has ls 7 [(0, .ref β), (1, .int a2)] := hl
  have hS : va_S gNo s.heap s.heap [] := va_S.rf
  refine lv_ldc2 (v := 5) hx hb hown (hts _ (List.mem_cons_of_mem _ kw_constantLong_RL_11)) dL_stations_0 ?_
  refine lv_lstore_n (lv' := [(2, .long 5), (0, .ref β), (1, .int a2)]) hx hb dL_stations_3 rfl hl (by decide) rfl (fun ls hl => ?_)
  refine lv_iconst (v := 0) hx hb dL_stations_4 (by decide) ?_
  refine lv_istore (lv' := [(4, .int 0), (2, .long 5), (0, .ref β), (1, .int a2)]) hx hb dL_stations_5 hl (by decide) rfl (fun ls hl => ?_)
  refine gm_q (Q2 := MQ below (gQl (lf_L_stations_7 X a2 (fun z_2w1 k_4w1 =>
        z_2w1) 2147483648 5 0) (fun _ => True) gNo) args s 0 0 gNo) (by simp only [f_L_stations]) ?_
  refine lp_L_stations_7 ⟨hx, hb, hr, hts, hown, hlocks, hml, hK⟩ β X a2 hI _ (fun z_2w1 k_4w1 hbk_4w1 H locs ls hR hS hl => ?_) 2147483648 5 0 (by decide) (by omega) _ _ _ hR hS (lv_sub hl [2, 3, 1, 0] rfl)
  refine lv_lload_n hx hb dL_stations_127 rfl (lv_at hl 2 rfl) ?_
  exact gm_lret hx hb hr hlocks hS (by (try simp only [f_L_stations]); (try rfl)) trivial dL_stations_128
def lf_L_state_6 (X : gM) (K : (Int64) → (Nat) → (Int64)) : Nat → (Int64) → (Nat) → (Int64)
  | 0, z_1, k_3 => K z_1 k_3
  | n + 1, z_1, k_3 =>
    if 19 ≤ nI k_3 then
      K z_1 k_3
    else
      lf_L_state_6 X K n (f_L_mixed z_1 (Int32.toInt64 (f_X8_count X (nI k_3)))) (k_3 + 1)
def lf_L_state_39 (X : gM) (k_3 : Nat) (K : (Int64) → (Nat) → (Int64)) : Nat → (Int64) → (Nat) → (Int64)
  | 0, z_1, k_4 => K z_1 k_4
  | n + 1, z_1, k_4 =>
    if 9 ≤ nI k_4 then
      K z_1 k_4
    else
      lf_L_state_39 X k_3 K n (f_L_mixed z_1 (Int32.toInt64 (f_X8_line X (nI k_3) (nI k_4)))) (k_4 + 1)
def lf_L_state_68 (X : gM) (k_3 : Nat) (K : (Int64) → (Nat) → (Int64)) : Nat → (Int64) → (Nat) → (Int64)
  | 0, z_1, k_4 => K z_1 k_4
  | n + 1, z_1, k_4 =>
    if f_X8_line X (nI k_3) 0 ≤ nI k_4 then
      K z_1 k_4
    else
      lf_L_state_68 X k_3 K n (f_L_mixed z_1 (Int32.toInt64 (f_X8_slot X (nI k_3) (nI k_4)))) (k_4 + 1)
def lf_L_state_31 (X : gM) (K : (Int64) → (Nat) → (Int64)) : Nat → (Int64) → (Nat) → (Int64)
  | 0, z_1, k_3 => K z_1 k_3
  | n + 1, z_1, k_3 =>
    if 2 ≤ nI k_3 then
      K z_1 k_3
    else
      lf_L_state_39 X k_3 (fun z_1w4 k_4w4 =>
            lf_L_state_68 X k_3 (fun z_1w5 k_4w5 =>
            lf_L_state_31 X K n (f_L_mixed z_1w5 (f_L_stations X (nI k_3))) (k_3 + 1)) 2147483648 z_1w4 0) 2147483648 z_1 0
def lf_L_state_116 (X : gM) (K : (Int64) → (Nat) → (Int64)) : Nat → (Int64) → (Nat) → (Int64)
  | 0, z_1, k_3 => K z_1 k_3
  | n + 1, z_1, k_3 =>
    if 14 * (f_X8_count X 1) ≤ nI k_3 then
      K z_1 k_3
    else
      lf_L_state_116 X K n (f_L_mixed z_1 (Int32.toInt64 (f_X8_ticket X ((nI k_3) / 14) ((nI k_3) - (nI k_3) / 14 * 14)))) (k_3 + 1)
def lf_L_state_154 (X : gM) (K : (Int64) → (Nat) → (Int64)) : Nat → (Int64) → (Nat) → (Int64)
  | 0, z_1, k_3 => K z_1 k_3
  | n + 1, z_1, k_3 =>
    if 7 * (f_X8_count X 17) ≤ nI k_3 then
      K z_1 k_3
    else
      lf_L_state_154 X K n (f_L_mixed z_1 (Int32.toInt64 (f_X8_ordered X ((nI k_3) / 7) ((nI k_3) - (nI k_3) / 7 * 7)))) (k_3 + 1)
def lf_L_state_193 (X : gM) (K : (Int64) → (Nat) → (Int64)) : Nat → (Int64) → (Nat) → (Int64)
  | 0, z_1, k_3 => K z_1 k_3
  | n + 1, z_1, k_3 =>
    if 60 ≤ nI k_3 then
      K z_1 k_3
    else
      lf_L_state_193 X K n (f_L_mixed z_1 (Int32.toInt64 (f_X8_event X ((nI k_3) / 5) ((nI k_3) - (nI k_3) / 5 * 5)))) (k_3 + 1)
def f_L_state (X : gM) : Int64 :=
  lf_L_state_6 X (fun z_1w1 k_3w1 =>
        lf_L_state_31 X (fun z_1w2 k_3w2 =>
        lf_L_state_116 X (fun z_1w3 k_3w3 =>
        lf_L_state_154 X (fun z_1w4 k_3w4 =>
        lf_L_state_193 X (fun z_1w5 k_3w5 =>
        z_1w5) 2147483648 z_1w4 0) 2147483648 z_1w3 0) 2147483648 z_1w2 0) 2147483648 z_1w1 0) 2147483648 7 0
set_option maxHeartbeats 4000000 in
set_option maxRecDepth 100000 in
theorem lp_L_state_6 {p : Program} {l : Launch} {e : Env} {s : State} {m : MethodId} {args : Array Value} {below : List Frame} {meth : Method} {c0 : Code} {D : va_G} {cy : Nat → ClassId} (C : gCtx cL_state 5 (some .long) RL wsK_state D cy p s m args meth c0) (β : Nat) (X : gM) (hI : Iv X)
    (K : (Int64) → (Nat) → (Int64)) (hexit : ∀ (z_1 : Int64) (k_3 : Nat), k_3 ≤ 2147483647 → ∀ (H : Heap) (locs : List Loc) (ls : Array Slot), TR D cy β X H → va_S gNo s.heap H locs → lv_has ls 5 [(0, .ref β), (1, .long z_1), (3, .int (nI k_3))] → W p l e { frames := 5, cells := 0, slots := 0, locals := 115 } s m args below meth c0 H locs 0 0 (MQ below (gQl (K z_1 k_3) (fun _ => True) gNo) args s 0 0 gNo) (F0 m 29 ls [])) :
    ∀ (n : Nat) (z_1 : Int64) (k_3 : Nat), k_3 ≤ 2147483647 → 2147483647 < k_3 + n → ∀ (H : Heap) (locs : List Loc) (ls : Array Slot), TR D cy β X H → va_S gNo s.heap H locs → lv_has ls 5 [(0, .ref β), (1, .long z_1), (3, .int (nI k_3))] → W p l e { frames := 5, cells := 0, slots := 0, locals := 115 } s m args below meth c0 H locs 0 0 (MQ below (gQl (lf_L_state_6 X K n z_1 k_3) (fun _ => True) gNo) args s 0 0 gNo) (F0 m 6 ls []) := by
  obtain ⟨hx, hb, hr, hts, hown, hlocks, hml, hK⟩ := C
  intro n
  induction n with
  | zero =>
    intro z_1 k_3 hb_3 hme
    exact absurd hme (by omega)
  | succ n ih =>
    intro z_1 k_3 hb_3 hme H locs ls hR hS hl
    refine lv_iload_n hx hb dL_state_6 rfl (lv_at hl 2 rfl) ?_
    refine lv_bipush (v := 19) hx hb dL_state_7 (by decide) ?_
    refine lv_icmp_ge (tgt := 29) hx hb dL_state_9 (by decide) (fun c_1 => ?_) (fun c_1 => ?_)
    · have ge_2 : 19 ≤ k_3 := g_ge2 (Nat.lt_of_le_of_lt hb_3 (by decide)) (by decide) c_1
      refine gm_q (Q2 := MQ below (gQl (K z_1 k_3) (fun _ => True) gNo) args s 0 0 gNo) (by simp only [lf_L_state_6, ↓if_pos c_1]) ?_
      exact hexit z_1 k_3 hb_3  _ _ _ hR hS (lv_sub hl [0, 1, 2] rfl)
    · have lt_3 : k_3 < 19 := g_lt (Nat.lt_of_le_of_lt hb_3 (by decide)) (by decide) c_1
      refine lv_lload_n hx hb dL_state_12 rfl (lv_at hl 1 rfl) ?_
      refine lv_aload_n hx hb dL_state_13 rfl (lv_at hl 0 rfl) ?_
      refine lv_iload_n hx hb dL_state_14 rfl (lv_at hl 2 rfl) ?_
      refine gm_ci (gm_call (As := [.int (nI k_3)]) (rest := [.long z_1]) (ci := 8) (q := (RX8, TX8, 8)) ⟨hx, hb, hml, hown, hts⟩ hK (c_X8_count l D cy β X (nI k_3)) (cwV 1 hts (kIn kv_count) rfl rfl rfl (by decide +kernel) ⟨Nat.le_of_ble_eq_true rfl, Nat.le_of_ble_eq_true rfl⟩) (TR.mk0 hR) rfl hR rfl hl.1 rfl (Nat.le_of_ble_eq_true rfl) dL_state_15 (Nat.zero_le _) (Nat.zero_le _)) hS (fun _ h => h.elim) (fun H locs _ _ hfr hS => ?_)
      have hR := gRep.keep hR hfr (fun _ _ h => h)
      refine lv_i2l (v := Int32.toInt64 (f_X8_count X (nI k_3))) hx hb dL_state_18 rfl ?_
      refine gm_cl (gm_callS (As := [.long z_1, .long (Int32.toInt64 (f_X8_count X (nI k_3)))]) (rest := []) ⟨hx, hb, hml, hown, hts⟩ hK (c_L_mixed l D cy z_1 (Int32.toInt64 (f_X8_count X (nI k_3)))) (va_cwS 2 hts (kIn ks_mixed) rfl rfl rfl (by decide +kernel) ⟨Nat.le_of_ble_eq_true rfl, Nat.le_of_ble_eq_true rfl⟩) trivial rfl hl.1 rfl (Nat.le_of_ble_eq_true rfl) dL_state_19 (Nat.zero_le _) (Nat.zero_le _)) hS (fun _ h => h.elim) (fun H locs _ _ hfr hS => ?_)
      have hR := gRep.keep hR hfr (fun _ _ h => h)
      refine lv_lstore_n (lv' := [(1, .long (f_L_mixed z_1 (Int32.toInt64 (f_X8_count X (nI k_3))))), (0, .ref β), (3, .int (nI k_3))]) hx hb dL_state_22 rfl hl (by decide) rfl (fun ls hl => ?_)
      refine lv_iinc (v := nI (k_3 + 1)) (lv' := [(3, .int (nI (k_3 + 1))), (1, .long (f_L_mixed z_1 (Int32.toInt64 (f_X8_count X (nI k_3))))), (0, .ref β)]) hx hb dL_state_23 hl (k := 2) rfl (nI_1 _) (by decide) rfl (fun ls hl => ?_)
      refine lv_goto (tgt := 6) hx hb dL_state_26 (by decide) ?_
      refine gm_q (Q2 := MQ below (gQl (lf_L_state_6 X K n (f_L_mixed z_1 (Int32.toInt64 (f_X8_count X (nI k_3)))) (k_3 + 1)) (fun _ => True) gNo) args s 0 0 gNo) (by simp only [lf_L_state_6, ↓if_neg c_1]) ?_
      exact ih (f_L_mixed z_1 (Int32.toInt64 (f_X8_count X (nI k_3)))) (k_3 + 1) (Nat.lt_of_lt_of_le lt_3 (by decide)) (by omega) _ _ _ hR hS (lv_sub hl [2, 1, 0] rfl)
set_option maxHeartbeats 4000000 in
set_option maxRecDepth 100000 in
theorem lp_L_state_39 {p : Program} {l : Launch} {e : Env} {s : State} {m : MethodId} {args : Array Value} {below : List Frame} {meth : Method} {c0 : Code} {D : va_G} {cy : Nat → ClassId} (C : gCtx cL_state 5 (some .long) RL wsK_state D cy p s m args meth c0) (β : Nat) (X : gM) (k_3 : Nat) (hI : Iv X) (hb_3 : k_3 < 2147483648)
    (K : (Int64) → (Nat) → (Int64)) (hexit : ∀ (z_1 : Int64) (k_4 : Nat), k_4 ≤ 2147483647 → ∀ (H : Heap) (locs : List Loc) (ls : Array Slot), TR D cy β X H → va_S gNo s.heap H locs → lv_has ls 5 [(0, .ref β), (1, .long z_1), (3, .int (nI k_3)), (4, .int (nI k_4))] → W p l e { frames := 5, cells := 0, slots := 0, locals := 115 } s m args below meth c0 H locs 0 0 (MQ below (gQl (K z_1 k_4) (fun _ => True) gNo) args s 0 0 gNo) (F0 m 65 ls [])) :
    ∀ (n : Nat) (z_1 : Int64) (k_4 : Nat), k_4 ≤ 2147483647 → 2147483647 < k_4 + n → ∀ (H : Heap) (locs : List Loc) (ls : Array Slot), TR D cy β X H → va_S gNo s.heap H locs → lv_has ls 5 [(0, .ref β), (1, .long z_1), (3, .int (nI k_3)), (4, .int (nI k_4))] → W p l e { frames := 5, cells := 0, slots := 0, locals := 115 } s m args below meth c0 H locs 0 0 (MQ below (gQl (lf_L_state_39 X k_3 K n z_1 k_4) (fun _ => True) gNo) args s 0 0 gNo) (F0 m 39 ls []) := by
  obtain ⟨hx, hb, hr, hts, hown, hlocks, hml, hK⟩ := C
  intro n
  induction n with
  | zero =>
    intro z_1 k_4 hb_4 hme
    exact absurd hme (by omega)
  | succ n ih =>
    intro z_1 k_4 hb_4 hme H locs ls hR hS hl
    refine lv_iload hx hb dL_state_39 (lv_at hl 3 rfl) ?_
    refine lv_bipush (v := 9) hx hb dL_state_41 (by decide) ?_
    refine lv_icmp_ge (tgt := 65) hx hb dL_state_43 (by decide) (fun c_1 => ?_) (fun c_1 => ?_)
    · have ge_2 : 9 ≤ k_4 := g_ge2 (Nat.lt_of_le_of_lt hb_4 (by decide)) (by decide) c_1
      refine gm_q (Q2 := MQ below (gQl (K z_1 k_4) (fun _ => True) gNo) args s 0 0 gNo) (by simp only [lf_L_state_39, ↓if_pos c_1]) ?_
      exact hexit z_1 k_4 hb_4  _ _ _ hR hS (lv_sub hl [0, 1, 2, 3] rfl)
    · have lt_3 : k_4 < 9 := g_lt (Nat.lt_of_le_of_lt hb_4 (by decide)) (by decide) c_1
      refine lv_lload_n hx hb dL_state_46 rfl (lv_at hl 1 rfl) ?_
      refine lv_aload_n hx hb dL_state_47 rfl (lv_at hl 0 rfl) ?_
      refine lv_iload_n hx hb dL_state_48 rfl (lv_at hl 2 rfl) ?_
      refine lv_iload hx hb dL_state_49 (lv_at hl 3 rfl) ?_
      refine gm_ci (gm_call (As := [.int (nI k_3), .int (nI k_4)]) (rest := [.long z_1]) (ci := 8) (q := (RX8, TX8, 8)) ⟨hx, hb, hml, hown, hts⟩ hK (c_X8_line l D cy β X (nI k_3) (nI k_4)) (cwV 2 hts (kIn kv_line) rfl rfl rfl (by decide +kernel) ⟨Nat.le_of_ble_eq_true rfl, Nat.le_of_ble_eq_true rfl⟩) (TR.mk0 hR) rfl hR rfl hl.1 rfl (Nat.le_of_ble_eq_true rfl) dL_state_51 (Nat.zero_le _) (Nat.zero_le _)) hS (fun _ h => h.elim) (fun H locs _ _ hfr hS => ?_)
      have hR := gRep.keep hR hfr (fun _ _ h => h)
      refine lv_i2l (v := Int32.toInt64 (f_X8_line X (nI k_3) (nI k_4))) hx hb dL_state_54 rfl ?_
      refine gm_cl (gm_callS (As := [.long z_1, .long (Int32.toInt64 (f_X8_line X (nI k_3) (nI k_4)))]) (rest := []) ⟨hx, hb, hml, hown, hts⟩ hK (c_L_mixed l D cy z_1 (Int32.toInt64 (f_X8_line X (nI k_3) (nI k_4)))) (va_cwS 2 hts (kIn ks_mixed) rfl rfl rfl (by decide +kernel) ⟨Nat.le_of_ble_eq_true rfl, Nat.le_of_ble_eq_true rfl⟩) trivial rfl hl.1 rfl (Nat.le_of_ble_eq_true rfl) dL_state_55 (Nat.zero_le _) (Nat.zero_le _)) hS (fun _ h => h.elim) (fun H locs _ _ hfr hS => ?_)
      have hR := gRep.keep hR hfr (fun _ _ h => h)
      refine lv_lstore_n (lv' := [(1, .long (f_L_mixed z_1 (Int32.toInt64 (f_X8_line X (nI k_3) (nI k_4))))), (0, .ref β), (3, .int (nI k_3)), (4, .int (nI k_4))]) hx hb dL_state_58 rfl hl (by decide) rfl (fun ls hl => ?_)
      refine lv_iinc (v := nI (k_4 + 1)) (lv' := [(4, .int (nI (k_4 + 1))), (1, .long (f_L_mixed z_1 (Int32.toInt64 (f_X8_line X (nI k_3) (nI k_4))))), (0, .ref β), (3, .int (nI k_3))]) hx hb dL_state_59 hl (k := 3) rfl (nI_1 _) (by decide) rfl (fun ls hl => ?_)
      refine lv_goto (tgt := 39) hx hb dL_state_62 (by decide) ?_
      refine gm_q (Q2 := MQ below (gQl (lf_L_state_39 X k_3 K n (f_L_mixed z_1 (Int32.toInt64 (f_X8_line X (nI k_3) (nI k_4)))) (k_4 + 1)) (fun _ => True) gNo) args s 0 0 gNo) (by simp only [lf_L_state_39, ↓if_neg c_1]) ?_
      exact ih (f_L_mixed z_1 (Int32.toInt64 (f_X8_line X (nI k_3) (nI k_4)))) (k_4 + 1) (Nat.lt_of_lt_of_le lt_3 (by decide)) (by omega) _ _ _ hR hS (lv_sub hl [2, 1, 3, 0] rfl)
set_option maxHeartbeats 4000000 in
set_option maxRecDepth 100000 in
theorem lp_L_state_68 {p : Program} {l : Launch} {e : Env} {s : State} {m : MethodId} {args : Array Value} {below : List Frame} {meth : Method} {c0 : Code} {D : va_G} {cy : Nat → ClassId} (C : gCtx cL_state 5 (some .long) RL wsK_state D cy p s m args meth c0) (β : Nat) (X : gM) (k_3 : Nat) (hI : Iv X) (hb_3 : k_3 < 2147483648)
    (K : (Int64) → (Nat) → (Int64)) (hexit : ∀ (z_1 : Int64) (k_4 : Nat), k_4 ≤ 2147483647 → ∀ (H : Heap) (locs : List Loc) (ls : Array Slot), TR D cy β X H → va_S gNo s.heap H locs → lv_has ls 5 [(0, .ref β), (1, .long z_1), (3, .int (nI k_3)), (4, .int (nI k_4))] → W p l e { frames := 5, cells := 0, slots := 0, locals := 115 } s m args below meth c0 H locs 0 0 (MQ below (gQl (K z_1 k_4) (fun _ => True) gNo) args s 0 0 gNo) (F0 m 98 ls [])) :
    ∀ (n : Nat) (z_1 : Int64) (k_4 : Nat), k_4 ≤ 2147483647 → 2147483647 < k_4 + n → ∀ (H : Heap) (locs : List Loc) (ls : Array Slot), TR D cy β X H → va_S gNo s.heap H locs → lv_has ls 5 [(0, .ref β), (1, .long z_1), (3, .int (nI k_3)), (4, .int (nI k_4))] → W p l e { frames := 5, cells := 0, slots := 0, locals := 115 } s m args below meth c0 H locs 0 0 (MQ below (gQl (lf_L_state_68 X k_3 K n z_1 k_4) (fun _ => True) gNo) args s 0 0 gNo) (F0 m 68 ls []) := by
  obtain ⟨hx, hb, hr, hts, hown, hlocks, hml, hK⟩ := C
  intro n
  induction n with
  | zero =>
    intro z_1 k_4 hb_4 hme
    exact absurd hme (by omega)
  | succ n ih =>
    intro z_1 k_4 hb_4 hme H locs ls hR hS hl
    refine lv_iload hx hb dL_state_68 (lv_at hl 3 rfl) ?_
    refine lv_aload_n hx hb dL_state_70 rfl (lv_at hl 0 rfl) ?_
    refine lv_iload_n hx hb dL_state_71 rfl (lv_at hl 2 rfl) ?_
    refine lv_iconst (v := 0) hx hb dL_state_72 (by decide) ?_
    refine gm_ci (gm_call (As := [.int (nI k_3), .int 0]) (rest := [.int (nI k_4)]) (ci := 8) (q := (RX8, TX8, 8)) ⟨hx, hb, hml, hown, hts⟩ hK (c_X8_line l D cy β X (nI k_3) 0) (cwV 2 hts (kIn kv_line) rfl rfl rfl (by decide +kernel) ⟨Nat.le_of_ble_eq_true rfl, Nat.le_of_ble_eq_true rfl⟩) (TR.mk0 hR) rfl hR rfl hl.1 rfl (Nat.le_of_ble_eq_true rfl) dL_state_73 (Nat.zero_le _) (Nat.zero_le _)) hS (fun _ h => h.elim) (fun H locs _ _ hfr hS => ?_)
    have hR := gRep.keep hR hfr (fun _ _ h => h)
    refine lv_icmp_ge (tgt := 98) hx hb dL_state_76 (by decide) (fun c_1 => ?_) (fun c_1 => ?_)
    · refine gm_q (Q2 := MQ below (gQl (K z_1 k_4) (fun _ => True) gNo) args s 0 0 gNo) (by simp only [lf_L_state_68, ↓if_pos c_1]) ?_
      exact hexit z_1 k_4 hb_4  _ _ _ hR hS (lv_sub hl [0, 1, 2, 3] rfl)
    · have lt_2 : k_4 < 2147483647 := g_big (Nat.lt_of_le_of_lt hb_4 (by decide)) c_1
      refine lv_lload_n hx hb dL_state_79 rfl (lv_at hl 1 rfl) ?_
      refine lv_aload_n hx hb dL_state_80 rfl (lv_at hl 0 rfl) ?_
      refine lv_iload_n hx hb dL_state_81 rfl (lv_at hl 2 rfl) ?_
      refine lv_iload hx hb dL_state_82 (lv_at hl 3 rfl) ?_
      refine gm_ci (gm_call (As := [.int (nI k_3), .int (nI k_4)]) (rest := [.long z_1]) (ci := 8) (q := (RX8, TX8, 8)) ⟨hx, hb, hml, hown, hts⟩ hK (c_X8_slot l D cy β X (nI k_3) (nI k_4)) (cwV 2 hts (kIn kv_slot) rfl rfl rfl (by decide +kernel) ⟨Nat.le_of_ble_eq_true rfl, Nat.le_of_ble_eq_true rfl⟩) (TR.mk0 hR) rfl hR rfl hl.1 rfl (Nat.le_of_ble_eq_true rfl) dL_state_84 (Nat.zero_le _) (Nat.zero_le _)) hS (fun _ h => h.elim) (fun H locs _ _ hfr hS => ?_)
      have hR := gRep.keep hR hfr (fun _ _ h => h)
      refine lv_i2l (v := Int32.toInt64 (f_X8_slot X (nI k_3) (nI k_4))) hx hb dL_state_87 rfl ?_
      refine gm_cl (gm_callS (As := [.long z_1, .long (Int32.toInt64 (f_X8_slot X (nI k_3) (nI k_4)))]) (rest := []) ⟨hx, hb, hml, hown, hts⟩ hK (c_L_mixed l D cy z_1 (Int32.toInt64 (f_X8_slot X (nI k_3) (nI k_4)))) (va_cwS 2 hts (kIn ks_mixed) rfl rfl rfl (by decide +kernel) ⟨Nat.le_of_ble_eq_true rfl, Nat.le_of_ble_eq_true rfl⟩) trivial rfl hl.1 rfl (Nat.le_of_ble_eq_true rfl) dL_state_88 (Nat.zero_le _) (Nat.zero_le _)) hS (fun _ h => h.elim) (fun H locs _ _ hfr hS => ?_)
      have hR := gRep.keep hR hfr (fun _ _ h => h)
      refine lv_lstore_n (lv' := [(1, .long (f_L_mixed z_1 (Int32.toInt64 (f_X8_slot X (nI k_3) (nI k_4))))), (0, .ref β), (3, .int (nI k_3)), (4, .int (nI k_4))]) hx hb dL_state_91 rfl hl (by decide) rfl (fun ls hl => ?_)
      refine lv_iinc (v := nI (k_4 + 1)) (lv' := [(4, .int (nI (k_4 + 1))), (1, .long (f_L_mixed z_1 (Int32.toInt64 (f_X8_slot X (nI k_3) (nI k_4))))), (0, .ref β), (3, .int (nI k_3))]) hx hb dL_state_92 hl (k := 3) rfl (nI_1 _) (by decide) rfl (fun ls hl => ?_)
      refine lv_goto (tgt := 68) hx hb dL_state_95 (by decide) ?_
      refine gm_q (Q2 := MQ below (gQl (lf_L_state_68 X k_3 K n (f_L_mixed z_1 (Int32.toInt64 (f_X8_slot X (nI k_3) (nI k_4)))) (k_4 + 1)) (fun _ => True) gNo) args s 0 0 gNo) (by simp only [lf_L_state_68, ↓if_neg c_1]) ?_
      exact ih (f_L_mixed z_1 (Int32.toInt64 (f_X8_slot X (nI k_3) (nI k_4)))) (k_4 + 1) lt_2 (by omega) _ _ _ hR hS (lv_sub hl [2, 1, 3, 0] rfl)
set_option maxHeartbeats 4000000 in
set_option maxRecDepth 100000 in
theorem lp_L_state_31 {p : Program} {l : Launch} {e : Env} {s : State} {m : MethodId} {args : Array Value} {below : List Frame} {meth : Method} {c0 : Code} {D : va_G} {cy : Nat → ClassId} (C : gCtx cL_state 5 (some .long) RL wsK_state D cy p s m args meth c0) (β : Nat) (X : gM) (hI : Iv X)
    (K : (Int64) → (Nat) → (Int64)) (hexit : ∀ (z_1 : Int64) (k_3 : Nat), k_3 ≤ 2147483647 → ∀ (H : Heap) (locs : List Loc) (ls : Array Slot), TR D cy β X H → va_S gNo s.heap H locs → lv_has ls 5 [(0, .ref β), (1, .long z_1), (3, .int (nI k_3))] → W p l e { frames := 5, cells := 0, slots := 0, locals := 115 } s m args below meth c0 H locs 0 0 (MQ below (gQl (K z_1 k_3) (fun _ => True) gNo) args s 0 0 gNo) (F0 m 114 ls [])) :
    ∀ (n : Nat) (z_1 : Int64) (k_3 : Nat), k_3 ≤ 2147483647 → 2147483647 < k_3 + n → ∀ (H : Heap) (locs : List Loc) (ls : Array Slot), TR D cy β X H → va_S gNo s.heap H locs → lv_has ls 5 [(0, .ref β), (1, .long z_1), (3, .int (nI k_3))] → W p l e { frames := 5, cells := 0, slots := 0, locals := 115 } s m args below meth c0 H locs 0 0 (MQ below (gQl (lf_L_state_31 X K n z_1 k_3) (fun _ => True) gNo) args s 0 0 gNo) (F0 m 31 ls []) := by
  obtain ⟨hx, hb, hr, hts, hown, hlocks, hml, hK⟩ := C
  intro n
  induction n with
  | zero =>
    intro z_1 k_3 hb_3 hme
    exact absurd hme (by omega)
  | succ n ih =>
    intro z_1 k_3 hb_3 hme H locs ls hR hS hl
    refine lv_iload_n hx hb dL_state_31 rfl (lv_at hl 2 rfl) ?_
    refine lv_iconst (v := 2) hx hb dL_state_32 (by decide) ?_
    refine lv_icmp_ge (tgt := 114) hx hb dL_state_33 (by decide) (fun c_1 => ?_) (fun c_1 => ?_)
    · have ge_2 : 2 ≤ k_3 := g_ge2 (Nat.lt_of_le_of_lt hb_3 (by decide)) (by decide) c_1
      refine gm_q (Q2 := MQ below (gQl (K z_1 k_3) (fun _ => True) gNo) args s 0 0 gNo) (by simp only [lf_L_state_31, ↓if_pos c_1]) ?_
      exact hexit z_1 k_3 hb_3  _ _ _ hR hS (lv_sub hl [0, 1, 2] rfl)
    · have lt_3 : k_3 < 2 := g_lt (Nat.lt_of_le_of_lt hb_3 (by decide)) (by decide) c_1
      refine lv_iconst (v := 0) hx hb dL_state_36 (by decide) ?_
      refine lv_istore (lv' := [(4, .int 0), (0, .ref β), (1, .long z_1), (3, .int (nI k_3))]) hx hb dL_state_37 hl (by decide) rfl (fun ls hl => ?_)
      refine gm_q (Q2 := MQ below (gQl (lf_L_state_39 X k_3 (fun z_1w4 k_4w4 =>
            lf_L_state_68 X k_3 (fun z_1w5 k_4w5 =>
            lf_L_state_31 X K n (f_L_mixed z_1w5 (f_L_stations X (nI k_3))) (k_3 + 1)) 2147483648 z_1w4 0) 2147483648 z_1 0) (fun _ => True) gNo) args s 0 0 gNo) (by simp only [lf_L_state_31, ↓if_neg c_1]) ?_
      refine lp_L_state_39 ⟨hx, hb, hr, hts, hown, hlocks, hml, hK⟩ β X k_3 hI (by omega) _ (fun z_1w4 k_4w4 hbk_4w4 H locs ls hR hS hl => ?_) 2147483648 z_1 0 (by decide) (by omega) _ _ _ hR hS (lv_sub hl [1, 2, 3, 0] rfl)
      refine lv_iconst (v := 0) hx hb dL_state_65 (by decide) ?_
      refine lv_istore (lv' := [(4, .int 0), (0, .ref β), (1, .long z_1w4), (3, .int (nI k_3))]) hx hb dL_state_66 hl (by decide) rfl (fun ls hl => ?_)
      refine gm_q (Q2 := MQ below (gQl (lf_L_state_68 X k_3 (fun z_1w5 k_4w5 =>
            lf_L_state_31 X K n (f_L_mixed z_1w5 (f_L_stations X (nI k_3))) (k_3 + 1)) 2147483648 z_1w4 0) (fun _ => True) gNo) args s 0 0 gNo) (by simp only [lf_L_state_31, ↓if_neg c_1]) ?_
      refine lp_L_state_68 ⟨hx, hb, hr, hts, hown, hlocks, hml, hK⟩ β X k_3 hI (by omega) _ (fun z_1w5 k_4w5 hbk_4w5 H locs ls hR hS hl => ?_) 2147483648 z_1w4 0 (by decide) (by omega) _ _ _ hR hS (lv_sub hl [1, 2, 3, 0] rfl)
      refine lv_lload_n hx hb dL_state_98 rfl (lv_at hl 1 rfl) ?_
      refine lv_aload_n hx hb dL_state_99 rfl (lv_at hl 0 rfl) ?_
      refine lv_iload_n hx hb dL_state_100 rfl (lv_at hl 2 rfl) ?_
      refine gm_cl (gm_callS (As := [.ref β, .int (nI k_3)]) (rest := [.long z_1w5]) ⟨hx, hb, hml, hown, hts⟩ hK (c_L_stations l D cy β X (nI k_3) hI) (va_cwS 2 hts (kIn ks_stations) rfl rfl rfl (by decide +kernel) ⟨Nat.le_of_ble_eq_true rfl, Nat.le_of_ble_eq_true rfl⟩) hR rfl hl.1 rfl (Nat.le_of_ble_eq_true rfl) dL_state_101 (Nat.zero_le _) (Nat.zero_le _)) hS (fun _ h => h.elim) (fun H locs _ _ hfr hS => ?_)
      have hR := gRep.keep hR hfr (fun _ _ h => h)
      refine gm_cl (gm_callS (As := [.long z_1w5, .long (f_L_stations X (nI k_3))]) (rest := []) ⟨hx, hb, hml, hown, hts⟩ hK (c_L_mixed l D cy z_1w5 (f_L_stations X (nI k_3))) (va_cwS 2 hts (kIn ks_mixed) rfl rfl rfl (by decide +kernel) ⟨Nat.le_of_ble_eq_true rfl, Nat.le_of_ble_eq_true rfl⟩) trivial rfl hl.1 rfl (Nat.le_of_ble_eq_true rfl) dL_state_104 (Nat.zero_le _) (Nat.zero_le _)) hS (fun _ h => h.elim) (fun H locs _ _ hfr hS => ?_)
      have hR := gRep.keep hR hfr (fun _ _ h => h)
      refine lv_lstore_n (lv' := [(1, .long (f_L_mixed z_1w5 (f_L_stations X (nI k_3)))), (0, .ref β), (3, .int (nI k_3)), (4, .int (nI k_4w5))]) hx hb dL_state_107 rfl hl (by decide) rfl (fun ls hl => ?_)
      refine lv_iinc (v := nI (k_3 + 1)) (lv' := [(3, .int (nI (k_3 + 1))), (1, .long (f_L_mixed z_1w5 (f_L_stations X (nI k_3)))), (0, .ref β), (4, .int (nI k_4w5))]) hx hb dL_state_108 hl (k := 2) rfl (nI_1 _) (by decide) rfl (fun ls hl => ?_)
      refine lv_goto (tgt := 31) hx hb dL_state_111 (by decide) ?_
      refine gm_q (Q2 := MQ below (gQl (lf_L_state_31 X K n (f_L_mixed z_1w5 (f_L_stations X (nI k_3))) (k_3 + 1)) (fun _ => True) gNo) args s 0 0 gNo) (by simp only [lf_L_state_31, ↓if_neg c_1]) ?_
      exact ih (f_L_mixed z_1w5 (f_L_stations X (nI k_3))) (k_3 + 1) (Nat.lt_of_lt_of_le lt_3 (by decide)) (by omega) _ _ _ hR hS (lv_sub hl [2, 1, 0] rfl)
set_option maxHeartbeats 4000000 in
set_option maxRecDepth 100000 in
theorem lp_L_state_116 {p : Program} {l : Launch} {e : Env} {s : State} {m : MethodId} {args : Array Value} {below : List Frame} {meth : Method} {c0 : Code} {D : va_G} {cy : Nat → ClassId} (C : gCtx cL_state 5 (some .long) RL wsK_state D cy p s m args meth c0) (β : Nat) (X : gM) (hI : Iv X)
    (K : (Int64) → (Nat) → (Int64)) (hexit : ∀ (z_1 : Int64) (k_3 : Nat), k_3 ≤ 2147483647 → ∀ (H : Heap) (locs : List Loc) (ls : Array Slot), TR D cy β X H → va_S gNo s.heap H locs → lv_has ls 5 [(0, .ref β), (1, .long z_1), (3, .int (nI k_3))] → W p l e { frames := 5, cells := 0, slots := 0, locals := 115 } s m args below meth c0 H locs 0 0 (MQ below (gQl (K z_1 k_3) (fun _ => True) gNo) args s 0 0 gNo) (F0 m 152 ls [])) :
    ∀ (n : Nat) (z_1 : Int64) (k_3 : Nat), k_3 ≤ 2147483647 → 2147483647 < k_3 + n → ∀ (H : Heap) (locs : List Loc) (ls : Array Slot), TR D cy β X H → va_S gNo s.heap H locs → lv_has ls 5 [(0, .ref β), (1, .long z_1), (3, .int (nI k_3))] → W p l e { frames := 5, cells := 0, slots := 0, locals := 115 } s m args below meth c0 H locs 0 0 (MQ below (gQl (lf_L_state_116 X K n z_1 k_3) (fun _ => True) gNo) args s 0 0 gNo) (F0 m 116 ls []) := by
  obtain ⟨hx, hb, hr, hts, hown, hlocks, hml, hK⟩ := C
  intro n
  induction n with
  | zero =>
    intro z_1 k_3 hb_3 hme
    exact absurd hme (by omega)
  | succ n ih =>
    intro z_1 k_3 hb_3 hme H locs ls hR hS hl
    refine lv_iload_n hx hb dL_state_116 rfl (lv_at hl 2 rfl) ?_
    refine lv_bipush (v := 14) hx hb dL_state_117 (by decide) ?_
    refine lv_aload_n hx hb dL_state_119 rfl (lv_at hl 0 rfl) ?_
    refine lv_iconst (v := 1) hx hb dL_state_120 (by decide) ?_
    refine gm_ci (gm_call (As := [.int 1]) (rest := [.int 14, .int (nI k_3)]) (ci := 8) (q := (RX8, TX8, 8)) ⟨hx, hb, hml, hown, hts⟩ hK (c_X8_count l D cy β X 1) (cwV 1 hts (kIn kv_count) rfl rfl rfl (by decide +kernel) ⟨Nat.le_of_ble_eq_true rfl, Nat.le_of_ble_eq_true rfl⟩) (TR.mk0 hR) rfl hR rfl hl.1 rfl (Nat.le_of_ble_eq_true rfl) dL_state_121 (Nat.zero_le _) (Nat.zero_le _)) hS (fun _ h => h.elim) (fun H locs _ _ hfr hS => ?_)
    have hR := gRep.keep hR hfr (fun _ _ h => h)
    refine lv_imul hx hb dL_state_124 ?_
    refine lv_icmp_ge (tgt := 152) hx hb dL_state_125 (by decide) (fun c_1 => ?_) (fun c_1 => ?_)
    · refine gm_q (Q2 := MQ below (gQl (K z_1 k_3) (fun _ => True) gNo) args s 0 0 gNo) (by simp only [lf_L_state_116, ↓if_pos c_1]) ?_
      exact hexit z_1 k_3 hb_3  _ _ _ hR hS (lv_sub hl [0, 1, 2] rfl)
    · have lt_2 : k_3 < 2147483647 := g_big (Nat.lt_of_le_of_lt hb_3 (by decide)) c_1
      refine lv_lload_n hx hb dL_state_128 rfl (lv_at hl 1 rfl) ?_
      refine lv_aload_n hx hb dL_state_129 rfl (lv_at hl 0 rfl) ?_
      refine lv_iload_n hx hb dL_state_130 rfl (lv_at hl 2 rfl) ?_
      refine lv_bipush (v := 14) hx hb dL_state_131 (by decide) ?_
      refine lv_idiv hx hb dL_state_133 (by decide) ?_
      refine lv_iload_n hx hb dL_state_134 rfl (lv_at hl 2 rfl) ?_
      refine lv_bipush (v := 14) hx hb dL_state_135 (by decide) ?_
      refine lv_irem hx hb dL_state_137 (by decide) ?_
      refine gm_ci (gm_call (As := [.int ((nI k_3) / 14), .int ((nI k_3) - (nI k_3) / 14 * 14)]) (rest := [.long z_1]) (ci := 8) (q := (RX8, TX8, 8)) ⟨hx, hb, hml, hown, hts⟩ hK (c_X8_ticket l D cy β X ((nI k_3) / 14) ((nI k_3) - (nI k_3) / 14 * 14)) (cwV 2 hts (kIn kv_ticket) rfl rfl rfl (by decide +kernel) ⟨Nat.le_of_ble_eq_true rfl, Nat.le_of_ble_eq_true rfl⟩) (TR.mk0 hR) rfl hR rfl hl.1 rfl (Nat.le_of_ble_eq_true rfl) dL_state_138 (Nat.zero_le _) (Nat.zero_le _)) hS (fun _ h => h.elim) (fun H locs _ _ hfr hS => ?_)
      have hR := gRep.keep hR hfr (fun _ _ h => h)
      refine lv_i2l (v := Int32.toInt64 (f_X8_ticket X ((nI k_3) / 14) ((nI k_3) - (nI k_3) / 14 * 14))) hx hb dL_state_141 rfl ?_
      refine gm_cl (gm_callS (As := [.long z_1, .long (Int32.toInt64 (f_X8_ticket X ((nI k_3) / 14) ((nI k_3) - (nI k_3) / 14 * 14)))]) (rest := []) ⟨hx, hb, hml, hown, hts⟩ hK (c_L_mixed l D cy z_1 (Int32.toInt64 (f_X8_ticket X ((nI k_3) / 14) ((nI k_3) - (nI k_3) / 14 * 14)))) (va_cwS 2 hts (kIn ks_mixed) rfl rfl rfl (by decide +kernel) ⟨Nat.le_of_ble_eq_true rfl, Nat.le_of_ble_eq_true rfl⟩) trivial rfl hl.1 rfl (Nat.le_of_ble_eq_true rfl) dL_state_142 (Nat.zero_le _) (Nat.zero_le _)) hS (fun _ h => h.elim) (fun H locs _ _ hfr hS => ?_)
      have hR := gRep.keep hR hfr (fun _ _ h => h)
      refine lv_lstore_n (lv' := [(1, .long (f_L_mixed z_1 (Int32.toInt64 (f_X8_ticket X ((nI k_3) / 14) ((nI k_3) - (nI k_3) / 14 * 14))))), (0, .ref β), (3, .int (nI k_3))]) hx hb dL_state_145 rfl hl (by decide) rfl (fun ls hl => ?_)
      refine lv_iinc (v := nI (k_3 + 1)) (lv' := [(3, .int (nI (k_3 + 1))), (1, .long (f_L_mixed z_1 (Int32.toInt64 (f_X8_ticket X ((nI k_3) / 14) ((nI k_3) - (nI k_3) / 14 * 14))))), (0, .ref β)]) hx hb dL_state_146 hl (k := 2) rfl (nI_1 _) (by decide) rfl (fun ls hl => ?_)
      refine lv_goto (tgt := 116) hx hb dL_state_149 (by decide) ?_
      refine gm_q (Q2 := MQ below (gQl (lf_L_state_116 X K n (f_L_mixed z_1 (Int32.toInt64 (f_X8_ticket X ((nI k_3) / 14) ((nI k_3) - (nI k_3) / 14 * 14)))) (k_3 + 1)) (fun _ => True) gNo) args s 0 0 gNo) (by simp only [lf_L_state_116, ↓if_neg c_1]) ?_
      exact ih (f_L_mixed z_1 (Int32.toInt64 (f_X8_ticket X ((nI k_3) / 14) ((nI k_3) - (nI k_3) / 14 * 14)))) (k_3 + 1) lt_2 (by omega) _ _ _ hR hS (lv_sub hl [2, 1, 0] rfl)
set_option maxHeartbeats 4000000 in
set_option maxRecDepth 100000 in
theorem lp_L_state_154 {p : Program} {l : Launch} {e : Env} {s : State} {m : MethodId} {args : Array Value} {below : List Frame} {meth : Method} {c0 : Code} {D : va_G} {cy : Nat → ClassId} (C : gCtx cL_state 5 (some .long) RL wsK_state D cy p s m args meth c0) (β : Nat) (X : gM) (hI : Iv X)
    (K : (Int64) → (Nat) → (Int64)) (hexit : ∀ (z_1 : Int64) (k_3 : Nat), k_3 ≤ 2147483647 → ∀ (H : Heap) (locs : List Loc) (ls : Array Slot), TR D cy β X H → va_S gNo s.heap H locs → lv_has ls 5 [(0, .ref β), (1, .long z_1), (3, .int (nI k_3))] → W p l e { frames := 5, cells := 0, slots := 0, locals := 115 } s m args below meth c0 H locs 0 0 (MQ below (gQl (K z_1 k_3) (fun _ => True) gNo) args s 0 0 gNo) (F0 m 191 ls [])) :
    ∀ (n : Nat) (z_1 : Int64) (k_3 : Nat), k_3 ≤ 2147483647 → 2147483647 < k_3 + n → ∀ (H : Heap) (locs : List Loc) (ls : Array Slot), TR D cy β X H → va_S gNo s.heap H locs → lv_has ls 5 [(0, .ref β), (1, .long z_1), (3, .int (nI k_3))] → W p l e { frames := 5, cells := 0, slots := 0, locals := 115 } s m args below meth c0 H locs 0 0 (MQ below (gQl (lf_L_state_154 X K n z_1 k_3) (fun _ => True) gNo) args s 0 0 gNo) (F0 m 154 ls []) := by
  obtain ⟨hx, hb, hr, hts, hown, hlocks, hml, hK⟩ := C
  intro n
  induction n with
  | zero =>
    intro z_1 k_3 hb_3 hme
    exact absurd hme (by omega)
  | succ n ih =>
    intro z_1 k_3 hb_3 hme H locs ls hR hS hl
    refine lv_iload_n hx hb dL_state_154 rfl (lv_at hl 2 rfl) ?_
    refine lv_bipush (v := 7) hx hb dL_state_155 (by decide) ?_
    refine lv_aload_n hx hb dL_state_157 rfl (lv_at hl 0 rfl) ?_
    refine lv_bipush (v := 17) hx hb dL_state_158 (by decide) ?_
    refine gm_ci (gm_call (As := [.int 17]) (rest := [.int 7, .int (nI k_3)]) (ci := 8) (q := (RX8, TX8, 8)) ⟨hx, hb, hml, hown, hts⟩ hK (c_X8_count l D cy β X 17) (cwV 1 hts (kIn kv_count) rfl rfl rfl (by decide +kernel) ⟨Nat.le_of_ble_eq_true rfl, Nat.le_of_ble_eq_true rfl⟩) (TR.mk0 hR) rfl hR rfl hl.1 rfl (Nat.le_of_ble_eq_true rfl) dL_state_160 (Nat.zero_le _) (Nat.zero_le _)) hS (fun _ h => h.elim) (fun H locs _ _ hfr hS => ?_)
    have hR := gRep.keep hR hfr (fun _ _ h => h)
    refine lv_imul hx hb dL_state_163 ?_
    refine lv_icmp_ge (tgt := 191) hx hb dL_state_164 (by decide) (fun c_1 => ?_) (fun c_1 => ?_)
    · refine gm_q (Q2 := MQ below (gQl (K z_1 k_3) (fun _ => True) gNo) args s 0 0 gNo) (by simp only [lf_L_state_154, ↓if_pos c_1]) ?_
      exact hexit z_1 k_3 hb_3  _ _ _ hR hS (lv_sub hl [0, 1, 2] rfl)
    · have lt_2 : k_3 < 2147483647 := g_big (Nat.lt_of_le_of_lt hb_3 (by decide)) c_1
      refine lv_lload_n hx hb dL_state_167 rfl (lv_at hl 1 rfl) ?_
      refine lv_aload_n hx hb dL_state_168 rfl (lv_at hl 0 rfl) ?_
      refine lv_iload_n hx hb dL_state_169 rfl (lv_at hl 2 rfl) ?_
      refine lv_bipush (v := 7) hx hb dL_state_170 (by decide) ?_
      refine lv_idiv hx hb dL_state_172 (by decide) ?_
      refine lv_iload_n hx hb dL_state_173 rfl (lv_at hl 2 rfl) ?_
      refine lv_bipush (v := 7) hx hb dL_state_174 (by decide) ?_
      refine lv_irem hx hb dL_state_176 (by decide) ?_
      refine gm_ci (gm_call (As := [.int ((nI k_3) / 7), .int ((nI k_3) - (nI k_3) / 7 * 7)]) (rest := [.long z_1]) (ci := 8) (q := (RX8, TX8, 8)) ⟨hx, hb, hml, hown, hts⟩ hK (c_X8_ordered l D cy β X ((nI k_3) / 7) ((nI k_3) - (nI k_3) / 7 * 7)) (cwV 2 hts (kIn kv_ordered) rfl rfl rfl (by decide +kernel) ⟨Nat.le_of_ble_eq_true rfl, Nat.le_of_ble_eq_true rfl⟩) (TR.mk0 hR) rfl hR rfl hl.1 rfl (Nat.le_of_ble_eq_true rfl) dL_state_177 (Nat.zero_le _) (Nat.zero_le _)) hS (fun _ h => h.elim) (fun H locs _ _ hfr hS => ?_)
      have hR := gRep.keep hR hfr (fun _ _ h => h)
      refine lv_i2l (v := Int32.toInt64 (f_X8_ordered X ((nI k_3) / 7) ((nI k_3) - (nI k_3) / 7 * 7))) hx hb dL_state_180 rfl ?_
      refine gm_cl (gm_callS (As := [.long z_1, .long (Int32.toInt64 (f_X8_ordered X ((nI k_3) / 7) ((nI k_3) - (nI k_3) / 7 * 7)))]) (rest := []) ⟨hx, hb, hml, hown, hts⟩ hK (c_L_mixed l D cy z_1 (Int32.toInt64 (f_X8_ordered X ((nI k_3) / 7) ((nI k_3) - (nI k_3) / 7 * 7)))) (va_cwS 2 hts (kIn ks_mixed) rfl rfl rfl (by decide +kernel) ⟨Nat.le_of_ble_eq_true rfl, Nat.le_of_ble_eq_true rfl⟩) trivial rfl hl.1 rfl (Nat.le_of_ble_eq_true rfl) dL_state_181 (Nat.zero_le _) (Nat.zero_le _)) hS (fun _ h => h.elim) (fun H locs _ _ hfr hS => ?_)
      have hR := gRep.keep hR hfr (fun _ _ h => h)
      refine lv_lstore_n (lv' := [(1, .long (f_L_mixed z_1 (Int32.toInt64 (f_X8_ordered X ((nI k_3) / 7) ((nI k_3) - (nI k_3) / 7 * 7))))), (0, .ref β), (3, .int (nI k_3))]) hx hb dL_state_184 rfl hl (by decide) rfl (fun ls hl => ?_)
      refine lv_iinc (v := nI (k_3 + 1)) (lv' := [(3, .int (nI (k_3 + 1))), (1, .long (f_L_mixed z_1 (Int32.toInt64 (f_X8_ordered X ((nI k_3) / 7) ((nI k_3) - (nI k_3) / 7 * 7))))), (0, .ref β)]) hx hb dL_state_185 hl (k := 2) rfl (nI_1 _) (by decide) rfl (fun ls hl => ?_)
      refine lv_goto (tgt := 154) hx hb dL_state_188 (by decide) ?_
      refine gm_q (Q2 := MQ below (gQl (lf_L_state_154 X K n (f_L_mixed z_1 (Int32.toInt64 (f_X8_ordered X ((nI k_3) / 7) ((nI k_3) - (nI k_3) / 7 * 7)))) (k_3 + 1)) (fun _ => True) gNo) args s 0 0 gNo) (by simp only [lf_L_state_154, ↓if_neg c_1]) ?_
      exact ih (f_L_mixed z_1 (Int32.toInt64 (f_X8_ordered X ((nI k_3) / 7) ((nI k_3) - (nI k_3) / 7 * 7)))) (k_3 + 1) lt_2 (by omega) _ _ _ hR hS (lv_sub hl [2, 1, 0] rfl)
set_option maxHeartbeats 4000000 in
set_option maxRecDepth 100000 in
theorem lp_L_state_193 {p : Program} {l : Launch} {e : Env} {s : State} {m : MethodId} {args : Array Value} {below : List Frame} {meth : Method} {c0 : Code} {D : va_G} {cy : Nat → ClassId} (C : gCtx cL_state 5 (some .long) RL wsK_state D cy p s m args meth c0) (β : Nat) (X : gM) (hI : Iv X)
    (K : (Int64) → (Nat) → (Int64)) (hexit : ∀ (z_1 : Int64) (k_3 : Nat), k_3 ≤ 2147483647 → ∀ (H : Heap) (locs : List Loc) (ls : Array Slot), TR D cy β X H → va_S gNo s.heap H locs → lv_has ls 5 [(0, .ref β), (1, .long z_1), (3, .int (nI k_3))] → W p l e { frames := 5, cells := 0, slots := 0, locals := 115 } s m args below meth c0 H locs 0 0 (MQ below (gQl (K z_1 k_3) (fun _ => True) gNo) args s 0 0 gNo) (F0 m 221 ls [])) :
    ∀ (n : Nat) (z_1 : Int64) (k_3 : Nat), k_3 ≤ 2147483647 → 2147483647 < k_3 + n → ∀ (H : Heap) (locs : List Loc) (ls : Array Slot), TR D cy β X H → va_S gNo s.heap H locs → lv_has ls 5 [(0, .ref β), (1, .long z_1), (3, .int (nI k_3))] → W p l e { frames := 5, cells := 0, slots := 0, locals := 115 } s m args below meth c0 H locs 0 0 (MQ below (gQl (lf_L_state_193 X K n z_1 k_3) (fun _ => True) gNo) args s 0 0 gNo) (F0 m 193 ls []) := by
  obtain ⟨hx, hb, hr, hts, hown, hlocks, hml, hK⟩ := C
  intro n
  induction n with
  | zero =>
    intro z_1 k_3 hb_3 hme
    exact absurd hme (by omega)
  | succ n ih =>
    intro z_1 k_3 hb_3 hme H locs ls hR hS hl
    refine lv_iload_n hx hb dL_state_193 rfl (lv_at hl 2 rfl) ?_
    refine lv_bipush (v := 60) hx hb dL_state_194 (by decide) ?_
    refine lv_icmp_ge (tgt := 221) hx hb dL_state_196 (by decide) (fun c_1 => ?_) (fun c_1 => ?_)
    · have ge_2 : 60 ≤ k_3 := g_ge2 (Nat.lt_of_le_of_lt hb_3 (by decide)) (by decide) c_1
      refine gm_q (Q2 := MQ below (gQl (K z_1 k_3) (fun _ => True) gNo) args s 0 0 gNo) (by simp only [lf_L_state_193, ↓if_pos c_1]) ?_
      exact hexit z_1 k_3 hb_3  _ _ _ hR hS (lv_sub hl [0, 1, 2] rfl)
    · have lt_3 : k_3 < 60 := g_lt (Nat.lt_of_le_of_lt hb_3 (by decide)) (by decide) c_1
      refine lv_lload_n hx hb dL_state_199 rfl (lv_at hl 1 rfl) ?_
      refine lv_aload_n hx hb dL_state_200 rfl (lv_at hl 0 rfl) ?_
      refine lv_iload_n hx hb dL_state_201 rfl (lv_at hl 2 rfl) ?_
      refine lv_iconst (v := 5) hx hb dL_state_202 (by decide) ?_
      refine lv_idiv hx hb dL_state_203 (by decide) ?_
      refine lv_iload_n hx hb dL_state_204 rfl (lv_at hl 2 rfl) ?_
      refine lv_iconst (v := 5) hx hb dL_state_205 (by decide) ?_
      refine lv_irem hx hb dL_state_206 (by decide) ?_
      refine gm_ci (gm_call (As := [.int ((nI k_3) / 5), .int ((nI k_3) - (nI k_3) / 5 * 5)]) (rest := [.long z_1]) (ci := 8) (q := (RX8, TX8, 8)) ⟨hx, hb, hml, hown, hts⟩ hK (c_X8_event l D cy β X ((nI k_3) / 5) ((nI k_3) - (nI k_3) / 5 * 5)) (cwV 2 hts (kIn kv_event) rfl rfl rfl (by decide +kernel) ⟨Nat.le_of_ble_eq_true rfl, Nat.le_of_ble_eq_true rfl⟩) (TR.mk0 hR) rfl hR rfl hl.1 rfl (Nat.le_of_ble_eq_true rfl) dL_state_207 (Nat.zero_le _) (Nat.zero_le _)) hS (fun _ h => h.elim) (fun H locs _ _ hfr hS => ?_)
      have hR := gRep.keep hR hfr (fun _ _ h => h)
      refine lv_i2l (v := Int32.toInt64 (f_X8_event X ((nI k_3) / 5) ((nI k_3) - (nI k_3) / 5 * 5))) hx hb dL_state_210 rfl ?_
      refine gm_cl (gm_callS (As := [.long z_1, .long (Int32.toInt64 (f_X8_event X ((nI k_3) / 5) ((nI k_3) - (nI k_3) / 5 * 5)))]) (rest := []) ⟨hx, hb, hml, hown, hts⟩ hK (c_L_mixed l D cy z_1 (Int32.toInt64 (f_X8_event X ((nI k_3) / 5) ((nI k_3) - (nI k_3) / 5 * 5)))) (va_cwS 2 hts (kIn ks_mixed) rfl rfl rfl (by decide +kernel) ⟨Nat.le_of_ble_eq_true rfl, Nat.le_of_ble_eq_true rfl⟩) trivial rfl hl.1 rfl (Nat.le_of_ble_eq_true rfl) dL_state_211 (Nat.zero_le _) (Nat.zero_le _)) hS (fun _ h => h.elim) (fun H locs _ _ hfr hS => ?_)
      have hR := gRep.keep hR hfr (fun _ _ h => h)
      refine lv_lstore_n (lv' := [(1, .long (f_L_mixed z_1 (Int32.toInt64 (f_X8_event X ((nI k_3) / 5) ((nI k_3) - (nI k_3) / 5 * 5))))), (0, .ref β), (3, .int (nI k_3))]) hx hb dL_state_214 rfl hl (by decide) rfl (fun ls hl => ?_)
      refine lv_iinc (v := nI (k_3 + 1)) (lv' := [(3, .int (nI (k_3 + 1))), (1, .long (f_L_mixed z_1 (Int32.toInt64 (f_X8_event X ((nI k_3) / 5) ((nI k_3) - (nI k_3) / 5 * 5))))), (0, .ref β)]) hx hb dL_state_215 hl (k := 2) rfl (nI_1 _) (by decide) rfl (fun ls hl => ?_)
      refine lv_goto (tgt := 193) hx hb dL_state_218 (by decide) ?_
      refine gm_q (Q2 := MQ below (gQl (lf_L_state_193 X K n (f_L_mixed z_1 (Int32.toInt64 (f_X8_event X ((nI k_3) / 5) ((nI k_3) - (nI k_3) / 5 * 5)))) (k_3 + 1)) (fun _ => True) gNo) args s 0 0 gNo) (by simp only [lf_L_state_193, ↓if_neg c_1]) ?_
      exact ih (f_L_mixed z_1 (Int32.toInt64 (f_X8_event X ((nI k_3) / 5) ((nI k_3) - (nI k_3) / 5 * 5)))) (k_3 + 1) (Nat.lt_of_lt_of_le lt_3 (by decide)) (by omega) _ _ _ hR hS (lv_sub hl [2, 1, 0] rfl)
set_option maxHeartbeats 4000000 in
set_option maxRecDepth 100000 in
theorem c_L_state (l : Launch) (D : va_G) (cy : Nat → ClassId) (β : Nat) (X : gM) (hI : Iv X) : Met l yL_state wsK_state ({ frames := 5, cells := 0, slots := 0, locals := 115 }) (gP [.ref β] D cy (TR D cy β X)) (gQl (f_L_state X) (fun _ => True) gNo) 0 0 gNo := by
  refine gm_met (cc := cL_state) (maxL := 5) (ret := (some .long)) [.ref β] (by decide) rfl (Nat.le_of_ble_eq_true rfl) ?_
  intro p e s m args below meth c0 ls C hR hl
  obtain ⟨hx, hb, hr, hts, hown, hlocks, hml, hK⟩ := C
  have hl : lv_has ls 5 [(0, .ref β)] := hl
  have hS : va_S gNo s.heap s.heap [] := va_S.rf
  refine lv_ldc2 (v := 7) hx hb hown (hts _ (List.mem_cons_of_mem _ kw_constantLong_RL_34)) dL_state_0 ?_
  refine lv_lstore_n (lv' := [(1, .long 7), (0, .ref β)]) hx hb dL_state_3 rfl hl (by decide) rfl (fun ls hl => ?_)
  refine lv_iconst (v := 0) hx hb dL_state_4 (by decide) ?_
  refine lv_istore_n (lv' := [(3, .int 0), (1, .long 7), (0, .ref β)]) hx hb dL_state_5 rfl hl (by decide) rfl (fun ls hl => ?_)
  refine gm_q (Q2 := MQ below (gQl (lf_L_state_6 X (fun z_1w1 k_3w1 =>
        lf_L_state_31 X (fun z_1w2 k_3w2 =>
        lf_L_state_116 X (fun z_1w3 k_3w3 =>
        lf_L_state_154 X (fun z_1w4 k_3w4 =>
        lf_L_state_193 X (fun z_1w5 k_3w5 =>
        z_1w5) 2147483648 z_1w4 0) 2147483648 z_1w3 0) 2147483648 z_1w2 0) 2147483648 z_1w1 0) 2147483648 7 0) (fun _ => True) gNo) args s 0 0 gNo) (by simp only [f_L_state]) ?_
  refine lp_L_state_6 ⟨hx, hb, hr, hts, hown, hlocks, hml, hK⟩ β X hI _ (fun z_1w1 k_3w1 hbk_3w1 H locs ls hR hS hl => ?_) 2147483648 7 0 (by decide) (by omega) _ _ _ hR hS (lv_sub hl [2, 1, 0] rfl)
  refine lv_iconst (v := 0) hx hb dL_state_29 (by decide) ?_
  refine lv_istore_n (lv' := [(3, .int 0), (0, .ref β), (1, .long z_1w1)]) hx hb dL_state_30 rfl hl (by decide) rfl (fun ls hl => ?_)
  refine gm_q (Q2 := MQ below (gQl (lf_L_state_31 X (fun z_1w2 k_3w2 =>
        lf_L_state_116 X (fun z_1w3 k_3w3 =>
        lf_L_state_154 X (fun z_1w4 k_3w4 =>
        lf_L_state_193 X (fun z_1w5 k_3w5 =>
        z_1w5) 2147483648 z_1w4 0) 2147483648 z_1w3 0) 2147483648 z_1w2 0) 2147483648 z_1w1 0) (fun _ => True) gNo) args s 0 0 gNo) (by simp only [f_L_state]) ?_
  refine lp_L_state_31 ⟨hx, hb, hr, hts, hown, hlocks, hml, hK⟩ β X hI _ (fun z_1w2 k_3w2 hbk_3w2 H locs ls hR hS hl => ?_) 2147483648 z_1w1 0 (by decide) (by omega) _ _ _ hR hS (lv_sub hl [1, 2, 0] rfl)
  refine lv_iconst (v := 0) hx hb dL_state_114 (by decide) ?_
  refine lv_istore_n (lv' := [(3, .int 0), (0, .ref β), (1, .long z_1w2)]) hx hb dL_state_115 rfl hl (by decide) rfl (fun ls hl => ?_)
  refine gm_q (Q2 := MQ below (gQl (lf_L_state_116 X (fun z_1w3 k_3w3 =>
        lf_L_state_154 X (fun z_1w4 k_3w4 =>
        lf_L_state_193 X (fun z_1w5 k_3w5 =>
        z_1w5) 2147483648 z_1w4 0) 2147483648 z_1w3 0) 2147483648 z_1w2 0) (fun _ => True) gNo) args s 0 0 gNo) (by simp only [f_L_state]) ?_
  refine lp_L_state_116 ⟨hx, hb, hr, hts, hown, hlocks, hml, hK⟩ β X hI _ (fun z_1w3 k_3w3 hbk_3w3 H locs ls hR hS hl => ?_) 2147483648 z_1w2 0 (by decide) (by omega) _ _ _ hR hS (lv_sub hl [1, 2, 0] rfl)
  refine lv_iconst (v := 0) hx hb dL_state_152 (by decide) ?_
  refine lv_istore_n (lv' := [(3, .int 0), (0, .ref β), (1, .long z_1w3)]) hx hb dL_state_153 rfl hl (by decide) rfl (fun ls hl => ?_)
  refine gm_q (Q2 := MQ below (gQl (lf_L_state_154 X (fun z_1w4 k_3w4 =>
        lf_L_state_193 X (fun z_1w5 k_3w5 =>
        z_1w5) 2147483648 z_1w4 0) 2147483648 z_1w3 0) (fun _ => True) gNo) args s 0 0 gNo) (by simp only [f_L_state]) ?_
  refine lp_L_state_154 ⟨hx, hb, hr, hts, hown, hlocks, hml, hK⟩ β X hI _ (fun z_1w4 k_3w4 hbk_3w4 H locs ls hR hS hl => ?_) 2147483648 z_1w3 0 (by decide) (by omega) _ _ _ hR hS (lv_sub hl [1, 2, 0] rfl)
  refine lv_iconst (v := 0) hx hb dL_state_191 (by decide) ?_
  refine lv_istore_n (lv' := [(3, .int 0), (0, .ref β), (1, .long z_1w4)]) hx hb dL_state_192 rfl hl (by decide) rfl (fun ls hl => ?_)
  refine gm_q (Q2 := MQ below (gQl (lf_L_state_193 X (fun z_1w5 k_3w5 =>
        z_1w5) 2147483648 z_1w4 0) (fun _ => True) gNo) args s 0 0 gNo) (by simp only [f_L_state]) ?_
  refine lp_L_state_193 ⟨hx, hb, hr, hts, hown, hlocks, hml, hK⟩ β X hI _ (fun z_1w5 k_3w5 hbk_3w5 H locs ls hR hS hl => ?_) 2147483648 z_1w4 0 (by decide) (by omega) _ _ _ hR hS (lv_sub hl [1, 2, 0] rfl)
  refine lv_lload_n hx hb dL_state_221 rfl (lv_at hl 1 rfl) ?_
  exact gm_lret hx hb hr hlocks hS (by (try simp only [f_L_state]); (try rfl)) trivial dL_state_222
