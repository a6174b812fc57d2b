def f_L_part (a1 : Int32) (a2 : Int32) : Int32 :=
  (a1 &&& 2147483647) - (a1 &&& 2147483647) / a2 * a2
set_option maxHeartbeats 4000000 in
set_option maxRecDepth 100000 in
theorem c_L_part (l : Launch) (D : va_G) (cy : Nat → ClassId) (a1 : Int32) (a2 : Int32) (h0 : ¬ a2 = 0) : Met l yL_part wsK_part ({ frames := 0, cells := 0, slots := 0, locals := 0 }) (gP [.int a1, .int a2] D cy (fun _ => True)) (gQi (f_L_part a1 a2) (fun _ => True) gNo) 0 0 gNo := by
  refine gm_met (cc := cL_part) (maxL := 2) (ret := (some .int)) [.int a1, .int a2] (by decide) rfl (Nat.le_of_ble_eq_true rfl) ?_
  intro p e s m args below meth c0 ls C hR hl
  obtain ⟨hx, hb, hr, hts, hown, hlocks, hml, hK⟩ := C
  have hl : lv_has ls 2 [(0, .int a1), (1, .int a2)] := hl
  have hS : va_S gNo s.heap s.heap [] := va_S.rf
  refine lv_iload_n hx hb dL_part_0 rfl (lv_at hl 0 rfl) ?_
  refine lv_ldc (v := 2147483647) hx hb hown (hts _ (List.mem_cons_of_mem _ kw_constant_RL_7)) dL_part_1 ?_
  refine lv_iand hx hb dL_part_3 ?_
  refine lv_iload_n hx hb dL_part_4 rfl (lv_at hl 1 rfl) ?_
  refine lv_irem hx hb dL_part_5 h0 ?_
  exact gm_iret hx hb hr hlocks hS (by (try simp only [f_L_part]); (try rfl)) trivial dL_part_6
def f_L_mixed (a1 : Int64) (a2 : Int64) : Int64 :=
  (31 * a1) + a2
set_option maxHeartbeats 4000000 in
set_option maxRecDepth 100000 in
theorem c_L_mixed (l : Launch) (D : va_G) (cy : Nat → ClassId) (a1 : Int64) (a2 : Int64)  : Met l yL_mixed wsK_mixed ({ frames := 0, cells := 0, slots := 0, locals := 0 }) (gP [.long a1, .long a2] D cy (fun _ => True)) (gQl (f_L_mixed a1 a2) (fun _ => True) gNo) 0 0 gNo := by
  refine gm_met (cc := cL_mixed) (maxL := 4) (ret := (some .long)) [.long a1, .long a2] (by decide) rfl (Nat.le_of_ble_eq_true rfl) ?_
  intro p e s m args below meth c0 ls C hR hl
  obtain ⟨hx, hb, hr, hts, hown, hlocks, hml, hK⟩ := C
  have hl : lv_has ls 4 [(0, .long a1), (2, .long a2)] := hl
  have hS : va_S gNo s.heap s.heap [] := va_S.rf
  refine lv_ldc2 (v := 31) hx hb hown (hts _ (List.mem_cons_of_mem _ kw_constantLong_RL_9)) dL_mixed_0 ?_
  refine lv_lload_n hx hb dL_mixed_3 rfl (lv_at hl 0 rfl) ?_
  refine lv_lmul hx hb dL_mixed_4 ?_
  refine lv_lload_n hx hb dL_mixed_5 rfl (lv_at hl 1 rfl) ?_
  refine lv_ladd hx hb dL_mixed_6 ?_
  exact gm_lret hx hb hr hlocks hS (by (try simp only [f_L_mixed]); (try rfl)) trivial dL_mixed_7
def f_L_isEvent (X : gM) (a2 : Int32) (a3 : Int32) (a4 : Int32) (a5 : Int32) (a6 : Int32) : Int32 :=
  if f_X8_event X a2 0 = a3 then
    if f_X8_event X a2 1 = a4 then
      if a5 < 0 then
        if f_X8_event X a2 4 = a6 then
          1
        else
          0
      else
        if f_X8_event X a2 3 = a5 then
          if f_X8_event X a2 2 = a5 / 10 then
            if f_X8_event X a2 4 = a6 then
              1
            else
              0
          else
            0
        else
          0
    else
      0
  else
    0
set_option maxHeartbeats 4000000 in
set_option maxRecDepth 100000 in
theorem c_L_isEvent (l : Launch) (D : va_G) (cy : Nat → ClassId) (β : Nat) (X : gM) (a2 : Int32) (a3 : Int32) (a4 : Int32) (a5 : Int32) (a6 : Int32)  : Met l yL_isEvent wsK_isEvent ({ frames := 3, cells := 0, slots := 0, locals := 67 }) (gP [.ref β, .int a2, .int a3, .int a4, .int a5, .int a6] D cy (TR D cy β X)) (gQi (f_L_isEvent X a2 a3 a4 a5 a6) (fun _ => True) gNo) 0 0 gNo := by
  refine gm_met (cc := cL_isEvent) (maxL := 6) (ret := (some .boolean)) [.ref β, .int a2, .int a3, .int a4, .int a5, .int a6] (by decide) rfl (Nat.le_of_ble_eq_true rfl) ?_
  intro p e s m args below meth c0 ls C hR hl
  obtain ⟨hx, hb, hr, hts, hown, hlocks, hml, hK⟩ := C
  have hl : lv_has ls 6 [(0, .ref β), (1, .int a2), (2, .int a3), (3, .int a4), (4, .int a5), (5, .int a6)] := hl
  have hS : va_S gNo s.heap s.heap [] := va_S.rf
  refine lv_aload_n hx hb dL_isEvent_0 rfl (lv_at hl 0 rfl) ?_
  refine lv_iload_n hx hb dL_isEvent_1 rfl (lv_at hl 1 rfl) ?_
  refine lv_iconst (v := 0) hx hb dL_isEvent_2 (by decide) ?_
  refine gm_ci (gm_call (As := [.int a2, .int 0]) (rest := []) (ci := 8) (q := (RX8, TX8, 8)) ⟨hx, hb, hml, hown, hts⟩ hK (c_X8_event l D cy β X a2 0) (cwV 2 hts (kIn kv_event) rfl rfl rfl (by decide +kernel) ⟨Nat.le_of_ble_eq_true rfl, Nat.le_of_ble_eq_true rfl⟩) (TR.mk0 hR) rfl hR rfl hl.1 rfl (Nat.le_of_ble_eq_true rfl) dL_isEvent_3 (Nat.zero_le _) (Nat.zero_le _)) hS (fun _ h => h.elim) (fun H locs _ _ hfr hS => ?_)
  have hR := gRep.keep hR hfr (fun _ _ h => h)
  refine lv_iload_n hx hb dL_isEvent_6 rfl (lv_at hl 2 rfl) ?_
  refine lv_icmp_ne (tgt := 65) hx hb dL_isEvent_7 (by decide) (fun c_1 => ?_) (fun c_1 => ?_)
  · refine lv_iconst (v := 0) hx hb dL_isEvent_65 (by decide) ?_
    exact gm_zret hx hb hr hlocks rfl hS (by (try simp only [f_L_isEvent, ↓if_neg c_1]); (try rfl)) trivial dL_isEvent_66
  · refine lv_aload_n hx hb dL_isEvent_10 rfl (lv_at hl 0 rfl) ?_
    refine lv_iload_n hx hb dL_isEvent_11 rfl (lv_at hl 1 rfl) ?_
    refine lv_iconst (v := 1) hx hb dL_isEvent_12 (by decide) ?_
    refine gm_ci (gm_call (As := [.int a2, .int 1]) (rest := []) (ci := 8) (q := (RX8, TX8, 8)) ⟨hx, hb, hml, hown, hts⟩ hK (c_X8_event l D cy β X a2 1) (cwV 2 hts (kIn kv_event) rfl rfl rfl (by decide +kernel) ⟨Nat.le_of_ble_eq_true rfl, Nat.le_of_ble_eq_true rfl⟩) (TR.mk0 hR) rfl hR rfl hl.1 rfl (Nat.le_of_ble_eq_true rfl) dL_isEvent_13 (Nat.zero_le _) (Nat.zero_le _)) hS (fun _ h => h.elim) (fun H locs _ _ hfr hS => ?_)
    have hR := gRep.keep hR hfr (fun _ _ h => h)
    refine lv_iload_n hx hb dL_isEvent_16 rfl (lv_at hl 3 rfl) ?_
    refine lv_icmp_ne (tgt := 65) hx hb dL_isEvent_17 (by decide) (fun c_2 => ?_) (fun c_2 => ?_)
    · refine lv_iconst (v := 0) hx hb dL_isEvent_65 (by decide) ?_
      exact gm_zret hx hb hr hlocks rfl hS (by (try simp only [f_L_isEvent, ↓if_pos c_1, ↓if_neg c_2]); (try rfl)) trivial dL_isEvent_66
    · refine lv_iload hx hb dL_isEvent_20 (lv_at hl 4 rfl) ?_
      refine lv_if_lt (tgt := 50) hx hb dL_isEvent_22 (by decide) (fun c_3 => ?_) (fun c_3 => ?_)
      · refine lv_aload_n hx hb dL_isEvent_50 rfl (lv_at hl 0 rfl) ?_
        refine lv_iload_n hx hb dL_isEvent_51 rfl (lv_at hl 1 rfl) ?_
        refine lv_iconst (v := 4) hx hb dL_isEvent_52 (by decide) ?_
        refine gm_ci (gm_call (As := [.int a2, .int 4]) (rest := []) (ci := 8) (q := (RX8, TX8, 8)) ⟨hx, hb, hml, hown, hts⟩ hK (c_X8_event l D cy β X a2 4) (cwV 2 hts (kIn kv_event) rfl rfl rfl (by decide +kernel) ⟨Nat.le_of_ble_eq_true rfl, Nat.le_of_ble_eq_true rfl⟩) (TR.mk0 hR) rfl hR rfl hl.1 rfl (Nat.le_of_ble_eq_true rfl) dL_isEvent_53 (Nat.zero_le _) (Nat.zero_le _)) hS (fun _ h => h.elim) (fun H locs _ _ hfr hS => ?_)
        have hR := gRep.keep hR hfr (fun _ _ h => h)
        refine lv_iload hx hb dL_isEvent_56 (lv_at hl 5 rfl) ?_
        refine lv_icmp_ne (tgt := 65) hx hb dL_isEvent_58 (by decide) (fun c_4 => ?_) (fun c_4 => ?_)
        · refine lv_iconst (v := 0) hx hb dL_isEvent_65 (by decide) ?_
          exact gm_zret hx hb hr hlocks rfl hS (by (try simp only [f_L_isEvent, ↓if_pos c_1, ↓if_pos c_2, ↓if_pos c_3, ↓if_neg c_4]); (try rfl)) trivial dL_isEvent_66
        · refine lv_iconst (v := 1) hx hb dL_isEvent_61 (by decide) ?_
          refine lv_goto (tgt := 66) hx hb dL_isEvent_62 (by decide) ?_
          exact gm_zret hx hb hr hlocks rfl hS (by (try simp only [f_L_isEvent, ↓if_pos c_1, ↓if_pos c_2, ↓if_pos c_3, ↓if_pos c_4]); (try rfl)) trivial dL_isEvent_66
      · refine lv_aload_n hx hb dL_isEvent_25 rfl (lv_at hl 0 rfl) ?_
        refine lv_iload_n hx hb dL_isEvent_26 rfl (lv_at hl 1 rfl) ?_
        refine lv_iconst (v := 3) hx hb dL_isEvent_27 (by decide) ?_
        refine gm_ci (gm_call (As := [.int a2, .int 3]) (rest := []) (ci := 8) (q := (RX8, TX8, 8)) ⟨hx, hb, hml, hown, hts⟩ hK (c_X8_event l D cy β X a2 3) (cwV 2 hts (kIn kv_event) rfl rfl rfl (by decide +kernel) ⟨Nat.le_of_ble_eq_true rfl, Nat.le_of_ble_eq_true rfl⟩) (TR.mk0 hR) rfl hR rfl hl.1 rfl (Nat.le_of_ble_eq_true rfl) dL_isEvent_28 (Nat.zero_le _) (Nat.zero_le _)) hS (fun _ h => h.elim) (fun H locs _ _ hfr hS => ?_)
        have hR := gRep.keep hR hfr (fun _ _ h => h)
        refine lv_iload hx hb dL_isEvent_31 (lv_at hl 4 rfl) ?_
        refine lv_icmp_ne (tgt := 65) hx hb dL_isEvent_33 (by decide) (fun c_5 => ?_) (fun c_5 => ?_)
        · refine lv_iconst (v := 0) hx hb dL_isEvent_65 (by decide) ?_
          exact gm_zret hx hb hr hlocks rfl hS (by (try simp only [f_L_isEvent, ↓if_pos c_1, ↓if_pos c_2, ↓if_neg c_3, ↓if_neg c_5]); (try rfl)) trivial dL_isEvent_66
        · refine lv_aload_n hx hb dL_isEvent_36 rfl (lv_at hl 0 rfl) ?_
          refine lv_iload_n hx hb dL_isEvent_37 rfl (lv_at hl 1 rfl) ?_
          refine lv_iconst (v := 2) hx hb dL_isEvent_38 (by decide) ?_
          refine gm_ci (gm_call (As := [.int a2, .int 2]) (rest := []) (ci := 8) (q := (RX8, TX8, 8)) ⟨hx, hb, hml, hown, hts⟩ hK (c_X8_event l D cy β X a2 2) (cwV 2 hts (kIn kv_event) rfl rfl rfl (by decide +kernel) ⟨Nat.le_of_ble_eq_true rfl, Nat.le_of_ble_eq_true rfl⟩) (TR.mk0 hR) rfl hR rfl hl.1 rfl (Nat.le_of_ble_eq_true rfl) dL_isEvent_39 (Nat.zero_le _) (Nat.zero_le _)) hS (fun _ h => h.elim) (fun H locs _ _ hfr hS => ?_)
          have hR := gRep.keep hR hfr (fun _ _ h => h)
          refine lv_iload hx hb dL_isEvent_42 (lv_at hl 4 rfl) ?_
          refine lv_bipush (v := 10) hx hb dL_isEvent_44 (by decide) ?_
          refine lv_idiv hx hb dL_isEvent_46 (by decide) ?_
          refine lv_icmp_ne (tgt := 65) hx hb dL_isEvent_47 (by decide) (fun c_6 => ?_) (fun c_6 => ?_)
          · refine lv_iconst (v := 0) hx hb dL_isEvent_65 (by decide) ?_
            exact gm_zret hx hb hr hlocks rfl hS (by (try simp only [f_L_isEvent, ↓if_pos c_1, ↓if_pos c_2, ↓if_neg c_3, ↓if_pos c_5, ↓if_neg c_6]); (try rfl)) trivial dL_isEvent_66
          · refine lv_aload_n hx hb dL_isEvent_50 rfl (lv_at hl 0 rfl) ?_
            refine lv_iload_n hx hb dL_isEvent_51 rfl (lv_at hl 1 rfl) ?_
            refine lv_iconst (v := 4) hx hb dL_isEvent_52 (by decide) ?_
            refine gm_ci (gm_call (As := [.int a2, .int 4]) (rest := []) (ci := 8) (q := (RX8, TX8, 8)) ⟨hx, hb, hml, hown, hts⟩ hK (c_X8_event l D cy β X a2 4) (cwV 2 hts (kIn kv_event) rfl rfl rfl (by decide +kernel) ⟨Nat.le_of_ble_eq_true rfl, Nat.le_of_ble_eq_true rfl⟩) (TR.mk0 hR) rfl hR rfl hl.1 rfl (Nat.le_of_ble_eq_true rfl) dL_isEvent_53 (Nat.zero_le _) (Nat.zero_le _)) hS (fun _ h => h.elim) (fun H locs _ _ hfr hS => ?_)
            have hR := gRep.keep hR hfr (fun _ _ h => h)
            refine lv_iload hx hb dL_isEvent_56 (lv_at hl 5 rfl) ?_
            refine lv_icmp_ne (tgt := 65) hx hb dL_isEvent_58 (by decide) (fun c_7 => ?_) (fun c_7 => ?_)
            · refine lv_iconst (v := 0) hx hb dL_isEvent_65 (by decide) ?_
              exact gm_zret hx hb hr hlocks rfl hS (by (try simp only [f_L_isEvent, ↓if_pos c_1, ↓if_pos c_2, ↓if_neg c_3, ↓if_pos c_5, ↓if_pos c_6, ↓if_neg c_7]); (try rfl)) trivial dL_isEvent_66
            · refine lv_iconst (v := 1) hx hb dL_isEvent_61 (by decide) ?_
              refine lv_goto (tgt := 66) hx hb dL_isEvent_62 (by decide) ?_
              exact gm_zret hx hb hr hlocks rfl hS (by (try simp only [f_L_isEvent, ↓if_pos c_1, ↓if_pos c_2, ↓if_neg c_3, ↓if_pos c_5, ↓if_pos c_6, ↓if_pos c_7]); (try rfl)) trivial dL_isEvent_66
def f_L_placeOf (X : gM) (a2 : Int32) : Int32 :=
  if (f_X8_line X 0 4) + (f_X8_line X 1 4) = 0 then
    if 0 < f_X8_line X 0 4 then
      0
    else
      0
  else
    if f_L_part a2 ((f_X8_line X 0 4) + (f_X8_line X 1 4)) < f_X8_line X 0 4 then
      f_L_part a2 ((f_X8_line X 0 4) + (f_X8_line X 1 4))
    else
      (10 + (f_L_part a2 ((f_X8_line X 0 4) + (f_X8_line X 1 4)))) - (f_X8_line X 0 4)
set_option maxHeartbeats 4000000 in
set_option maxRecDepth 100000 in
theorem c_L_placeOf (l : Launch) (D : va_G) (cy : Nat → ClassId) (β : Nat) (X : gM) (a2 : Int32)  : Met l yL_placeOf wsK_placeOf ({ frames := 2, cells := 0, slots := 0, locals := 46 }) (gP [.ref β, .int a2] D cy (TR D cy β X)) (gQi (f_L_placeOf X a2) (fun _ => True) gNo) 0 0 gNo := by
  refine gm_met (cc := cL_placeOf) (maxL := 4) (ret := (some .int)) [.ref β, .int a2] (by decide) rfl (Nat.le_of_ble_eq_true rfl) ?_
  intro p e s m args below meth c0 ls C hR hl
  obtain ⟨hx, hb, hr, hts, hown, hlocks, hml, hK⟩ := C
  have hl : lv_has ls 4 [(0, .ref β), (1, .int a2)] := hl
  have hS : va_S gNo s.heap s.heap [] := va_S.rf
  refine lv_aload_n hx hb dL_placeOf_0 rfl (lv_at hl 0 rfl) ?_
  refine lv_iconst (v := 0) hx hb dL_placeOf_1 (by decide) ?_
  refine lv_iconst (v := 4) hx hb dL_placeOf_2 (by decide) ?_
  refine gm_ci (gm_call (As := [.int 0, .int 4]) (rest := []) (ci := 8) (q := (RX8, TX8, 8)) ⟨hx, hb, hml, hown, hts⟩ hK (c_X8_line l D cy β X 0 4) (cwV 2 hts (kIn kv_line) rfl rfl rfl (by decide +kernel) ⟨Nat.le_of_ble_eq_true rfl, Nat.le_of_ble_eq_true rfl⟩) (TR.mk0 hR) rfl hR rfl hl.1 rfl (Nat.le_of_ble_eq_true rfl) dL_placeOf_3 (Nat.zero_le _) (Nat.zero_le _)) hS (fun _ h => h.elim) (fun H locs _ _ hfr hS => ?_)
  have hR := gRep.keep hR hfr (fun _ _ h => h)
  refine lv_aload_n hx hb dL_placeOf_6 rfl (lv_at hl 0 rfl) ?_
  refine lv_iconst (v := 1) hx hb dL_placeOf_7 (by decide) ?_
  refine lv_iconst (v := 4) hx hb dL_placeOf_8 (by decide) ?_
  refine gm_ci (gm_call (As := [.int 1, .int 4]) (rest := [.int (f_X8_line X 0 4)]) (ci := 8) (q := (RX8, TX8, 8)) ⟨hx, hb, hml, hown, hts⟩ hK (c_X8_line l D cy β X 1 4) (cwV 2 hts (kIn kv_line) rfl rfl rfl (by decide +kernel) ⟨Nat.le_of_ble_eq_true rfl, Nat.le_of_ble_eq_true rfl⟩) (TR.mk0 hR) rfl hR rfl hl.1 rfl (Nat.le_of_ble_eq_true rfl) dL_placeOf_9 (Nat.zero_le _) (Nat.zero_le _)) hS (fun _ h => h.elim) (fun H locs _ _ hfr hS => ?_)
  have hR := gRep.keep hR hfr (fun _ _ h => h)
  refine lv_iadd hx hb dL_placeOf_12 ?_
  refine lv_istore_n (lv' := [(2, .int ((f_X8_line X 0 4) + (f_X8_line X 1 4))), (0, .ref β), (1, .int a2)]) hx hb dL_placeOf_13 rfl hl (by decide) rfl (fun ls hl => ?_)
  refine lv_iload_n hx hb dL_placeOf_14 rfl (lv_at hl 0 rfl) ?_
  refine lv_if_ne (tgt := 22) hx hb dL_placeOf_15 (by decide) (fun c_1 => ?_) (fun c_1 => ?_)
  · refine lv_iload_n hx hb dL_placeOf_22 rfl (lv_at hl 2 rfl) ?_
    refine lv_iload_n hx hb dL_placeOf_23 rfl (lv_at hl 0 rfl) ?_
    refine gm_ci (gm_callS (As := [.int a2, .int ((f_X8_line X 0 4) + (f_X8_line X 1 4))]) (rest := []) ⟨hx, hb, hml, hown, hts⟩ hK (c_L_part l D cy a2 ((f_X8_line X 0 4) + (f_X8_line X 1 4)) c_1) (va_cwS 2 hts (kIn ks_part) rfl rfl rfl (by decide +kernel) ⟨Nat.le_of_ble_eq_true rfl, Nat.le_of_ble_eq_true rfl⟩) trivial rfl hl.1 rfl (Nat.le_of_ble_eq_true rfl) dL_placeOf_24 (Nat.zero_le _) (Nat.zero_le _)) hS (fun _ h => h.elim) (fun H locs _ _ hfr hS => ?_)
    have hR := gRep.keep hR hfr (fun _ _ h => h)
    refine lv_istore_n (lv' := [(3, .int (f_L_part a2 ((f_X8_line X 0 4) + (f_X8_line X 1 4)))), (2, .int ((f_X8_line X 0 4) + (f_X8_line X 1 4))), (0, .ref β), (1, .int a2)]) hx hb dL_placeOf_27 rfl hl (by decide) rfl (fun ls hl => ?_)
    refine lv_iload_n hx hb dL_placeOf_28 rfl (lv_at hl 0 rfl) ?_
    refine lv_aload_n hx hb dL_placeOf_29 rfl (lv_at hl 2 rfl) ?_
    refine lv_iconst (v := 0) hx hb dL_placeOf_30 (by decide) ?_
    refine lv_iconst (v := 4) hx hb dL_placeOf_31 (by decide) ?_
    refine gm_ci (gm_call (As := [.int 0, .int 4]) (rest := [.int (f_L_part a2 ((f_X8_line X 0 4) + (f_X8_line X 1 4)))]) (ci := 8) (q := (RX8, TX8, 8)) ⟨hx, hb, hml, hown, hts⟩ hK (c_X8_line l D cy β X 0 4) (cwV 2 hts (kIn kv_line) rfl rfl rfl (by decide +kernel) ⟨Nat.le_of_ble_eq_true rfl, Nat.le_of_ble_eq_true rfl⟩) (TR.mk0 hR) rfl hR rfl hl.1 rfl (Nat.le_of_ble_eq_true rfl) dL_placeOf_32 (Nat.zero_le _) (Nat.zero_le _)) hS (fun _ h => h.elim) (fun H locs _ _ hfr hS => ?_)
    have hR := gRep.keep hR hfr (fun _ _ h => h)
    refine lv_icmp_lt (tgt := 42) hx hb dL_placeOf_35 (by decide) (fun c_2 => ?_) (fun c_2 => ?_)
    · refine lv_iload_n hx hb dL_placeOf_42 rfl (lv_at hl 0 rfl) ?_
      refine lv_goto (tgt := 57) hx hb dL_placeOf_43 (by decide) ?_
      exact gm_iret hx hb hr hlocks hS (by (try simp only [f_L_placeOf, ↓if_neg c_1, ↓if_pos c_2]); (try rfl)) trivial dL_placeOf_57
    · refine lv_iload_n hx hb dL_placeOf_38 rfl (lv_at hl 1 rfl) ?_
      refine lv_if_ne (tgt := 46) hx hb dL_placeOf_39 (by decide) (fun c_3 => ?_) (fun c_3 => ?_)
      · refine lv_bipush (v := 10) hx hb dL_placeOf_46 (by decide) ?_
        refine lv_iload_n hx hb dL_placeOf_48 rfl (lv_at hl 0 rfl) ?_
        refine lv_iadd hx hb dL_placeOf_49 ?_
        refine lv_aload_n hx hb dL_placeOf_50 rfl (lv_at hl 2 rfl) ?_
        refine lv_iconst (v := 0) hx hb dL_placeOf_51 (by decide) ?_
        refine lv_iconst (v := 4) hx hb dL_placeOf_52 (by decide) ?_
        refine gm_ci (gm_call (As := [.int 0, .int 4]) (rest := [.int (10 + (f_L_part a2 ((f_X8_line X 0 4) + (f_X8_line X 1 4))))]) (ci := 8) (q := (RX8, TX8, 8)) ⟨hx, hb, hml, hown, hts⟩ hK (c_X8_line l D cy β X 0 4) (cwV 2 hts (kIn kv_line) rfl rfl rfl (by decide +kernel) ⟨Nat.le_of_ble_eq_true rfl, Nat.le_of_ble_eq_true rfl⟩) (TR.mk0 hR) rfl hR rfl hl.1 rfl (Nat.le_of_ble_eq_true rfl) dL_placeOf_53 (Nat.zero_le _) (Nat.zero_le _)) hS (fun _ h => h.elim) (fun H locs _ _ hfr hS => ?_)
        have hR := gRep.keep hR hfr (fun _ _ h => h)
        refine lv_isub hx hb dL_placeOf_56 ?_
        exact gm_iret hx hb hr hlocks hS (by (try simp only [f_L_placeOf, ↓if_neg c_1, ↓if_neg c_2]); (try rfl)) trivial dL_placeOf_57
      · exact absurd c_3 c_1
  · refine lv_iconst (v := 0) hx hb dL_placeOf_18 (by decide) ?_
    refine lv_goto (tgt := 27) hx hb dL_placeOf_19 (by decide) ?_
    refine lv_istore_n (lv' := [(3, .int 0), (2, .int ((f_X8_line X 0 4) + (f_X8_line X 1 4))), (0, .ref β), (1, .int a2)]) hx hb dL_placeOf_27 rfl hl (by decide) rfl (fun ls hl => ?_)
    refine lv_iload_n hx hb dL_placeOf_28 rfl (lv_at hl 0 rfl) ?_
    refine lv_aload_n hx hb dL_placeOf_29 rfl (lv_at hl 2 rfl) ?_
    refine lv_iconst (v := 0) hx hb dL_placeOf_30 (by decide) ?_
    refine lv_iconst (v := 4) hx hb dL_placeOf_31 (by decide) ?_
    refine gm_ci (gm_call (As := [.int 0, .int 4]) (rest := [.int 0]) (ci := 8) (q := (RX8, TX8, 8)) ⟨hx, hb, hml, hown, hts⟩ hK (c_X8_line l D cy β X 0 4) (cwV 2 hts (kIn kv_line) rfl rfl rfl (by decide +kernel) ⟨Nat.le_of_ble_eq_true rfl, Nat.le_of_ble_eq_true rfl⟩) (TR.mk0 hR) rfl hR rfl hl.1 rfl (Nat.le_of_ble_eq_true rfl) dL_placeOf_32 (Nat.zero_le _) (Nat.zero_le _)) hS (fun _ h => h.elim) (fun H locs _ _ hfr hS => ?_)
    have hR := gRep.keep hR hfr (fun _ _ h => h)
    refine lv_icmp_lt (tgt := 42) hx hb dL_placeOf_35 (by decide) (fun c_4 => ?_) (fun c_4 => ?_)
    · refine lv_iload_n hx hb dL_placeOf_42 rfl (lv_at hl 0 rfl) ?_
      refine lv_goto (tgt := 57) hx hb dL_placeOf_43 (by decide) ?_
      exact gm_iret hx hb hr hlocks hS (by (try simp only [f_L_placeOf, ↓if_pos c_1, ↓if_pos c_4]); (try rfl)) trivial dL_placeOf_57
    · refine lv_iload_n hx hb dL_placeOf_38 rfl (lv_at hl 1 rfl) ?_
      refine lv_if_ne (tgt := 46) hx hb dL_placeOf_39 (by decide) (fun c_5 => ?_) (fun c_5 => ?_)
      · exact absurd c_1 c_5
      · refine lv_iload_n hx hb dL_placeOf_42 rfl (lv_at hl 0 rfl) ?_
        refine lv_goto (tgt := 57) hx hb dL_placeOf_43 (by decide) ?_
        exact gm_iret hx hb hr hlocks hS (by (try simp only [f_L_placeOf, ↓if_pos c_1, ↓if_neg c_4]); (try rfl)) trivial dL_placeOf_57
