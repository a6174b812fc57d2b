def p_L_isTold (X : gM) (a2 : Int64) (a3 : Int64) (a4 : Int32) : Int32 × gM :=
  let X1 := (p_X8_clearText X).2
  let X2 := (p_L_types X1 a2).2
  let X3 := (p_L_types X2 a3).2
  if (p_X8_clearText X).1 < 0 then
    (0, X3)
  else
    if ((p_L_types X1 a2).1) + ((p_L_types X2 a3).1) < 0 then
      (0, X3)
    else
      let X4 := (p_X8_readTickets X3).2
      if (p_X8_readTickets X3).1 = a4 then
        if f_X8_count X4 1 = 0 then
          (1, X4)
        else
          (0, X4)
      else
        (0, X4)
set_option maxHeartbeats 4000000 in
set_option maxRecDepth 100000 in
theorem c_L_isTold (l : Launch) (D : va_G) (cy : Nat → ClassId) (β : Nat) (X : gM) (a2 : Int64) (a3 : Int64) (a4 : Int32) (hI : Iv X) : Met l yL_isTold wsK_isTold ({ frames := 7, cells := 0, slots := 0, locals := 154 }) (gP [.ref β, .long a2, .long a3, .int a4] D cy (TR D cy β X)) (gQi (p_L_isTold X a2 a3 a4).1 (TR D cy β (p_L_isTold X a2 a3 a4).2) (TA β)) 0 0 (TA β) := by
  refine gm_met (cc := cL_isTold) (maxL := 8) (ret := (some .boolean)) [.ref β, .long a2, .long a3, .int a4] (by decide) rfl (Nat.le_of_ble_eq_true rfl) ?_
  intro p e s m args below meth c0 ls C hR hl
  obtain ⟨hx, hb, hr, hts, hown, hlocks, hml, hK⟩ := C
  have hl : lv_has ls 8 [(0, .ref β), (1, .long a2), (3, .long a3), (5, .int a4)] := hl
  have hS : va_S (TA β) s.heap s.heap [] := va_S.rf
  refine lv_aload_n hx hb dL_isTold_0 rfl (lv_at hl 0 rfl) ?_
  refine gm_ci (gm_call (As := []) (rest := []) (ci := 8) (q := (RX8, TX8, 8)) ⟨hx, hb, hml, hown, hts⟩ hK (c_X8_clearText l D cy β X) (cwV 0 hts (kIn kv_clearText) rfl rfl rfl (by decide +kernel) ⟨Nat.le_of_ble_eq_true rfl, Nat.le_of_ble_eq_true rfl⟩) (TR.mk0 hR) rfl hR rfl hl.1 rfl (Nat.le_of_ble_eq_true rfl) dL_isTold_1 (Nat.zero_le _) (Nat.zero_le _)) hS (fun _ h => h) (fun H locs hR _ _ hS => ?_)
  obtain ⟨X1, eX1⟩ : ∃ Y : gM, Y = (p_X8_clearText X).2 := ⟨_, rfl⟩
  rw [← eX1] at hR
  have iX1 : Iv X1 := by rw [eX1]; exact I_clearText hI 
  refine lv_istore (lv' := [(6, .int ((p_X8_clearText X).1)), (0, .ref β), (1, .long a2), (3, .long a3), (5, .int a4)]) hx hb dL_isTold_4 hl (by decide) rfl (fun ls hl => ?_)
  refine lv_aload_n hx hb dL_isTold_6 rfl (lv_at hl 1 rfl) ?_
  refine lv_lload_n hx hb dL_isTold_7 rfl (lv_at hl 2 rfl) ?_
  refine gm_ci (gm_callS (As := [.ref β, .long a2]) (rest := []) ⟨hx, hb, hml, hown, hts⟩ hK (c_L_types l D cy β X1 a2 iX1) (va_cwS 2 hts (kIn ks_types) rfl rfl rfl (by decide +kernel) ⟨Nat.le_of_ble_eq_true rfl, Nat.le_of_ble_eq_true rfl⟩) hR rfl hl.1 rfl (Nat.le_of_ble_eq_true rfl) dL_isTold_8 (Nat.zero_le _) (Nat.zero_le _)) hS (fun _ h => h) (fun H locs hR _ _ hS => ?_)
  obtain ⟨X2, eX2⟩ : ∃ Y : gM, Y = (p_L_types X1 a2).2 := ⟨_, rfl⟩
  rw [← eX2] at hR
  have iX2 : Iv X2 := by rw [eX2]; exact I_types iX1 a2
  refine lv_istore (lv' := [(7, .int ((p_L_types X1 a2).1)), (6, .int ((p_X8_clearText X).1)), (0, .ref β), (1, .long a2), (3, .long a3), (5, .int a4)]) hx hb dL_isTold_11 hl (by decide) rfl (fun ls hl => ?_)
  refine lv_iload hx hb dL_isTold_13 (lv_at hl 0 rfl) ?_
  refine lv_aload_n hx hb dL_isTold_15 rfl (lv_at hl 2 rfl) ?_
  refine lv_lload_n hx hb dL_isTold_16 rfl (lv_at hl 4 rfl) ?_
  refine gm_ci (gm_callS (As := [.ref β, .long a3]) (rest := [.int ((p_L_types X1 a2).1)]) ⟨hx, hb, hml, hown, hts⟩ hK (c_L_types l D cy β X2 a3 iX2) (va_cwS 2 hts (kIn ks_types) rfl rfl rfl (by decide +kernel) ⟨Nat.le_of_ble_eq_true rfl, Nat.le_of_ble_eq_true rfl⟩) hR rfl hl.1 rfl (Nat.le_of_ble_eq_true rfl) dL_isTold_17 (Nat.zero_le _) (Nat.zero_le _)) hS (fun _ h => h) (fun H locs hR _ _ hS => ?_)
  obtain ⟨X3, eX3⟩ : ∃ Y : gM, Y = (p_L_types X2 a3).2 := ⟨_, rfl⟩
  rw [← eX3] at hR
  have iX3 : Iv X3 := by rw [eX3]; exact I_types iX2 a3
  refine lv_iadd hx hb dL_isTold_20 ?_
  refine lv_istore (lv' := [(7, .int (((p_L_types X1 a2).1) + ((p_L_types X2 a3).1))), (6, .int ((p_X8_clearText X).1)), (0, .ref β), (1, .long a2), (3, .long a3), (5, .int a4)]) hx hb dL_isTold_21 hl (by decide) rfl (fun ls hl => ?_)
  refine lv_iload hx hb dL_isTold_23 (lv_at hl 1 rfl) ?_
  refine lv_if_lt (tgt := 54) hx hb dL_isTold_25 (by decide) (fun c_1 => ?_) (fun c_1 => ?_)
  · refine lv_iconst (v := 0) hx hb dL_isTold_54 (by decide) ?_
    exact gm_zret hx hb hr hlocks rfl hS (by (try simp only [p_L_isTold, ↓if_pos c_1, ← eX1, ← eX2, ← eX3]); (try rfl)) (by (try simp only [p_L_isTold, ↓if_pos c_1, ← eX1, ← eX2, ← eX3]); exact hR) dL_isTold_55
  · refine lv_iload hx hb dL_isTold_28 (lv_at hl 0 rfl) ?_
    refine lv_if_lt (tgt := 54) hx hb dL_isTold_30 (by decide) (fun c_2 => ?_) (fun c_2 => ?_)
    · refine lv_iconst (v := 0) hx hb dL_isTold_54 (by decide) ?_
      exact gm_zret hx hb hr hlocks rfl hS (by (try simp only [p_L_isTold, ↓if_neg c_1, ↓if_pos c_2, ← eX1, ← eX2, ← eX3]); (try rfl)) (by (try simp only [p_L_isTold, ↓if_neg c_1, ↓if_pos c_2, ← eX1, ← eX2, ← eX3]); exact hR) dL_isTold_55
    · refine lv_aload_n hx hb dL_isTold_33 rfl (lv_at hl 2 rfl) ?_
      refine gm_ci (gm_call (As := []) (rest := []) (ci := 8) (q := (RX8, TX8, 8)) ⟨hx, hb, hml, hown, hts⟩ hK (c_X8_readTickets l D cy β X3 (Iv.ok iX3)) (cwV 0 hts (kIn kv_readTickets) rfl rfl rfl (by decide +kernel) ⟨Nat.le_of_ble_eq_true rfl, Nat.le_of_ble_eq_true rfl⟩) (TR.mk0 hR) rfl hR rfl hl.1 rfl (Nat.le_of_ble_eq_true rfl) dL_isTold_34 (Nat.zero_le _) (Nat.zero_le _)) hS (fun _ h => h) (fun H locs hR _ _ hS => ?_)
      obtain ⟨X4, eX4⟩ : ∃ Y : gM, Y = (p_X8_readTickets X3).2 := ⟨_, rfl⟩
      rw [← eX4] at hR
      have iX4 : Iv X4 := by rw [eX4]; exact I_readTickets iX3 
      refine lv_iload hx hb dL_isTold_37 (lv_at hl 5 rfl) ?_
      refine lv_icmp_ne (tgt := 54) hx hb dL_isTold_39 (by decide) (fun c_3 => ?_) (fun c_3 => ?_)
      · refine lv_iconst (v := 0) hx hb dL_isTold_54 (by decide) ?_
        exact gm_zret hx hb hr hlocks rfl hS (by (try simp only [p_L_isTold, ↓if_neg c_1, ↓if_neg c_2, ↓if_neg c_3, ← eX1, ← eX2, ← eX3, ← eX4]); (try rfl)) (by (try simp only [p_L_isTold, ↓if_neg c_1, ↓if_neg c_2, ↓if_neg c_3, ← eX1, ← eX2, ← eX3, ← eX4]); exact hR) dL_isTold_55
      · refine lv_aload_n hx hb dL_isTold_42 rfl (lv_at hl 2 rfl) ?_
        refine lv_iconst (v := 1) hx hb dL_isTold_43 (by decide) ?_
        refine gm_ci (gm_call (As := [.int 1]) (rest := []) (ci := 8) (q := (RX8, TX8, 8)) ⟨hx, hb, hml, hown, hts⟩ hK (c_X8_count l D cy β X4 1) (cwV 1 hts (kIn kv_count) rfl rfl rfl (by decide +kernel) ⟨Nat.le_of_ble_eq_true rfl, Nat.le_of_ble_eq_true rfl⟩) (TR.mk0 hR) rfl hR rfl hl.1 rfl (Nat.le_of_ble_eq_true rfl) dL_isTold_44 (Nat.zero_le _) (Nat.zero_le _)) hS (fun _ h => h.elim) (fun H locs _ _ hfr hS => ?_)
        have hR := gRep.keep hR hfr (fun _ _ h => h)
        refine lv_if_ne (tgt := 54) hx hb dL_isTold_47 (by decide) (fun c_4 => ?_) (fun c_4 => ?_)
        · refine lv_iconst (v := 0) hx hb dL_isTold_54 (by decide) ?_
          exact gm_zret hx hb hr hlocks rfl hS (by (try simp only [p_L_isTold, ↓if_neg c_1, ↓if_neg c_2, ↓if_pos c_3, ↓if_neg c_4, ← eX1, ← eX2, ← eX3, ← eX4]); (try rfl)) (by (try simp only [p_L_isTold, ↓if_neg c_1, ↓if_neg c_2, ↓if_pos c_3, ↓if_neg c_4, ← eX1, ← eX2, ← eX3, ← eX4]); exact hR) dL_isTold_55
        · refine lv_iconst (v := 1) hx hb dL_isTold_50 (by decide) ?_
          refine lv_goto (tgt := 55) hx hb dL_isTold_51 (by decide) ?_
          exact gm_zret hx hb hr hlocks rfl hS (by (try simp only [p_L_isTold, ↓if_neg c_1, ↓if_neg c_2, ↓if_pos c_3, ↓if_pos c_4, ← eX1, ← eX2, ← eX3, ← eX4]); (try rfl)) (by (try simp only [p_L_isTold, ↓if_neg c_1, ↓if_neg c_2, ↓if_pos c_3, ↓if_pos c_4, ← eX1, ← eX2, ← eX3, ← eX4]); exact hR) dL_isTold_55
