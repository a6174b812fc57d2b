/-! pauses -/
set_option maxHeartbeats 8000000 in
set_option maxRecDepth 100000 in
theorem c_L_pauses (l : Launch) (D : va_G) (cy : Nat → ClassId) (β : Nat) : Met l yL_pauses wsK_pauses ({ frames := 8, cells := 1744, slots := 16478, locals := 191 }) (gP [] D cy (fun H => H.size = β)) (gQi 1 (fun _ => True) (CA β)) 1744 16478 (CA β) := by
  refine gm_metC (cc := cL_pauses) (maxL := 2) (ret := (some .boolean)) [] (by decide) rfl (Nat.le_of_ble_eq_true rfl) ?_
  intro p e s m args below meth c0 ls C hin hz hl
  obtain ⟨hx, hb, hr, hts, hown, hlocks, hml, hK⟩ := C
  have hl : lv_has ls 2 [] := hl
  have hS : va_S (CA β) s.heap s.heap [] := va_S.rf
  refine gm_cqC (mc := 872) (ms := 8239) (gm_callSC (As := []) (rest := []) ⟨hx, hb, hml, hown, hts⟩ hK (c_L_built l D cy β _ ev_pauses) (va_cwS 0 hts (kIn ks_built) rfl rfl rfl (by decide +kernel) ⟨Nat.le_of_ble_eq_true rfl, Nat.le_of_ble_eq_true rfl⟩) hz rfl hl.1 rfl (Nat.le_of_ble_eq_true rfl) dL_pauses_0 (Nat.le_of_ble_eq_true rfl) (Nat.le_of_ble_eq_true rfl)) hS (fun _ h => h) (fun H locs hU _ hfr hS => ?_)
  clear hfr
  obtain ⟨X1_0, T1_0, hR, hzl, hE, hk⟩ := hU
  refine W.eq (g2 := F0 m 3 ls [.ref β]) rfl ?_
  refine lv_astore_n (lv' := [(0, .ref β)]) hx hb dL_pauses_3 rfl hl (by decide) rfl (fun ls hl => ?_)
  refine lv_aload_n hx hb dL_pauses_4 rfl (lv_at hl 0 rfl) ?_
  refine lv_iconst (v := 0) hx hb dL_pauses_5 (by decide) ?_
  refine lv_bipush (v := 10) hx hb dL_pauses_6 (by decide) ?_
  refine gm_ci (gm_call (As := [.int 0, .int 10]) (rest := []) (ci := 8) (q := (RX8, TX8, 8)) ⟨hx, hb, hml, hown, hts⟩ hK (c_X8_setHeat l D cy β X1_0 0 10 hE.ok) (cwV 2 hts (kIn kv_setHeat) rfl rfl rfl (by decide +kernel) ⟨Nat.le_of_ble_eq_true rfl, Nat.le_of_ble_eq_true rfl⟩) (TR.mk0 hR) rfl hR rfl hl.1 rfl (Nat.le_of_ble_eq_true rfl) dL_pauses_8 (Nat.le_of_ble_eq_true rfl) (Nat.le_of_ble_eq_true rfl)) hS TA_CA (fun H locs hR hz9 hfr hS => ?_)
  replace hzl := Nat.le_trans hzl hz9
  obtain ⟨a9, T1_1, hE, hk⟩ := eH_setHeat hE hk
  rw [a9]
  generalize (p_X8_setHeat X1_0 0 10).2 = X1_1 at hR hE
  clear hfr hz9 a9
  refine lv_bipush (v := 10) hx hb dL_pauses_11 (by decide) ?_
  refine lv_icmp_ne (tgt := 90) hx hb dL_pauses_13 (by decide) (fun c => absurd c (by decide)) (fun _ => ?_)
  refine lv_aload_n hx hb dL_pauses_16 rfl (lv_at hl 0 rfl) ?_
  refine lv_iconst (v := 0) hx hb dL_pauses_17 (by decide) ?_
  refine lv_iconst (v := 1) hx hb dL_pauses_18 (by decide) ?_
  refine gm_ci (gm_call (As := [.int 0, .int 1]) (rest := []) (ci := 8) (q := (RX8, TX8, 8)) ⟨hx, hb, hml, hown, hts⟩ hK (c_X8_lapsNeeded l D cy β X1_1 0 1 ) (cwV 2 hts (kIn kv_lapsNeeded) rfl rfl rfl (by decide +kernel) ⟨Nat.le_of_ble_eq_true rfl, Nat.le_of_ble_eq_true rfl⟩) (TR.mk0 hR) rfl hR rfl hl.1 rfl (Nat.le_of_ble_eq_true rfl) dL_pauses_19 (Nat.le_of_ble_eq_true rfl) (Nat.le_of_ble_eq_true rfl)) hS TA_CA (fun H locs hR hz9 hfr hS => ?_)
  replace hzl := Nat.le_trans hzl hz9
  obtain ⟨a9, hE, hk⟩ := eN_lapsNeeded hE hk
  rw [a9]
  generalize (p_X8_lapsNeeded X1_1 0 1).2 = X1_2 at hR hE
  clear hfr hz9 a9
  refine lv_bipush (v := (-5)) hx hb dL_pauses_22 (by decide) ?_
  refine lv_icmp_ne (tgt := 90) hx hb dL_pauses_24 (by decide) (fun c => absurd c (by decide)) (fun _ => ?_)
  refine lv_aload_n hx hb dL_pauses_27 rfl (lv_at hl 0 rfl) ?_
  refine lv_bipush (v := 7) hx hb dL_pauses_28 (by decide) ?_
  refine lv_iconst (v := 2) hx hb dL_pauses_30 (by decide) ?_
  refine lv_iconst (v := 0) hx hb dL_pauses_31 (by decide) ?_
  refine lv_iconst (v := 1) hx hb dL_pauses_32 (by decide) ?_
  refine lv_iconst (v := 2) hx hb dL_pauses_33 (by decide) ?_
  refine gm_ci (gm_call (As := [.int 7, .int 2, .int 0, .int 1, .int 2]) (rest := []) (ci := 8) (q := (RX8, TX8, 8)) ⟨hx, hb, hml, hown, hts⟩ hK (c_X8_book l D cy β X1_2 7 2 0 1 2 hE.ok) (cwV 5 hts (kIn kv_book) rfl rfl rfl (by decide +kernel) ⟨Nat.le_of_ble_eq_true rfl, Nat.le_of_ble_eq_true rfl⟩) (TR.mk0 hR) rfl hR rfl hl.1 rfl (Nat.le_of_ble_eq_true rfl) dL_pauses_34 (Nat.le_of_ble_eq_true rfl) (Nat.le_of_ble_eq_true rfl)) hS TA_CA (fun H locs hR hz9 hfr hS => ?_)
  replace hzl := Nat.le_trans hzl hz9
  obtain ⟨a9, T1_3, hE, hk⟩ := eH_book hE hk
  rw [a9]
  generalize (p_X8_book X1_2 7 2 0 1 2).2 = X1_3 at hR hE
  clear hfr hz9 a9
  refine lv_if_ne (tgt := 90) hx hb dL_pauses_37 (by decide) (fun c => absurd c (by decide)) (fun _ => ?_)
  refine lv_aload_n hx hb dL_pauses_40 rfl (lv_at hl 0 rfl) ?_
  refine lv_iconst (v := 0) hx hb dL_pauses_41 (by decide) ?_
  refine lv_iconst (v := 5) hx hb dL_pauses_42 (by decide) ?_
  refine gm_ci (gm_call (As := [.int 0, .int 5]) (rest := []) (ci := 8) (q := (RX8, TX8, 8)) ⟨hx, hb, hml, hown, hts⟩ hK (c_X8_ticket l D cy β X1_3 0 5 ) (cwV 2 hts (kIn kv_ticket) rfl rfl rfl (by decide +kernel) ⟨Nat.le_of_ble_eq_true rfl, Nat.le_of_ble_eq_true rfl⟩) (TR.mk0 hR) rfl hR rfl hl.1 rfl (Nat.le_of_ble_eq_true rfl) dL_pauses_43 (Nat.le_of_ble_eq_true rfl) (Nat.le_of_ble_eq_true rfl)) hS (fun _ h => h.elim) (fun H locs _ hz9 hfr hS => ?_)
  have hR := gRep.keep hR hfr (fun _ _ h => h)
  replace hzl := Nat.le_trans hzl hz9
  obtain ⟨a9, hk⟩ := e_ticket hE hk
  rw [a9]
  clear hfr hz9 a9
  refine lv_bipush (v := 40) hx hb dL_pauses_46 (by decide) ?_
  refine lv_icmp_ne (tgt := 90) hx hb dL_pauses_48 (by decide) (fun c => absurd c (by decide)) (fun _ => ?_)
  refine lv_aload_n hx hb dL_pauses_51 rfl (lv_at hl 0 rfl) ?_
  refine lv_iconst (v := 0) hx hb dL_pauses_52 (by decide) ?_
  refine lv_iconst (v := 0) hx hb dL_pauses_53 (by decide) ?_
  refine gm_ci (gm_call (As := [.int 0, .int 0]) (rest := []) (ci := 8) (q := (RX8, TX8, 8)) ⟨hx, hb, hml, hown, hts⟩ hK (c_X8_fate l D cy β X1_3 0 0 ) (cwV 2 hts (kIn kv_fate) rfl rfl rfl (by decide +kernel) ⟨Nat.le_of_ble_eq_true rfl, Nat.le_of_ble_eq_true rfl⟩) (TR.mk0 hR) rfl hR rfl hl.1 rfl (Nat.le_of_ble_eq_true rfl) dL_pauses_54 (Nat.le_of_ble_eq_true rfl) (Nat.le_of_ble_eq_true rfl)) hS TA_CA (fun H locs hR hz9 hfr hS => ?_)
  replace hzl := Nat.le_trans hzl hz9
  obtain ⟨a9, hE, hk⟩ := e_fateF hE hk
  rw [a9]
  generalize (p_X8_fate X1_3 0 0).2 = X1_4 at hR hE
  clear hfr hz9 a9
  refine lv_bipush (v := 6) hx hb dL_pauses_57 (by decide) ?_
  refine lv_icmp_ne (tgt := 90) hx hb dL_pauses_59 (by decide) (fun c => absurd c (by decide)) (fun _ => ?_)
  refine lv_aload_n hx hb dL_pauses_62 rfl (lv_at hl 0 rfl) ?_
  refine lv_iconst (v := 0) hx hb dL_pauses_63 (by decide) ?_
  refine lv_iconst (v := 1) hx hb dL_pauses_64 (by decide) ?_
  refine gm_ci (gm_call (As := [.int 0, .int 1]) (rest := []) (ci := 8) (q := (RX8, TX8, 8)) ⟨hx, hb, hml, hown, hts⟩ hK (c_X8_fate l D cy β X1_4 0 1 ) (cwV 2 hts (kIn kv_fate) rfl rfl rfl (by decide +kernel) ⟨Nat.le_of_ble_eq_true rfl, Nat.le_of_ble_eq_true rfl⟩) (TR.mk0 hR) rfl hR rfl hl.1 rfl (Nat.le_of_ble_eq_true rfl) dL_pauses_65 (Nat.le_of_ble_eq_true rfl) (Nat.le_of_ble_eq_true rfl)) hS TA_CA (fun H locs hR hz9 hfr hS => ?_)
  replace hzl := Nat.le_trans hzl hz9
  obtain ⟨a9, hE, hk⟩ := e_fateF hE hk
  rw [a9]
  generalize (p_X8_fate X1_4 0 1).2 = X1_5 at hR hE
  clear hfr hz9 a9
  refine lv_iconst (v := 3) hx hb dL_pauses_68 (by decide) ?_
  refine lv_icmp_ne (tgt := 90) hx hb dL_pauses_69 (by decide) (fun c => absurd c (by decide)) (fun _ => ?_)
  refine lv_aload_n hx hb dL_pauses_72 rfl (lv_at hl 0 rfl) ?_
  refine lv_iconst (v := 0) hx hb dL_pauses_73 (by decide) ?_
  refine lv_iconst (v := 2) hx hb dL_pauses_74 (by decide) ?_
  refine gm_ci (gm_call (As := [.int 0, .int 2]) (rest := []) (ci := 8) (q := (RX8, TX8, 8)) ⟨hx, hb, hml, hown, hts⟩ hK (c_X8_fate l D cy β X1_5 0 2 ) (cwV 2 hts (kIn kv_fate) rfl rfl rfl (by decide +kernel) ⟨Nat.le_of_ble_eq_true rfl, Nat.le_of_ble_eq_true rfl⟩) (TR.mk0 hR) rfl hR rfl hl.1 rfl (Nat.le_of_ble_eq_true rfl) dL_pauses_75 (Nat.le_of_ble_eq_true rfl) (Nat.le_of_ble_eq_true rfl)) hS TA_CA (fun H locs hR hz9 hfr hS => ?_)
  replace hzl := Nat.le_trans hzl hz9
  obtain ⟨a9, hE, hk⟩ := e_fateF hE hk
  rw [a9]
  generalize (p_X8_fate X1_5 0 2).2 = X1_6 at hR hE
  clear hfr hz9 a9
  refine lv_if_ne (tgt := 90) hx hb dL_pauses_78 (by decide) (fun c => absurd c (by decide)) (fun _ => ?_)
  refine lv_aload_n hx hb dL_pauses_81 rfl (lv_at hl 0 rfl) ?_
  refine lv_iconst (v := 0) hx hb dL_pauses_82 (by decide) ?_
  refine lv_iconst (v := 3) hx hb dL_pauses_83 (by decide) ?_
  refine gm_ci (gm_call (As := [.int 0, .int 3]) (rest := []) (ci := 8) (q := (RX8, TX8, 8)) ⟨hx, hb, hml, hown, hts⟩ hK (c_X8_fate l D cy β X1_6 0 3 ) (cwV 2 hts (kIn kv_fate) rfl rfl rfl (by decide +kernel) ⟨Nat.le_of_ble_eq_true rfl, Nat.le_of_ble_eq_true rfl⟩) (TR.mk0 hR) rfl hR rfl hl.1 rfl (Nat.le_of_ble_eq_true rfl) dL_pauses_84 (Nat.le_of_ble_eq_true rfl) (Nat.le_of_ble_eq_true rfl)) hS TA_CA (fun H locs hR hz9 hfr hS => ?_)
  replace hzl := Nat.le_trans hzl hz9
  obtain ⟨a9, hE, hk⟩ := e_fateF hE hk
  rw [a9]
  generalize (p_X8_fate X1_6 0 3).2 = X1_7 at hR hE
  clear hfr hz9 a9
  refine lv_if_eq (tgt := 92) hx hb dL_pauses_87 (by decide) (fun _ => ?_) (fun c => absurd c (by decide))
  refine lv_aload_n hx hb dL_pauses_92 rfl (lv_at hl 0 rfl) ?_
  refine lv_iconst (v := 2) hx hb dL_pauses_93 (by decide) ?_
  refine gm_ci (gm_call (As := [.int 2]) (rest := []) (ci := 8) (q := (RX8, TX8, 8)) ⟨hx, hb, hml, hown, hts⟩ hK (c_X8_tick l D cy β X1_7 2 hE.ok) (cwV 1 hts (kIn kv_tick) rfl rfl rfl (by decide +kernel) ⟨Nat.le_of_ble_eq_true rfl, Nat.le_of_ble_eq_true rfl⟩) (TR.mk0 hR) rfl hR rfl hl.1 rfl (Nat.le_of_ble_eq_true rfl) dL_pauses_94 (Nat.le_of_ble_eq_true rfl) (Nat.le_of_ble_eq_true rfl)) hS TA_CA (fun H locs hR hz9 hfr hS => ?_)
  replace hzl := Nat.le_trans hzl hz9
  obtain ⟨a9, T1_8, hE, hk⟩ := e_tickW hE hk
  rw [a9]
  generalize (p_X8_tick X1_7 2).2 = X1_8 at hR hE
  clear hfr hz9 a9
  refine lv_if_ne (tgt := 208) hx hb dL_pauses_97 (by decide) (fun c => absurd c (by decide)) (fun _ => ?_)
  refine lv_aload_n hx hb dL_pauses_100 rfl (lv_at hl 0 rfl) ?_
  refine lv_iconst (v := 0) hx hb dL_pauses_101 (by decide) ?_
  refine lv_iconst (v := 4) hx hb dL_pauses_102 (by decide) ?_
  refine gm_ci (gm_call (As := [.int 0, .int 4]) (rest := []) (ci := 8) (q := (RX8, TX8, 8)) ⟨hx, hb, hml, hown, hts⟩ hK (c_X8_ticket l D cy β X1_8 0 4 ) (cwV 2 hts (kIn kv_ticket) rfl rfl rfl (by decide +kernel) ⟨Nat.le_of_ble_eq_true rfl, Nat.le_of_ble_eq_true rfl⟩) (TR.mk0 hR) rfl hR rfl hl.1 rfl (Nat.le_of_ble_eq_true rfl) dL_pauses_103 (Nat.le_of_ble_eq_true rfl) (Nat.le_of_ble_eq_true rfl)) hS (fun _ h => h.elim) (fun H locs _ hz9 hfr hS => ?_)
  have hR := gRep.keep hR hfr (fun _ _ h => h)
  replace hzl := Nat.le_trans hzl hz9
  obtain ⟨a9, hk⟩ := e_ticket hE hk
  rw [a9]
  clear hfr hz9 a9
  refine lv_iconst (v := 1) hx hb dL_pauses_106 (by decide) ?_
  refine lv_icmp_ne (tgt := 208) hx hb dL_pauses_107 (by decide) (fun c => absurd c (by decide)) (fun _ => ?_)
  refine lv_aload_n hx hb dL_pauses_110 rfl (lv_at hl 0 rfl) ?_
  refine lv_iconst (v := 1) hx hb dL_pauses_111 (by decide) ?_
  refine gm_ci (gm_call (As := [.int 1]) (rest := []) (ci := 8) (q := (RX8, TX8, 8)) ⟨hx, hb, hml, hown, hts⟩ hK (c_X8_tick l D cy β X1_8 1 hE.ok) (cwV 1 hts (kIn kv_tick) rfl rfl rfl (by decide +kernel) ⟨Nat.le_of_ble_eq_true rfl, Nat.le_of_ble_eq_true rfl⟩) (TR.mk0 hR) rfl hR rfl hl.1 rfl (Nat.le_of_ble_eq_true rfl) dL_pauses_112 (Nat.le_of_ble_eq_true rfl) (Nat.le_of_ble_eq_true rfl)) hS TA_CA (fun H locs hR hz9 hfr hS => ?_)
  replace hzl := Nat.le_trans hzl hz9
  obtain ⟨a9, T1_9, hE, hk⟩ := e_tickW hE hk
  rw [a9]
  generalize (p_X8_tick X1_8 1).2 = X1_9 at hR hE
  clear hfr hz9 a9
  refine lv_if_ne (tgt := 208) hx hb dL_pauses_115 (by decide) (fun c => absurd c (by decide)) (fun _ => ?_)
  refine lv_aload_n hx hb dL_pauses_118 rfl (lv_at hl 0 rfl) ?_
  refine lv_iconst (v := 0) hx hb dL_pauses_119 (by decide) ?_
  refine lv_bipush (v := 6) hx hb dL_pauses_120 (by decide) ?_
  refine gm_ci (gm_call (As := [.int 0, .int 6]) (rest := []) (ci := 8) (q := (RX8, TX8, 8)) ⟨hx, hb, hml, hown, hts⟩ hK (c_X8_ticket l D cy β X1_9 0 6 ) (cwV 2 hts (kIn kv_ticket) rfl rfl rfl (by decide +kernel) ⟨Nat.le_of_ble_eq_true rfl, Nat.le_of_ble_eq_true rfl⟩) (TR.mk0 hR) rfl hR rfl hl.1 rfl (Nat.le_of_ble_eq_true rfl) dL_pauses_122 (Nat.le_of_ble_eq_true rfl) (Nat.le_of_ble_eq_true rfl)) hS (fun _ h => h.elim) (fun H locs _ hz9 hfr hS => ?_)
  have hR := gRep.keep hR hfr (fun _ _ h => h)
  replace hzl := Nat.le_trans hzl hz9
  obtain ⟨a9, hk⟩ := e_ticket hE hk
  rw [a9]
  clear hfr hz9 a9
  refine lv_bipush (v := 6) hx hb dL_pauses_125 (by decide) ?_
  refine lv_icmp_ne (tgt := 208) hx hb dL_pauses_127 (by decide) (fun c => absurd c (by decide)) (fun _ => ?_)
  refine lv_aload_n hx hb dL_pauses_130 rfl (lv_at hl 0 rfl) ?_
  refine lv_bipush (v := 13) hx hb dL_pauses_131 (by decide) ?_
  refine gm_ci (gm_call (As := [.int 13]) (rest := []) (ci := 8) (q := (RX8, TX8, 8)) ⟨hx, hb, hml, hown, hts⟩ hK (c_X8_count l D cy β X1_9 13 ) (cwV 1 hts (kIn kv_count) rfl rfl rfl (by decide +kernel) ⟨Nat.le_of_ble_eq_true rfl, Nat.le_of_ble_eq_true rfl⟩) (TR.mk0 hR) rfl hR rfl hl.1 rfl (Nat.le_of_ble_eq_true rfl) dL_pauses_133 (Nat.le_of_ble_eq_true rfl) (Nat.le_of_ble_eq_true rfl)) hS (fun _ h => h.elim) (fun H locs _ hz9 hfr hS => ?_)
  have hR := gRep.keep hR hfr (fun _ _ h => h)
  replace hzl := Nat.le_trans hzl hz9
  obtain ⟨a9, hk⟩ := e_count hE hk
  rw [a9]
  clear hfr hz9 a9
  refine lv_bipush (v := 40) hx hb dL_pauses_136 (by decide) ?_
  refine lv_icmp_ne (tgt := 208) hx hb dL_pauses_138 (by decide) (fun c => absurd c (by decide)) (fun _ => ?_)
  refine lv_aload_n hx hb dL_pauses_141 rfl (lv_at hl 0 rfl) ?_
  refine lv_iconst (v := 0) hx hb dL_pauses_142 (by decide) ?_
  refine lv_bipush (v := 7) hx hb dL_pauses_143 (by decide) ?_
  refine gm_ci (gm_call (As := [.int 0, .int 7]) (rest := []) (ci := 8) (q := (RX8, TX8, 8)) ⟨hx, hb, hml, hown, hts⟩ hK (c_X8_line l D cy β X1_9 0 7 ) (cwV 2 hts (kIn kv_line) rfl rfl rfl (by decide +kernel) ⟨Nat.le_of_ble_eq_true rfl, Nat.le_of_ble_eq_true rfl⟩) (TR.mk0 hR) rfl hR rfl hl.1 rfl (Nat.le_of_ble_eq_true rfl) dL_pauses_145 (Nat.le_of_ble_eq_true rfl) (Nat.le_of_ble_eq_true rfl)) hS (fun _ h => h.elim) (fun H locs _ hz9 hfr hS => ?_)
  have hR := gRep.keep hR hfr (fun _ _ h => h)
  replace hzl := Nat.le_trans hzl hz9
  obtain ⟨a9, hk⟩ := e_line hE hk
  rw [a9]
  clear hfr hz9 a9
  refine lv_iconst (v := 3) hx hb dL_pauses_148 (by decide) ?_
  refine lv_icmp_ne (tgt := 208) hx hb dL_pauses_149 (by decide) (fun c => absurd c (by decide)) (fun _ => ?_)
  refine lv_aload_n hx hb dL_pauses_152 rfl (lv_at hl 0 rfl) ?_
  refine lv_iconst (v := 0) hx hb dL_pauses_153 (by decide) ?_
  refine lv_iconst (v := 1) hx hb dL_pauses_154 (by decide) ?_
  refine gm_ci (gm_call (As := [.int 0, .int 1]) (rest := []) (ci := 8) (q := (RX8, TX8, 8)) ⟨hx, hb, hml, hown, hts⟩ hK (c_X8_line l D cy β X1_9 0 1 ) (cwV 2 hts (kIn kv_line) rfl rfl rfl (by decide +kernel) ⟨Nat.le_of_ble_eq_true rfl, Nat.le_of_ble_eq_true rfl⟩) (TR.mk0 hR) rfl hR rfl hl.1 rfl (Nat.le_of_ble_eq_true rfl) dL_pauses_155 (Nat.le_of_ble_eq_true rfl) (Nat.le_of_ble_eq_true rfl)) hS (fun _ h => h.elim) (fun H locs _ hz9 hfr hS => ?_)
  have hR := gRep.keep hR hfr (fun _ _ h => h)
  replace hzl := Nat.le_trans hzl hz9
  obtain ⟨a9, hk⟩ := e_line hE hk
  rw [a9]
  clear hfr hz9 a9
  refine lv_if_ne (tgt := 208) hx hb dL_pauses_158 (by decide) (fun c => absurd c (by decide)) (fun _ => ?_)
  refine lv_aload_n hx hb dL_pauses_161 rfl (lv_at hl 0 rfl) ?_
  refine lv_iconst (v := 1) hx hb dL_pauses_162 (by decide) ?_
  refine lv_iconst (v := 1) hx hb dL_pauses_163 (by decide) ?_
  refine gm_ci (gm_call (As := [.int 1, .int 1]) (rest := []) (ci := 8) (q := (RX8, TX8, 8)) ⟨hx, hb, hml, hown, hts⟩ hK (c_X8_line l D cy β X1_9 1 1 ) (cwV 2 hts (kIn kv_line) rfl rfl rfl (by decide +kernel) ⟨Nat.le_of_ble_eq_true rfl, Nat.le_of_ble_eq_true rfl⟩) (TR.mk0 hR) rfl hR rfl hl.1 rfl (Nat.le_of_ble_eq_true rfl) dL_pauses_164 (Nat.le_of_ble_eq_true rfl) (Nat.le_of_ble_eq_true rfl)) hS (fun _ h => h.elim) (fun H locs _ hz9 hfr hS => ?_)
  have hR := gRep.keep hR hfr (fun _ _ h => h)
  replace hzl := Nat.le_trans hzl hz9
  obtain ⟨a9, hk⟩ := e_line hE hk
  rw [a9]
  clear hfr hz9 a9
  refine lv_iconst (v := 3) hx hb dL_pauses_167 (by decide) ?_
  refine lv_icmp_ne (tgt := 208) hx hb dL_pauses_168 (by decide) (fun c => absurd c (by decide)) (fun _ => ?_)
  refine lv_aload_n hx hb dL_pauses_171 rfl (lv_at hl 0 rfl) ?_
  refine lv_iconst (v := 0) hx hb dL_pauses_172 (by decide) ?_
  refine lv_bipush (v := 6) hx hb dL_pauses_173 (by decide) ?_
  refine lv_bipush (v := (-5)) hx hb dL_pauses_175 (by decide) ?_
  refine lv_iconst (v := (-1)) hx hb dL_pauses_177 (by decide) ?_
  refine lv_iconst (v := 2) hx hb dL_pauses_178 (by decide) ?_
  refine gm_ci (gm_callS (As := [.ref β, .int 0, .int 6, .int (-5), .int (-1), .int 2]) (rest := []) ⟨hx, hb, hml, hown, hts⟩ hK (c_L_isEvent l D cy β X1_9 0 6 (-5) (-1) 2 ) (va_cwS 6 hts (kIn ks_isEvent) rfl rfl rfl (by decide +kernel) ⟨Nat.le_of_ble_eq_true rfl, Nat.le_of_ble_eq_true rfl⟩) hR rfl hl.1 rfl (Nat.le_of_ble_eq_true rfl) dL_pauses_179 (Nat.le_of_ble_eq_true rfl) (Nat.le_of_ble_eq_true rfl)) hS (fun _ h => h.elim) (fun H locs _ hz9 hfr hS => ?_)
  have hR := gRep.keep hR hfr (fun _ _ h => h)
  replace hzl := Nat.le_trans hzl hz9
  obtain ⟨a9, hk⟩ := e_isEvent hE hk
  rw [a9]
  clear hfr hz9 a9
  refine lv_if_eq (tgt := 208) hx hb dL_pauses_182 (by decide) (fun c => absurd c (by decide)) (fun _ => ?_)
  refine lv_aload_n hx hb dL_pauses_185 rfl (lv_at hl 0 rfl) ?_
  refine lv_iconst (v := 0) hx hb dL_pauses_186 (by decide) ?_
  refine lv_iconst (v := 3) hx hb dL_pauses_187 (by decide) ?_
  refine gm_ci (gm_call (As := [.int 0, .int 3]) (rest := []) (ci := 8) (q := (RX8, TX8, 8)) ⟨hx, hb, hml, hown, hts⟩ hK (c_X8_event l D cy β X1_9 0 3 ) (cwV 2 hts (kIn kv_event) rfl rfl rfl (by decide +kernel) ⟨Nat.le_of_ble_eq_true rfl, Nat.le_of_ble_eq_true rfl⟩) (TR.mk0 hR) rfl hR rfl hl.1 rfl (Nat.le_of_ble_eq_true rfl) dL_pauses_188 (Nat.le_of_ble_eq_true rfl) (Nat.le_of_ble_eq_true rfl)) hS (fun _ h => h.elim) (fun H locs _ hz9 hfr hS => ?_)
  have hR := gRep.keep hR hfr (fun _ _ h => h)
  replace hzl := Nat.le_trans hzl hz9
  obtain ⟨a9, hk⟩ := e_event hE hk
  rw [a9]
  clear hfr hz9 a9
  refine lv_bipush (v := (-5)) hx hb dL_pauses_191 (by decide) ?_
  refine lv_icmp_ne (tgt := 208) hx hb dL_pauses_193 (by decide) (fun c => absurd c (by decide)) (fun _ => ?_)
  refine lv_aload_n hx hb dL_pauses_196 rfl (lv_at hl 0 rfl) ?_
  refine lv_iconst (v := 1) hx hb dL_pauses_197 (by decide) ?_
  refine lv_iconst (v := 4) hx hb dL_pauses_198 (by decide) ?_
  refine lv_iconst (v := 0) hx hb dL_pauses_199 (by decide) ?_
  refine lv_iconst (v := 0) hx hb dL_pauses_200 (by decide) ?_
  refine lv_iconst (v := 2) hx hb dL_pauses_201 (by decide) ?_
  refine gm_ci (gm_callS (As := [.ref β, .int 1, .int 4, .int 0, .int 0, .int 2]) (rest := []) ⟨hx, hb, hml, hown, hts⟩ hK (c_L_isEvent l D cy β X1_9 1 4 0 0 2 ) (va_cwS 6 hts (kIn ks_isEvent) rfl rfl rfl (by decide +kernel) ⟨Nat.le_of_ble_eq_true rfl, Nat.le_of_ble_eq_true rfl⟩) hR rfl hl.1 rfl (Nat.le_of_ble_eq_true rfl) dL_pauses_202 (Nat.le_of_ble_eq_true rfl) (Nat.le_of_ble_eq_true rfl)) hS (fun _ h => h.elim) (fun H locs _ hz9 hfr hS => ?_)
  have hR := gRep.keep hR hfr (fun _ _ h => h)
  replace hzl := Nat.le_trans hzl hz9
  obtain ⟨a9, hk⟩ := e_isEvent hE hk
  rw [a9]
  clear hfr hz9 a9
  refine lv_if_ne (tgt := 210) hx hb dL_pauses_205 (by decide) (fun _ => ?_) (fun c => absurd c (by decide))
  refine lv_aload_n hx hb dL_pauses_210 rfl (lv_at hl 0 rfl) ?_
  refine lv_iconst (v := 1) hx hb dL_pauses_211 (by decide) ?_
  refine lv_iconst (v := 2) hx hb dL_pauses_212 (by decide) ?_
  refine lv_iconst (v := 0) hx hb dL_pauses_213 (by decide) ?_
  refine lv_iconst (v := 1) hx hb dL_pauses_214 (by decide) ?_
  refine lv_bipush (v := 9) hx hb dL_pauses_215 (by decide) ?_
  refine gm_ci (gm_call (As := [.int 1, .int 2, .int 0, .int 1, .int 9]) (rest := []) (ci := 8) (q := (RX8, TX8, 8)) ⟨hx, hb, hml, hown, hts⟩ hK (c_X8_book l D cy β X1_9 1 2 0 1 9 hE.ok) (cwV 5 hts (kIn kv_book) rfl rfl rfl (by decide +kernel) ⟨Nat.le_of_ble_eq_true rfl, Nat.le_of_ble_eq_true rfl⟩) (TR.mk0 hR) rfl hR rfl hl.1 rfl (Nat.le_of_ble_eq_true rfl) dL_pauses_217 (Nat.le_of_ble_eq_true rfl) (Nat.le_of_ble_eq_true rfl)) hS TA_CA (fun H locs hR hz9 hfr hS => ?_)
  replace hzl := Nat.le_trans hzl hz9
  obtain ⟨a9, T1_10, hE, hk⟩ := eH_book hE hk
  rw [a9]
  generalize (p_X8_book X1_9 1 2 0 1 9).2 = X1_10 at hR hE
  clear hfr hz9 a9
  refine lv_iconst (v := 1) hx hb dL_pauses_220 (by decide) ?_
  refine lv_icmp_ne (tgt := 324) hx hb dL_pauses_221 (by decide) (fun c => absurd c (by decide)) (fun _ => ?_)
  refine lv_aload_n hx hb dL_pauses_224 rfl (lv_at hl 0 rfl) ?_
  refine lv_iconst (v := 1) hx hb dL_pauses_225 (by decide) ?_
  refine gm_ci (gm_call (As := [.int 1]) (rest := []) (ci := 8) (q := (RX8, TX8, 8)) ⟨hx, hb, hml, hown, hts⟩ hK (c_X8_tick l D cy β X1_10 1 hE.ok) (cwV 1 hts (kIn kv_tick) rfl rfl rfl (by decide +kernel) ⟨Nat.le_of_ble_eq_true rfl, Nat.le_of_ble_eq_true rfl⟩) (TR.mk0 hR) rfl hR rfl hl.1 rfl (Nat.le_of_ble_eq_true rfl) dL_pauses_226 (Nat.le_of_ble_eq_true rfl) (Nat.le_of_ble_eq_true rfl)) hS TA_CA (fun H locs hR hz9 hfr hS => ?_)
  replace hzl := Nat.le_trans hzl hz9
  obtain ⟨a9, T1_11, hE, hk⟩ := e_tickW hE hk
  rw [a9]
  generalize (p_X8_tick X1_10 1).2 = X1_11 at hR hE
  clear hfr hz9 a9
  refine lv_if_ne (tgt := 324) hx hb dL_pauses_229 (by decide) (fun c => absurd c (by decide)) (fun _ => ?_)
  refine lv_aload_n hx hb dL_pauses_232 rfl (lv_at hl 0 rfl) ?_
  refine lv_iconst (v := 2) hx hb dL_pauses_233 (by decide) ?_
  refine lv_iconst (v := 3) hx hb dL_pauses_234 (by decide) ?_
  refine lv_iconst (v := 0) hx hb dL_pauses_235 (by decide) ?_
  refine lv_iconst (v := 1) hx hb dL_pauses_236 (by decide) ?_
  refine lv_bipush (v := 9) hx hb dL_pauses_237 (by decide) ?_
  refine gm_ci (gm_call (As := [.int 2, .int 3, .int 0, .int 1, .int 9]) (rest := []) (ci := 8) (q := (RX8, TX8, 8)) ⟨hx, hb, hml, hown, hts⟩ hK (c_X8_book l D cy β X1_11 2 3 0 1 9 hE.ok) (cwV 5 hts (kIn kv_book) rfl rfl rfl (by decide +kernel) ⟨Nat.le_of_ble_eq_true rfl, Nat.le_of_ble_eq_true rfl⟩) (TR.mk0 hR) rfl hR rfl hl.1 rfl (Nat.le_of_ble_eq_true rfl) dL_pauses_239 (Nat.le_of_ble_eq_true rfl) (Nat.le_of_ble_eq_true rfl)) hS TA_CA (fun H locs hR hz9 hfr hS => ?_)
  replace hzl := Nat.le_trans hzl hz9
  obtain ⟨a9, T1_12, hE, hk⟩ := eH_book hE hk
  rw [a9]
  generalize (p_X8_book X1_11 2 3 0 1 9).2 = X1_12 at hR hE
  clear hfr hz9 a9
  refine lv_iconst (v := 2) hx hb dL_pauses_242 (by decide) ?_
  refine lv_icmp_ne (tgt := 324) hx hb dL_pauses_243 (by decide) (fun c => absurd c (by decide)) (fun _ => ?_)
  refine lv_aload_n hx hb dL_pauses_246 rfl (lv_at hl 0 rfl) ?_
  refine lv_iconst (v := 3) hx hb dL_pauses_247 (by decide) ?_
  refine lv_iconst (v := 2) hx hb dL_pauses_248 (by decide) ?_
  refine lv_iconst (v := 0) hx hb dL_pauses_249 (by decide) ?_
  refine lv_iconst (v := 1) hx hb dL_pauses_250 (by decide) ?_
  refine lv_bipush (v := 9) hx hb dL_pauses_251 (by decide) ?_
  refine gm_ci (gm_call (As := [.int 3, .int 2, .int 0, .int 1, .int 9]) (rest := []) (ci := 8) (q := (RX8, TX8, 8)) ⟨hx, hb, hml, hown, hts⟩ hK (c_X8_book l D cy β X1_12 3 2 0 1 9 hE.ok) (cwV 5 hts (kIn kv_book) rfl rfl rfl (by decide +kernel) ⟨Nat.le_of_ble_eq_true rfl, Nat.le_of_ble_eq_true rfl⟩) (TR.mk0 hR) rfl hR rfl hl.1 rfl (Nat.le_of_ble_eq_true rfl) dL_pauses_253 (Nat.le_of_ble_eq_true rfl) (Nat.le_of_ble_eq_true rfl)) hS TA_CA (fun H locs hR hz9 hfr hS => ?_)
  replace hzl := Nat.le_trans hzl hz9
  obtain ⟨a9, T1_13, hE, hk⟩ := eH_book hE hk
  rw [a9]
  generalize (p_X8_book X1_12 3 2 0 1 9).2 = X1_13 at hR hE
  clear hfr hz9 a9
  refine lv_iconst (v := 3) hx hb dL_pauses_256 (by decide) ?_
  refine lv_icmp_ne (tgt := 324) hx hb dL_pauses_257 (by decide) (fun c => absurd c (by decide)) (fun _ => ?_)
  refine lv_aload_n hx hb dL_pauses_260 rfl (lv_at hl 0 rfl) ?_
  refine lv_iconst (v := 3) hx hb dL_pauses_261 (by decide) ?_
  refine lv_bipush (v := 9) hx hb dL_pauses_262 (by decide) ?_
  refine gm_ci (gm_call (As := [.int 3, .int 9]) (rest := []) (ci := 8) (q := (RX8, TX8, 8)) ⟨hx, hb, hml, hown, hts⟩ hK (c_X8_price l D cy β X1_13 3 9 ) (cwV 2 hts (kIn kv_price) rfl rfl rfl (by decide +kernel) ⟨Nat.le_of_ble_eq_true rfl, Nat.le_of_ble_eq_true rfl⟩) (TR.mk0 hR) rfl hR rfl hl.1 rfl (Nat.le_of_ble_eq_true rfl) dL_pauses_264 (Nat.le_of_ble_eq_true rfl) (Nat.le_of_ble_eq_true rfl)) hS (fun _ h => h.elim) (fun H locs _ hz9 hfr hS => ?_)
  have hR := gRep.keep hR hfr (fun _ _ h => h)
  replace hzl := Nat.le_trans hzl hz9
  obtain ⟨a9, hk⟩ := e_price hE hk
  rw [a9]
  clear hfr hz9 a9
  refine lv_sipush (v := 295) hx hb dL_pauses_267 (by decide) ?_
  refine lv_icmp_ne (tgt := 324) hx hb dL_pauses_270 (by decide) (fun c => absurd c (by decide)) (fun _ => ?_)
  refine lv_aload_n hx hb dL_pauses_273 rfl (lv_at hl 0 rfl) ?_
  refine lv_iconst (v := 0) hx hb dL_pauses_274 (by decide) ?_
  refine lv_bipush (v := 8) hx hb dL_pauses_275 (by decide) ?_
  refine gm_ci (gm_call (As := [.int 0, .int 8]) (rest := []) (ci := 8) (q := (RX8, TX8, 8)) ⟨hx, hb, hml, hown, hts⟩ hK (c_X8_station l D cy β X1_13 0 8 ) (cwV 2 hts (kIn kv_station) rfl rfl rfl (by decide +kernel) ⟨Nat.le_of_ble_eq_true rfl, Nat.le_of_ble_eq_true rfl⟩) (TR.mk0 hR) rfl hR rfl hl.1 rfl (Nat.le_of_ble_eq_true rfl) dL_pauses_277 (Nat.le_of_ble_eq_true rfl) (Nat.le_of_ble_eq_true rfl)) hS (fun _ h => h.elim) (fun H locs _ hz9 hfr hS => ?_)
  have hR := gRep.keep hR hfr (fun _ _ h => h)
  replace hzl := Nat.le_trans hzl hz9
  obtain ⟨a9, hk⟩ := e_station hE hk
  rw [a9]
  clear hfr hz9 a9
  refine lv_iconst (v := 2) hx hb dL_pauses_280 (by decide) ?_
  refine lv_icmp_ne (tgt := 324) hx hb dL_pauses_281 (by decide) (fun c => absurd c (by decide)) (fun _ => ?_)
  refine lv_aload_n hx hb dL_pauses_284 rfl (lv_at hl 0 rfl) ?_
  refine lv_iconst (v := 0) hx hb dL_pauses_285 (by decide) ?_
  refine lv_iconst (v := 1) hx hb dL_pauses_286 (by decide) ?_
  refine gm_ci (gm_call (As := [.int 0, .int 1]) (rest := []) (ci := 8) (q := (RX8, TX8, 8)) ⟨hx, hb, hml, hown, hts⟩ hK (c_X8_waiting l D cy β X1_13 0 1 ) (cwV 2 hts (kIn kv_waiting) rfl rfl rfl (by decide +kernel) ⟨Nat.le_of_ble_eq_true rfl, Nat.le_of_ble_eq_true rfl⟩) (TR.mk0 hR) rfl hR rfl hl.1 rfl (Nat.le_of_ble_eq_true rfl) dL_pauses_287 (Nat.le_of_ble_eq_true rfl) (Nat.le_of_ble_eq_true rfl)) hS (fun _ h => h.elim) (fun H locs _ hz9 hfr hS => ?_)
  have hR := gRep.keep hR hfr (fun _ _ h => h)
  replace hzl := Nat.le_trans hzl hz9
  obtain ⟨a9, hk⟩ := e_waiting hE hk
  rw [a9]
  clear hfr hz9 a9
  refine lv_iconst (v := 3) hx hb dL_pauses_290 (by decide) ?_
  refine lv_icmp_ne (tgt := 324) hx hb dL_pauses_291 (by decide) (fun c => absurd c (by decide)) (fun _ => ?_)
  refine lv_aload_n hx hb dL_pauses_294 rfl (lv_at hl 0 rfl) ?_
  refine lv_iconst (v := 3) hx hb dL_pauses_295 (by decide) ?_
  refine gm_ci (gm_call (As := [.int 3]) (rest := []) (ci := 8) (q := (RX8, TX8, 8)) ⟨hx, hb, hml, hown, hts⟩ hK (c_X8_tick l D cy β X1_13 3 hE.ok) (cwV 1 hts (kIn kv_tick) rfl rfl rfl (by decide +kernel) ⟨Nat.le_of_ble_eq_true rfl, Nat.le_of_ble_eq_true rfl⟩) (TR.mk0 hR) rfl hR rfl hl.1 rfl (Nat.le_of_ble_eq_true rfl) dL_pauses_296 (Nat.le_of_ble_eq_true rfl) (Nat.le_of_ble_eq_true rfl)) hS TA_CA (fun H locs hR hz9 hfr hS => ?_)
  replace hzl := Nat.le_trans hzl hz9
  obtain ⟨a9, T1_14, hE, hk⟩ := e_tickW hE hk
  rw [a9]
  generalize (p_X8_tick X1_13 3).2 = X1_14 at hR hE
  clear hfr hz9 a9
  refine lv_if_ne (tgt := 324) hx hb dL_pauses_299 (by decide) (fun c => absurd c (by decide)) (fun _ => ?_)
  refine lv_aload_n hx hb dL_pauses_302 rfl (lv_at hl 0 rfl) ?_
  refine lv_iconst (v := 1) hx hb dL_pauses_303 (by decide) ?_
  refine lv_bipush (v := 6) hx hb dL_pauses_304 (by decide) ?_
  refine gm_ci (gm_call (As := [.int 1, .int 6]) (rest := []) (ci := 8) (q := (RX8, TX8, 8)) ⟨hx, hb, hml, hown, hts⟩ hK (c_X8_ticket l D cy β X1_14 1 6 ) (cwV 2 hts (kIn kv_ticket) rfl rfl rfl (by decide +kernel) ⟨Nat.le_of_ble_eq_true rfl, Nat.le_of_ble_eq_true rfl⟩) (TR.mk0 hR) rfl hR rfl hl.1 rfl (Nat.le_of_ble_eq_true rfl) dL_pauses_306 (Nat.le_of_ble_eq_true rfl) (Nat.le_of_ble_eq_true rfl)) hS (fun _ h => h.elim) (fun H locs _ hz9 hfr hS => ?_)
  have hR := gRep.keep hR hfr (fun _ _ h => h)
  replace hzl := Nat.le_trans hzl hz9
  obtain ⟨a9, hk⟩ := e_ticket hE hk
  rw [a9]
  clear hfr hz9 a9
  refine lv_iconst (v := 1) hx hb dL_pauses_309 (by decide) ?_
  refine lv_icmp_ne (tgt := 324) hx hb dL_pauses_310 (by decide) (fun c => absurd c (by decide)) (fun _ => ?_)
  refine lv_aload_n hx hb dL_pauses_313 rfl (lv_at hl 0 rfl) ?_
  refine lv_iconst (v := 1) hx hb dL_pauses_314 (by decide) ?_
  refine lv_iconst (v := 4) hx hb dL_pauses_315 (by decide) ?_
  refine gm_ci (gm_call (As := [.int 1, .int 4]) (rest := []) (ci := 8) (q := (RX8, TX8, 8)) ⟨hx, hb, hml, hown, hts⟩ hK (c_X8_ticket l D cy β X1_14 1 4 ) (cwV 2 hts (kIn kv_ticket) rfl rfl rfl (by decide +kernel) ⟨Nat.le_of_ble_eq_true rfl, Nat.le_of_ble_eq_true rfl⟩) (TR.mk0 hR) rfl hR rfl hl.1 rfl (Nat.le_of_ble_eq_true rfl) dL_pauses_316 (Nat.le_of_ble_eq_true rfl) (Nat.le_of_ble_eq_true rfl)) hS (fun _ h => h.elim) (fun H locs _ hz9 hfr hS => ?_)
  have hR := gRep.keep hR hfr (fun _ _ h => h)
  replace hzl := Nat.le_trans hzl hz9
  obtain ⟨a9, hk⟩ := e_ticket hE hk
  rw [a9]
  clear hfr hz9 a9
  refine lv_bipush (v := 6) hx hb dL_pauses_319 (by decide) ?_
  refine lv_icmp_eq (tgt := 326) hx hb dL_pauses_321 (by decide) (fun _ => ?_) (fun c => absurd c (by decide))
  refine lv_aload_n hx hb dL_pauses_326 rfl (lv_at hl 0 rfl) ?_
  refine lv_iconst (v := 1) hx hb dL_pauses_327 (by decide) ?_
  refine gm_ci (gm_call (As := [.int 1]) (rest := []) (ci := 8) (q := (RX8, TX8, 8)) ⟨hx, hb, hml, hown, hts⟩ hK (c_X8_tick l D cy β X1_14 1 hE.ok) (cwV 1 hts (kIn kv_tick) rfl rfl rfl (by decide +kernel) ⟨Nat.le_of_ble_eq_true rfl, Nat.le_of_ble_eq_true rfl⟩) (TR.mk0 hR) rfl hR rfl hl.1 rfl (Nat.le_of_ble_eq_true rfl) dL_pauses_328 (Nat.le_of_ble_eq_true rfl) (Nat.le_of_ble_eq_true rfl)) hS TA_CA (fun H locs hR hz9 hfr hS => ?_)
  replace hzl := Nat.le_trans hzl hz9
  obtain ⟨a9, T1_15, hE, hk⟩ := e_tickW hE hk
  rw [a9]
  generalize (p_X8_tick X1_14 1).2 = X1_15 at hR hE
  clear hfr hz9 a9
  refine lv_if_ne (tgt := 435) hx hb dL_pauses_331 (by decide) (fun c => absurd c (by decide)) (fun _ => ?_)
  refine lv_aload_n hx hb dL_pauses_334 rfl (lv_at hl 0 rfl) ?_
  refine lv_iconst (v := 1) hx hb dL_pauses_335 (by decide) ?_
  refine lv_bipush (v := 6) hx hb dL_pauses_336 (by decide) ?_
  refine gm_ci (gm_call (As := [.int 1, .int 6]) (rest := []) (ci := 8) (q := (RX8, TX8, 8)) ⟨hx, hb, hml, hown, hts⟩ hK (c_X8_ticket l D cy β X1_15 1 6 ) (cwV 2 hts (kIn kv_ticket) rfl rfl rfl (by decide +kernel) ⟨Nat.le_of_ble_eq_true rfl, Nat.le_of_ble_eq_true rfl⟩) (TR.mk0 hR) rfl hR rfl hl.1 rfl (Nat.le_of_ble_eq_true rfl) dL_pauses_338 (Nat.le_of_ble_eq_true rfl) (Nat.le_of_ble_eq_true rfl)) hS (fun _ h => h.elim) (fun H locs _ hz9 hfr hS => ?_)
  have hR := gRep.keep hR hfr (fun _ _ h => h)
  replace hzl := Nat.le_trans hzl hz9
  obtain ⟨a9, hk⟩ := e_ticket hE hk
  rw [a9]
  clear hfr hz9 a9
  refine lv_iconst (v := 5) hx hb dL_pauses_341 (by decide) ?_
  refine lv_icmp_ne (tgt := 435) hx hb dL_pauses_342 (by decide) (fun c => absurd c (by decide)) (fun _ => ?_)
  refine lv_aload_n hx hb dL_pauses_345 rfl (lv_at hl 0 rfl) ?_
  refine lv_iconst (v := 1) hx hb dL_pauses_346 (by decide) ?_
  refine lv_bipush (v := 13) hx hb dL_pauses_347 (by decide) ?_
  refine gm_ci (gm_call (As := [.int 1, .int 13]) (rest := []) (ci := 8) (q := (RX8, TX8, 8)) ⟨hx, hb, hml, hown, hts⟩ hK (c_X8_ticket l D cy β X1_15 1 13 ) (cwV 2 hts (kIn kv_ticket) rfl rfl rfl (by decide +kernel) ⟨Nat.le_of_ble_eq_true rfl, Nat.le_of_ble_eq_true rfl⟩) (TR.mk0 hR) rfl hR rfl hl.1 rfl (Nat.le_of_ble_eq_true rfl) dL_pauses_349 (Nat.le_of_ble_eq_true rfl) (Nat.le_of_ble_eq_true rfl)) hS (fun _ h => h.elim) (fun H locs _ hz9 hfr hS => ?_)
  have hR := gRep.keep hR hfr (fun _ _ h => h)
  replace hzl := Nat.le_trans hzl hz9
  obtain ⟨a9, hk⟩ := e_ticket hE hk
  rw [a9]
  clear hfr hz9 a9
  refine lv_iconst (v := 2) hx hb dL_pauses_352 (by decide) ?_
  refine lv_icmp_ne (tgt := 435) hx hb dL_pauses_353 (by decide) (fun c => absurd c (by decide)) (fun _ => ?_)
  refine lv_aload_n hx hb dL_pauses_356 rfl (lv_at hl 0 rfl) ?_
  refine lv_iconst (v := 1) hx hb dL_pauses_357 (by decide) ?_
  refine lv_bipush (v := 12) hx hb dL_pauses_358 (by decide) ?_
  refine gm_ci (gm_call (As := [.int 1, .int 12]) (rest := []) (ci := 8) (q := (RX8, TX8, 8)) ⟨hx, hb, hml, hown, hts⟩ hK (c_X8_ticket l D cy β X1_15 1 12 ) (cwV 2 hts (kIn kv_ticket) rfl rfl rfl (by decide +kernel) ⟨Nat.le_of_ble_eq_true rfl, Nat.le_of_ble_eq_true rfl⟩) (TR.mk0 hR) rfl hR rfl hl.1 rfl (Nat.le_of_ble_eq_true rfl) dL_pauses_360 (Nat.le_of_ble_eq_true rfl) (Nat.le_of_ble_eq_true rfl)) hS (fun _ h => h.elim) (fun H locs _ hz9 hfr hS => ?_)
  have hR := gRep.keep hR hfr (fun _ _ h => h)
  replace hzl := Nat.le_trans hzl hz9
  obtain ⟨a9, hk⟩ := e_ticket hE hk
  rw [a9]
  clear hfr hz9 a9
  refine lv_if_ne (tgt := 435) hx hb dL_pauses_363 (by decide) (fun c => absurd c (by decide)) (fun _ => ?_)
  refine lv_aload_n hx hb dL_pauses_366 rfl (lv_at hl 0 rfl) ?_
  refine lv_iconst (v := 1) hx hb dL_pauses_367 (by decide) ?_
  refine lv_iconst (v := 4) hx hb dL_pauses_368 (by decide) ?_
  refine gm_ci (gm_call (As := [.int 1, .int 4]) (rest := []) (ci := 8) (q := (RX8, TX8, 8)) ⟨hx, hb, hml, hown, hts⟩ hK (c_X8_ticket l D cy β X1_15 1 4 ) (cwV 2 hts (kIn kv_ticket) rfl rfl rfl (by decide +kernel) ⟨Nat.le_of_ble_eq_true rfl, Nat.le_of_ble_eq_true rfl⟩) (TR.mk0 hR) rfl hR rfl hl.1 rfl (Nat.le_of_ble_eq_true rfl) dL_pauses_369 (Nat.le_of_ble_eq_true rfl) (Nat.le_of_ble_eq_true rfl)) hS (fun _ h => h.elim) (fun H locs _ hz9 hfr hS => ?_)
  have hR := gRep.keep hR hfr (fun _ _ h => h)
  replace hzl := Nat.le_trans hzl hz9
  obtain ⟨a9, hk⟩ := e_ticket hE hk
  rw [a9]
  clear hfr hz9 a9
  refine lv_iconst (v := 5) hx hb dL_pauses_372 (by decide) ?_
  refine lv_icmp_ne (tgt := 435) hx hb dL_pauses_373 (by decide) (fun c => absurd c (by decide)) (fun _ => ?_)
  refine lv_aload_n hx hb dL_pauses_376 rfl (lv_at hl 0 rfl) ?_
  refine lv_iconst (v := 2) hx hb dL_pauses_377 (by decide) ?_
  refine lv_bipush (v := 8) hx hb dL_pauses_378 (by decide) ?_
  refine gm_ci (gm_call (As := [.int 2, .int 8]) (rest := []) (ci := 8) (q := (RX8, TX8, 8)) ⟨hx, hb, hml, hown, hts⟩ hK (c_X8_ticket l D cy β X1_15 2 8 ) (cwV 2 hts (kIn kv_ticket) rfl rfl rfl (by decide +kernel) ⟨Nat.le_of_ble_eq_true rfl, Nat.le_of_ble_eq_true rfl⟩) (TR.mk0 hR) rfl hR rfl hl.1 rfl (Nat.le_of_ble_eq_true rfl) dL_pauses_380 (Nat.le_of_ble_eq_true rfl) (Nat.le_of_ble_eq_true rfl)) hS (fun _ h => h.elim) (fun H locs _ hz9 hfr hS => ?_)
  have hR := gRep.keep hR hfr (fun _ _ h => h)
  replace hzl := Nat.le_trans hzl hz9
  obtain ⟨a9, hk⟩ := e_ticket hE hk
  rw [a9]
  clear hfr hz9 a9
  refine lv_if_ne (tgt := 435) hx hb dL_pauses_383 (by decide) (fun c => absurd c (by decide)) (fun _ => ?_)
  refine lv_aload_n hx hb dL_pauses_386 rfl (lv_at hl 0 rfl) ?_
  refine lv_iconst (v := 0) hx hb dL_pauses_387 (by decide) ?_
  refine lv_bipush (v := 6) hx hb dL_pauses_388 (by decide) ?_
  refine gm_ci (gm_call (As := [.int 0, .int 6]) (rest := []) (ci := 8) (q := (RX8, TX8, 8)) ⟨hx, hb, hml, hown, hts⟩ hK (c_X8_station l D cy β X1_15 0 6 ) (cwV 2 hts (kIn kv_station) rfl rfl rfl (by decide +kernel) ⟨Nat.le_of_ble_eq_true rfl, Nat.le_of_ble_eq_true rfl⟩) (TR.mk0 hR) rfl hR rfl hl.1 rfl (Nat.le_of_ble_eq_true rfl) dL_pauses_390 (Nat.le_of_ble_eq_true rfl) (Nat.le_of_ble_eq_true rfl)) hS (fun _ h => h.elim) (fun H locs _ hz9 hfr hS => ?_)
  have hR := gRep.keep hR hfr (fun _ _ h => h)
  replace hzl := Nat.le_trans hzl hz9
  obtain ⟨a9, hk⟩ := e_station hE hk
  rw [a9]
  clear hfr hz9 a9
  refine lv_iconst (v := 1) hx hb dL_pauses_393 (by decide) ?_
  refine lv_icmp_ne (tgt := 435) hx hb dL_pauses_394 (by decide) (fun c => absurd c (by decide)) (fun _ => ?_)
  refine lv_aload_n hx hb dL_pauses_397 rfl (lv_at hl 0 rfl) ?_
  refine lv_iconst (v := 1) hx hb dL_pauses_398 (by decide) ?_
  refine lv_iconst (v := 0) hx hb dL_pauses_399 (by decide) ?_
  refine lv_iconst (v := 2) hx hb dL_pauses_400 (by decide) ?_
  refine lv_iconst (v := 0) hx hb dL_pauses_401 (by decide) ?_
  refine lv_bipush (v := 7) hx hb dL_pauses_402 (by decide) ?_
  refine gm_ci (gm_callS (As := [.ref β, .int 1, .int 0, .int 2, .int 0, .int 7]) (rest := []) ⟨hx, hb, hml, hown, hts⟩ hK (c_L_isEvent l D cy β X1_15 1 0 2 0 7 ) (va_cwS 6 hts (kIn ks_isEvent) rfl rfl rfl (by decide +kernel) ⟨Nat.le_of_ble_eq_true rfl, Nat.le_of_ble_eq_true rfl⟩) hR rfl hl.1 rfl (Nat.le_of_ble_eq_true rfl) dL_pauses_404 (Nat.le_of_ble_eq_true rfl) (Nat.le_of_ble_eq_true rfl)) hS (fun _ h => h.elim) (fun H locs _ hz9 hfr hS => ?_)
  have hR := gRep.keep hR hfr (fun _ _ h => h)
  replace hzl := Nat.le_trans hzl hz9
  obtain ⟨a9, hk⟩ := e_isEvent hE hk
  rw [a9]
  clear hfr hz9 a9
  refine lv_if_eq (tgt := 435) hx hb dL_pauses_407 (by decide) (fun c => absurd c (by decide)) (fun _ => ?_)
  refine lv_aload_n hx hb dL_pauses_410 rfl (lv_at hl 0 rfl) ?_
  refine lv_iconst (v := 2) hx hb dL_pauses_411 (by decide) ?_
  refine lv_iconst (v := 5) hx hb dL_pauses_412 (by decide) ?_
  refine lv_iconst (v := 1) hx hb dL_pauses_413 (by decide) ?_
  refine lv_iconst (v := 0) hx hb dL_pauses_414 (by decide) ?_
  refine lv_bipush (v := 7) hx hb dL_pauses_415 (by decide) ?_
  refine gm_ci (gm_callS (As := [.ref β, .int 2, .int 5, .int 1, .int 0, .int 7]) (rest := []) ⟨hx, hb, hml, hown, hts⟩ hK (c_L_isEvent l D cy β X1_15 2 5 1 0 7 ) (va_cwS 6 hts (kIn ks_isEvent) rfl rfl rfl (by decide +kernel) ⟨Nat.le_of_ble_eq_true rfl, Nat.le_of_ble_eq_true rfl⟩) hR rfl hl.1 rfl (Nat.le_of_ble_eq_true rfl) dL_pauses_417 (Nat.le_of_ble_eq_true rfl) (Nat.le_of_ble_eq_true rfl)) hS (fun _ h => h.elim) (fun H locs _ hz9 hfr hS => ?_)
  have hR := gRep.keep hR hfr (fun _ _ h => h)
  replace hzl := Nat.le_trans hzl hz9
  obtain ⟨a9, hk⟩ := e_isEvent hE hk
  rw [a9]
  clear hfr hz9 a9
  refine lv_if_eq (tgt := 435) hx hb dL_pauses_420 (by decide) (fun c => absurd c (by decide)) (fun _ => ?_)
  refine lv_aload_n hx hb dL_pauses_423 rfl (lv_at hl 0 rfl) ?_
  refine lv_bipush (v := 13) hx hb dL_pauses_424 (by decide) ?_
  refine gm_ci (gm_call (As := [.int 13]) (rest := []) (ci := 8) (q := (RX8, TX8, 8)) ⟨hx, hb, hml, hown, hts⟩ hK (c_X8_count l D cy β X1_15 13 ) (cwV 1 hts (kIn kv_count) rfl rfl rfl (by decide +kernel) ⟨Nat.le_of_ble_eq_true rfl, Nat.le_of_ble_eq_true rfl⟩) (TR.mk0 hR) rfl hR rfl hl.1 rfl (Nat.le_of_ble_eq_true rfl) dL_pauses_426 (Nat.le_of_ble_eq_true rfl) (Nat.le_of_ble_eq_true rfl)) hS (fun _ h => h.elim) (fun H locs _ hz9 hfr hS => ?_)
  have hR := gRep.keep hR hfr (fun _ _ h => h)
  replace hzl := Nat.le_trans hzl hz9
  obtain ⟨a9, hk⟩ := e_count hE hk
  rw [a9]
  clear hfr hz9 a9
  refine lv_sipush (v := 220) hx hb dL_pauses_429 (by decide) ?_
  refine lv_icmp_eq (tgt := 437) hx hb dL_pauses_432 (by decide) (fun _ => ?_) (fun c => absurd c (by decide))
  refine lv_aload_n hx hb dL_pauses_437 rfl (lv_at hl 0 rfl) ?_
  refine lv_iconst (v := 0) hx hb dL_pauses_438 (by decide) ?_
  refine lv_bipush (v := 9) hx hb dL_pauses_439 (by decide) ?_
  refine gm_ci (gm_call (As := [.int 0, .int 9]) (rest := []) (ci := 8) (q := (RX8, TX8, 8)) ⟨hx, hb, hml, hown, hts⟩ hK (c_X8_build l D cy β X1_15 0 9 hE.ok) (cwV 2 hts (kIn kv_build) rfl rfl rfl (by decide +kernel) ⟨Nat.le_of_ble_eq_true rfl, Nat.le_of_ble_eq_true rfl⟩) (TR.mk0 hR) rfl hR rfl hl.1 rfl (Nat.le_of_ble_eq_true rfl) dL_pauses_441 (Nat.le_of_ble_eq_true rfl) (Nat.le_of_ble_eq_true rfl)) hS TA_CA (fun H locs hR hz9 hfr hS => ?_)
  replace hzl := Nat.le_trans hzl hz9
  obtain ⟨a9, T1_16, hE, hk⟩ := eH_build hE hk
  rw [a9]
  generalize (p_X8_build X1_15 0 9).2 = X1_16 at hR hE
  clear hfr hz9 a9
  refine lv_bipush (v := (-4)) hx hb dL_pauses_444 (by decide) ?_
  refine lv_icmp_ne (tgt := 549) hx hb dL_pauses_446 (by decide) (fun c => absurd c (by decide)) (fun _ => ?_)
  refine lv_aload_n hx hb dL_pauses_449 rfl (lv_at hl 0 rfl) ?_
  refine lv_iconst (v := 2) hx hb dL_pauses_450 (by decide) ?_
  refine gm_ci (gm_call (As := [.int 2]) (rest := []) (ci := 8) (q := (RX8, TX8, 8)) ⟨hx, hb, hml, hown, hts⟩ hK (c_X8_cancel l D cy β X1_16 2 hE.ok) (cwV 1 hts (kIn kv_cancel) rfl rfl rfl (by decide +kernel) ⟨Nat.le_of_ble_eq_true rfl, Nat.le_of_ble_eq_true rfl⟩) (TR.mk0 hR) rfl hR rfl hl.1 rfl (Nat.le_of_ble_eq_true rfl) dL_pauses_451 (Nat.le_of_ble_eq_true rfl) (Nat.le_of_ble_eq_true rfl)) hS TA_CA (fun H locs hR hz9 hfr hS => ?_)
  replace hzl := Nat.le_trans hzl hz9
  obtain ⟨a9, T1_17, hE, hk⟩ := eH_cancel hE hk
  rw [a9]
  generalize (p_X8_cancel X1_16 2).2 = X1_17 at hR hE
  clear hfr hz9 a9
  refine lv_sipush (v := 147) hx hb dL_pauses_454 (by decide) ?_
  refine lv_icmp_ne (tgt := 549) hx hb dL_pauses_457 (by decide) (fun c => absurd c (by decide)) (fun _ => ?_)
  refine lv_aload_n hx hb dL_pauses_460 rfl (lv_at hl 0 rfl) ?_
  refine lv_bipush (v := 12) hx hb dL_pauses_461 (by decide) ?_
  refine gm_ci (gm_call (As := [.int 12]) (rest := []) (ci := 8) (q := (RX8, TX8, 8)) ⟨hx, hb, hml, hown, hts⟩ hK (c_X8_count l D cy β X1_17 12 ) (cwV 1 hts (kIn kv_count) rfl rfl rfl (by decide +kernel) ⟨Nat.le_of_ble_eq_true rfl, Nat.le_of_ble_eq_true rfl⟩) (TR.mk0 hR) rfl hR rfl hl.1 rfl (Nat.le_of_ble_eq_true rfl) dL_pauses_463 (Nat.le_of_ble_eq_true rfl) (Nat.le_of_ble_eq_true rfl)) hS (fun _ h => h.elim) (fun H locs _ hz9 hfr hS => ?_)
  have hR := gRep.keep hR hfr (fun _ _ h => h)
  replace hzl := Nat.le_trans hzl hz9
  obtain ⟨a9, hk⟩ := e_count hE hk
  rw [a9]
  clear hfr hz9 a9
  refine lv_sipush (v := 148) hx hb dL_pauses_466 (by decide) ?_
  refine lv_icmp_ne (tgt := 549) hx hb dL_pauses_469 (by decide) (fun c => absurd c (by decide)) (fun _ => ?_)
  refine lv_aload_n hx hb dL_pauses_472 rfl (lv_at hl 0 rfl) ?_
  refine lv_bipush (v := 13) hx hb dL_pauses_473 (by decide) ?_
  refine gm_ci (gm_call (As := [.int 13]) (rest := []) (ci := 8) (q := (RX8, TX8, 8)) ⟨hx, hb, hml, hown, hts⟩ hK (c_X8_count l D cy β X1_17 13 ) (cwV 1 hts (kIn kv_count) rfl rfl rfl (by decide +kernel) ⟨Nat.le_of_ble_eq_true rfl, Nat.le_of_ble_eq_true rfl⟩) (TR.mk0 hR) rfl hR rfl hl.1 rfl (Nat.le_of_ble_eq_true rfl) dL_pauses_475 (Nat.le_of_ble_eq_true rfl) (Nat.le_of_ble_eq_true rfl)) hS (fun _ h => h.elim) (fun H locs _ hz9 hfr hS => ?_)
  have hR := gRep.keep hR hfr (fun _ _ h => h)
  replace hzl := Nat.le_trans hzl hz9
  obtain ⟨a9, hk⟩ := e_count hE hk
  rw [a9]
  clear hfr hz9 a9
  refine lv_sipush (v := 367) hx hb dL_pauses_478 (by decide) ?_
  refine lv_icmp_ne (tgt := 549) hx hb dL_pauses_481 (by decide) (fun c => absurd c (by decide)) (fun _ => ?_)
  refine lv_aload_n hx hb dL_pauses_484 rfl (lv_at hl 0 rfl) ?_
  refine lv_iconst (v := 2) hx hb dL_pauses_485 (by decide) ?_
  refine gm_ci (gm_call (As := [.int 2]) (rest := []) (ci := 8) (q := (RX8, TX8, 8)) ⟨hx, hb, hml, hown, hts⟩ hK (c_X8_cancel l D cy β X1_17 2 hE.ok) (cwV 1 hts (kIn kv_cancel) rfl rfl rfl (by decide +kernel) ⟨Nat.le_of_ble_eq_true rfl, Nat.le_of_ble_eq_true rfl⟩) (TR.mk0 hR) rfl hR rfl hl.1 rfl (Nat.le_of_ble_eq_true rfl) dL_pauses_486 (Nat.le_of_ble_eq_true rfl) (Nat.le_of_ble_eq_true rfl)) hS TA_CA (fun H locs hR hz9 hfr hS => ?_)
  replace hzl := Nat.le_trans hzl hz9
  obtain ⟨a9, T1_18, hE, hk⟩ := eH_cancel hE hk
  rw [a9]
  generalize (p_X8_cancel X1_17 2).2 = X1_18 at hR hE
  clear hfr hz9 a9
  refine lv_bipush (v := (-4)) hx hb dL_pauses_489 (by decide) ?_
  refine lv_icmp_ne (tgt := 549) hx hb dL_pauses_491 (by decide) (fun c => absurd c (by decide)) (fun _ => ?_)
  refine lv_aload_n hx hb dL_pauses_494 rfl (lv_at hl 0 rfl) ?_
  refine lv_iconst (v := 2) hx hb dL_pauses_495 (by decide) ?_
  refine lv_iconst (v := 0) hx hb dL_pauses_496 (by decide) ?_
  refine gm_ci (gm_call (As := [.int 2, .int 0]) (rest := []) (ci := 8) (q := (RX8, TX8, 8)) ⟨hx, hb, hml, hown, hts⟩ hK (c_X8_fate l D cy β X1_18 2 0 ) (cwV 2 hts (kIn kv_fate) rfl rfl rfl (by decide +kernel) ⟨Nat.le_of_ble_eq_true rfl, Nat.le_of_ble_eq_true rfl⟩) (TR.mk0 hR) rfl hR rfl hl.1 rfl (Nat.le_of_ble_eq_true rfl) dL_pauses_497 (Nat.le_of_ble_eq_true rfl) (Nat.le_of_ble_eq_true rfl)) hS TA_CA (fun H locs hR hz9 hfr hS => ?_)
  replace hzl := Nat.le_trans hzl hz9
  obtain ⟨a9, hE, hk⟩ := eN_fate hE hk
  rw [a9]
  generalize (p_X8_fate X1_18 2 0).2 = X1_19 at hR hE
  clear hfr hz9 a9
  refine lv_bipush (v := (-4)) hx hb dL_pauses_500 (by decide) ?_
  refine lv_icmp_ne (tgt := 549) hx hb dL_pauses_502 (by decide) (fun c => absurd c (by decide)) (fun _ => ?_)
  refine lv_aload_n hx hb dL_pauses_505 rfl (lv_at hl 0 rfl) ?_
  refine lv_iconst (v := 0) hx hb dL_pauses_506 (by decide) ?_
  refine lv_iconst (v := 0) hx hb dL_pauses_507 (by decide) ?_
  refine gm_ci (gm_call (As := [.int 0, .int 0]) (rest := []) (ci := 8) (q := (RX8, TX8, 8)) ⟨hx, hb, hml, hown, hts⟩ hK (c_X8_slot l D cy β X1_19 0 0 ) (cwV 2 hts (kIn kv_slot) rfl rfl rfl (by decide +kernel) ⟨Nat.le_of_ble_eq_true rfl, Nat.le_of_ble_eq_true rfl⟩) (TR.mk0 hR) rfl hR rfl hl.1 rfl (Nat.le_of_ble_eq_true rfl) dL_pauses_508 (Nat.le_of_ble_eq_true rfl) (Nat.le_of_ble_eq_true rfl)) hS (fun _ h => h.elim) (fun H locs _ hz9 hfr hS => ?_)
  have hR := gRep.keep hR hfr (fun _ _ h => h)
  replace hzl := Nat.le_trans hzl hz9
  obtain ⟨a9, hk⟩ := e_slot hE hk
  rw [a9]
  clear hfr hz9 a9
  refine lv_bipush (v := (-5)) hx hb dL_pauses_511 (by decide) ?_
  refine lv_icmp_ne (tgt := 549) hx hb dL_pauses_513 (by decide) (fun c => absurd c (by decide)) (fun _ => ?_)
  refine lv_aload_n hx hb dL_pauses_516 rfl (lv_at hl 0 rfl) ?_
  refine lv_iconst (v := 0) hx hb dL_pauses_517 (by decide) ?_
  refine lv_iconst (v := 3) hx hb dL_pauses_518 (by decide) ?_
  refine gm_ci (gm_call (As := [.int 0, .int 3]) (rest := []) (ci := 8) (q := (RX8, TX8, 8)) ⟨hx, hb, hml, hown, hts⟩ hK (c_X8_build l D cy β X1_19 0 3 hE.ok) (cwV 2 hts (kIn kv_build) rfl rfl rfl (by decide +kernel) ⟨Nat.le_of_ble_eq_true rfl, Nat.le_of_ble_eq_true rfl⟩) (TR.mk0 hR) rfl hR rfl hl.1 rfl (Nat.le_of_ble_eq_true rfl) dL_pauses_519 (Nat.le_of_ble_eq_true rfl) (Nat.le_of_ble_eq_true rfl)) hS TA_CA (fun H locs hR hz9 hfr hS => ?_)
  replace hzl := Nat.le_trans hzl hz9
  obtain ⟨a9, T1_20, hE, hk⟩ := eH_build hE hk
  rw [a9]
  generalize (p_X8_build X1_19 0 3).2 = X1_20 at hR hE
  clear hfr hz9 a9
  refine lv_bipush (v := (-4)) hx hb dL_pauses_522 (by decide) ?_
  refine lv_icmp_ne (tgt := 549) hx hb dL_pauses_524 (by decide) (fun c => absurd c (by decide)) (fun _ => ?_)
  refine lv_aload_n hx hb dL_pauses_527 rfl (lv_at hl 0 rfl) ?_
  refine lv_iconst (v := 0) hx hb dL_pauses_528 (by decide) ?_
  refine lv_iconst (v := 4) hx hb dL_pauses_529 (by decide) ?_
  refine gm_ci (gm_call (As := [.int 0, .int 4]) (rest := []) (ci := 8) (q := (RX8, TX8, 8)) ⟨hx, hb, hml, hown, hts⟩ hK (c_X8_build l D cy β X1_20 0 4 hE.ok) (cwV 2 hts (kIn kv_build) rfl rfl rfl (by decide +kernel) ⟨Nat.le_of_ble_eq_true rfl, Nat.le_of_ble_eq_true rfl⟩) (TR.mk0 hR) rfl hR rfl hl.1 rfl (Nat.le_of_ble_eq_true rfl) dL_pauses_530 (Nat.le_of_ble_eq_true rfl) (Nat.le_of_ble_eq_true rfl)) hS TA_CA (fun H locs hR hz9 hfr hS => ?_)
  replace hzl := Nat.le_trans hzl hz9
  obtain ⟨a9, T1_21, hE, hk⟩ := eH_build hE hk
  rw [a9]
  generalize (p_X8_build X1_20 0 4).2 = X1_21 at hR hE
  clear hfr hz9 a9
  refine lv_bipush (v := 8) hx hb dL_pauses_533 (by decide) ?_
  refine lv_icmp_ne (tgt := 549) hx hb dL_pauses_535 (by decide) (fun c => absurd c (by decide)) (fun _ => ?_)
  refine lv_aload_n hx hb dL_pauses_538 rfl (lv_at hl 0 rfl) ?_
  refine lv_iconst (v := 0) hx hb dL_pauses_539 (by decide) ?_
  refine lv_iconst (v := 4) hx hb dL_pauses_540 (by decide) ?_
  refine gm_ci (gm_call (As := [.int 0, .int 4]) (rest := []) (ci := 8) (q := (RX8, TX8, 8)) ⟨hx, hb, hml, hown, hts⟩ hK (c_X8_build l D cy β X1_21 0 4 hE.ok) (cwV 2 hts (kIn kv_build) rfl rfl rfl (by decide +kernel) ⟨Nat.le_of_ble_eq_true rfl, Nat.le_of_ble_eq_true rfl⟩) (TR.mk0 hR) rfl hR rfl hl.1 rfl (Nat.le_of_ble_eq_true rfl) dL_pauses_541 (Nat.le_of_ble_eq_true rfl) (Nat.le_of_ble_eq_true rfl)) hS TA_CA (fun H locs hR hz9 hfr hS => ?_)
  replace hzl := Nat.le_trans hzl hz9
  obtain ⟨a9, T1_22, hE, hk⟩ := eH_build hE hk
  rw [a9]
  generalize (p_X8_build X1_21 0 4).2 = X1_22 at hR hE
  clear hfr hz9 a9
  refine lv_bipush (v := (-5)) hx hb dL_pauses_544 (by decide) ?_
  refine lv_icmp_eq (tgt := 551) hx hb dL_pauses_546 (by decide) (fun _ => ?_) (fun c => absurd c (by decide))
  refine lv_aload_n hx hb dL_pauses_551 rfl (lv_at hl 0 rfl) ?_
  refine lv_iconst (v := 1) hx hb dL_pauses_552 (by decide) ?_
  refine gm_ci (gm_call (As := [.int 1]) (rest := []) (ci := 8) (q := (RX8, TX8, 8)) ⟨hx, hb, hml, hown, hts⟩ hK (c_X8_tick l D cy β X1_22 1 hE.ok) (cwV 1 hts (kIn kv_tick) rfl rfl rfl (by decide +kernel) ⟨Nat.le_of_ble_eq_true rfl, Nat.le_of_ble_eq_true rfl⟩) (TR.mk0 hR) rfl hR rfl hl.1 rfl (Nat.le_of_ble_eq_true rfl) dL_pauses_553 (Nat.le_of_ble_eq_true rfl) (Nat.le_of_ble_eq_true rfl)) hS TA_CA (fun H locs hR hz9 hfr hS => ?_)
  replace hzl := Nat.le_trans hzl hz9
  obtain ⟨a9, T1_23, hE, hk⟩ := e_tickW hE hk
  rw [a9]
  generalize (p_X8_tick X1_22 1).2 = X1_23 at hR hE
  clear hfr hz9 a9
  refine lv_if_ne (tgt := 634) hx hb dL_pauses_556 (by decide) (fun c => absurd c (by decide)) (fun _ => ?_)
  refine lv_aload_n hx hb dL_pauses_559 rfl (lv_at hl 0 rfl) ?_
  refine lv_iconst (v := 0) hx hb dL_pauses_560 (by decide) ?_
  refine gm_ci (gm_call (As := [.int 0]) (rest := []) (ci := 8) (q := (RX8, TX8, 8)) ⟨hx, hb, hml, hown, hts⟩ hK (c_X8_drain l D cy β X1_23 0 hE.ok) (cwV 1 hts (kIn kv_drain) rfl rfl rfl (by decide +kernel) ⟨Nat.le_of_ble_eq_true rfl, Nat.le_of_ble_eq_true rfl⟩) (TR.mk0 hR) rfl hR rfl hl.1 rfl (Nat.le_of_ble_eq_true rfl) dL_pauses_561 (Nat.le_of_ble_eq_true rfl) (Nat.le_of_ble_eq_true rfl)) hS TA_CA (fun H locs hR hz9 hfr hS => ?_)
  replace hzl := Nat.le_trans hzl hz9
  obtain ⟨a9, T1_24, hE, hk⟩ := eH_drain hE hk
  rw [a9]
  generalize (p_X8_drain X1_23 0).2 = X1_24 at hR hE
  clear hfr hz9 a9
  refine lv_iconst (v := 1) hx hb dL_pauses_564 (by decide) ?_
  refine lv_icmp_ne (tgt := 634) hx hb dL_pauses_565 (by decide) (fun c => absurd c (by decide)) (fun _ => ?_)
  refine lv_aload_n hx hb dL_pauses_568 rfl (lv_at hl 0 rfl) ?_
  refine lv_iconst (v := 0) hx hb dL_pauses_569 (by decide) ?_
  refine gm_ci (gm_call (As := [.int 0]) (rest := []) (ci := 8) (q := (RX8, TX8, 8)) ⟨hx, hb, hml, hown, hts⟩ hK (c_X8_drain l D cy β X1_24 0 hE.ok) (cwV 1 hts (kIn kv_drain) rfl rfl rfl (by decide +kernel) ⟨Nat.le_of_ble_eq_true rfl, Nat.le_of_ble_eq_true rfl⟩) (TR.mk0 hR) rfl hR rfl hl.1 rfl (Nat.le_of_ble_eq_true rfl) dL_pauses_570 (Nat.le_of_ble_eq_true rfl) (Nat.le_of_ble_eq_true rfl)) hS TA_CA (fun H locs hR hz9 hfr hS => ?_)
  replace hzl := Nat.le_trans hzl hz9
  obtain ⟨a9, T1_25, hE, hk⟩ := eH_drain hE hk
  rw [a9]
  generalize (p_X8_drain X1_24 0).2 = X1_25 at hR hE
  clear hfr hz9 a9
  refine lv_bipush (v := (-5)) hx hb dL_pauses_573 (by decide) ?_
  refine lv_icmp_ne (tgt := 634) hx hb dL_pauses_575 (by decide) (fun c => absurd c (by decide)) (fun _ => ?_)
  refine lv_aload_n hx hb dL_pauses_578 rfl (lv_at hl 0 rfl) ?_
  refine lv_iconst (v := 3) hx hb dL_pauses_579 (by decide) ?_
  refine lv_bipush (v := 6) hx hb dL_pauses_580 (by decide) ?_
  refine gm_ci (gm_call (As := [.int 3, .int 6]) (rest := []) (ci := 8) (q := (RX8, TX8, 8)) ⟨hx, hb, hml, hown, hts⟩ hK (c_X8_ticket l D cy β X1_25 3 6 ) (cwV 2 hts (kIn kv_ticket) rfl rfl rfl (by decide +kernel) ⟨Nat.le_of_ble_eq_true rfl, Nat.le_of_ble_eq_true rfl⟩) (TR.mk0 hR) rfl hR rfl hl.1 rfl (Nat.le_of_ble_eq_true rfl) dL_pauses_582 (Nat.le_of_ble_eq_true rfl) (Nat.le_of_ble_eq_true rfl)) hS (fun _ h => h.elim) (fun H locs _ hz9 hfr hS => ?_)
  have hR := gRep.keep hR hfr (fun _ _ h => h)
  replace hzl := Nat.le_trans hzl hz9
  obtain ⟨a9, hk⟩ := e_ticket hE hk
  rw [a9]
  clear hfr hz9 a9
  refine lv_bipush (v := 7) hx hb dL_pauses_585 (by decide) ?_
  refine lv_icmp_ne (tgt := 634) hx hb dL_pauses_587 (by decide) (fun c => absurd c (by decide)) (fun _ => ?_)
  refine lv_aload_n hx hb dL_pauses_590 rfl (lv_at hl 0 rfl) ?_
  refine lv_iconst (v := 3) hx hb dL_pauses_591 (by decide) ?_
  refine lv_bipush (v := 12) hx hb dL_pauses_592 (by decide) ?_
  refine gm_ci (gm_call (As := [.int 3, .int 12]) (rest := []) (ci := 8) (q := (RX8, TX8, 8)) ⟨hx, hb, hml, hown, hts⟩ hK (c_X8_ticket l D cy β X1_25 3 12 ) (cwV 2 hts (kIn kv_ticket) rfl rfl rfl (by decide +kernel) ⟨Nat.le_of_ble_eq_true rfl, Nat.le_of_ble_eq_true rfl⟩) (TR.mk0 hR) rfl hR rfl hl.1 rfl (Nat.le_of_ble_eq_true rfl) dL_pauses_594 (Nat.le_of_ble_eq_true rfl) (Nat.le_of_ble_eq_true rfl)) hS (fun _ h => h.elim) (fun H locs _ hz9 hfr hS => ?_)
  have hR := gRep.keep hR hfr (fun _ _ h => h)
  replace hzl := Nat.le_trans hzl hz9
  obtain ⟨a9, hk⟩ := e_ticket hE hk
  rw [a9]
  clear hfr hz9 a9
  refine lv_bipush (v := (-5)) hx hb dL_pauses_597 (by decide) ?_
  refine lv_icmp_ne (tgt := 634) hx hb dL_pauses_599 (by decide) (fun c => absurd c (by decide)) (fun _ => ?_)
  refine lv_aload_n hx hb dL_pauses_602 rfl (lv_at hl 0 rfl) ?_
  refine lv_iconst (v := 0) hx hb dL_pauses_603 (by decide) ?_
  refine lv_iconst (v := 0) hx hb dL_pauses_604 (by decide) ?_
  refine gm_ci (gm_call (As := [.int 0, .int 0]) (rest := []) (ci := 8) (q := (RX8, TX8, 8)) ⟨hx, hb, hml, hown, hts⟩ hK (c_X8_event l D cy β X1_25 0 0 ) (cwV 2 hts (kIn kv_event) rfl rfl rfl (by decide +kernel) ⟨Nat.le_of_ble_eq_true rfl, Nat.le_of_ble_eq_true rfl⟩) (TR.mk0 hR) rfl hR rfl hl.1 rfl (Nat.le_of_ble_eq_true rfl) dL_pauses_605 (Nat.le_of_ble_eq_true rfl) (Nat.le_of_ble_eq_true rfl)) hS (fun _ h => h.elim) (fun H locs _ hz9 hfr hS => ?_)
  have hR := gRep.keep hR hfr (fun _ _ h => h)
  replace hzl := Nat.le_trans hzl hz9
  obtain ⟨a9, hk⟩ := e_event hE hk
  rw [a9]
  clear hfr hz9 a9
  refine lv_bipush (v := 8) hx hb dL_pauses_608 (by decide) ?_
  refine lv_icmp_ne (tgt := 634) hx hb dL_pauses_610 (by decide) (fun c => absurd c (by decide)) (fun _ => ?_)
  refine lv_aload_n hx hb dL_pauses_613 rfl (lv_at hl 0 rfl) ?_
  refine lv_bipush (v := 13) hx hb dL_pauses_614 (by decide) ?_
  refine gm_ci (gm_call (As := [.int 13]) (rest := []) (ci := 8) (q := (RX8, TX8, 8)) ⟨hx, hb, hml, hown, hts⟩ hK (c_X8_count l D cy β X1_25 13 ) (cwV 1 hts (kIn kv_count) rfl rfl rfl (by decide +kernel) ⟨Nat.le_of_ble_eq_true rfl, Nat.le_of_ble_eq_true rfl⟩) (TR.mk0 hR) rfl hR rfl hl.1 rfl (Nat.le_of_ble_eq_true rfl) dL_pauses_616 (Nat.le_of_ble_eq_true rfl) (Nat.le_of_ble_eq_true rfl)) hS (fun _ h => h.elim) (fun H locs _ hz9 hfr hS => ?_)
  have hR := gRep.keep hR hfr (fun _ _ h => h)
  replace hzl := Nat.le_trans hzl hz9
  obtain ⟨a9, hk⟩ := e_count hE hk
  rw [a9]
  clear hfr hz9 a9
  refine lv_sipush (v := 547) hx hb dL_pauses_619 (by decide) ?_
  refine lv_icmp_ne (tgt := 634) hx hb dL_pauses_622 (by decide) (fun c => absurd c (by decide)) (fun _ => ?_)
  refine lv_aload_n hx hb dL_pauses_625 rfl (lv_at hl 0 rfl) ?_
  refine lv_bipush (v := 14) hx hb dL_pauses_626 (by decide) ?_
  refine gm_ci (gm_call (As := [.int 14]) (rest := []) (ci := 8) (q := (RX8, TX8, 8)) ⟨hx, hb, hml, hown, hts⟩ hK (c_X8_count l D cy β X1_25 14 ) (cwV 1 hts (kIn kv_count) rfl rfl rfl (by decide +kernel) ⟨Nat.le_of_ble_eq_true rfl, Nat.le_of_ble_eq_true rfl⟩) (TR.mk0 hR) rfl hR rfl hl.1 rfl (Nat.le_of_ble_eq_true rfl) dL_pauses_628 (Nat.le_of_ble_eq_true rfl) (Nat.le_of_ble_eq_true rfl)) hS (fun _ h => h.elim) (fun H locs _ hz9 hfr hS => ?_)
  have hR := gRep.keep hR hfr (fun _ _ h => h)
  replace hzl := Nat.le_trans hzl hz9
  obtain ⟨a9, hk⟩ := e_count hE hk
  rw [a9]
  clear hfr hz9 a9
  refine lv_if_eq (tgt := 636) hx hb dL_pauses_631 (by decide) (fun _ => ?_) (fun c => absurd c (by decide))
  obtain ⟨β2, hz⟩ : ∃ b : Nat, H.size = b := ⟨_, rfl⟩
  have hb2 : β + 872 ≤ β2 := by rw [← hz]; exact hzl
  refine gm_cqC (mc := 872) (ms := 8239) (gm_callSC (As := []) (rest := []) ⟨hx, hb, hml, hown, hts⟩ hK (c_L_built l D cy β2 _ ev_pauses2) (va_cwS 0 hts (kIn ks_built) rfl rfl rfl (by decide +kernel) ⟨Nat.le_of_ble_eq_true rfl, Nat.le_of_ble_eq_true rfl⟩) hz rfl hl.1 rfl (Nat.le_of_ble_eq_true rfl) dL_pauses_636 (Nat.le_of_ble_eq_true rfl) (Nat.le_of_ble_eq_true rfl)) hS (CA_le hb2) (fun H locs hU _ hfr hS => ?_)
  have hR := TR.keepC hR hb2 hfr
  clear hfr
  obtain ⟨X2_0, T2_0, hR2, hzl, hE2, hk2⟩ := hU
  refine W.eq (g2 := F0 m 639 ls [.ref β2]) rfl ?_
  refine lv_astore_n (lv' := [(1, .ref β2), (0, .ref β)]) hx hb dL_pauses_639 rfl hl (by decide) rfl (fun ls hl => ?_)
  refine lv_aload_n hx hb dL_pauses_640 rfl (lv_at hl 0 rfl) ?_
  refine lv_iconst (v := 0) hx hb dL_pauses_641 (by decide) ?_
  refine lv_bipush (v := (-10)) hx hb dL_pauses_642 (by decide) ?_
  refine gm_ci (gm_call (As := [.int 0, .int (-10)]) (rest := []) (ci := 8) (q := (RX8, TX8, 8)) ⟨hx, hb, hml, hown, hts⟩ hK (c_X8_setHeat l D cy β2 X2_0 0 (-10) hE2.ok) (cwV 2 hts (kIn kv_setHeat) rfl rfl rfl (by decide +kernel) ⟨Nat.le_of_ble_eq_true rfl, Nat.le_of_ble_eq_true rfl⟩) (TR.mk0 hR2) rfl hR2 rfl hl.1 rfl (Nat.le_of_ble_eq_true rfl) dL_pauses_644 (Nat.le_of_ble_eq_true rfl) (Nat.le_of_ble_eq_true rfl)) hS (TA_le hb2) (fun H locs hR2 hz9 hfr hS => ?_)
  have hR := TR.keepT hR hb2 hfr
  replace hzl := Nat.le_trans hzl hz9
  obtain ⟨a9, T2_1, hE2, hk2⟩ := eH_setHeat hE2 hk2
  rw [a9]
  generalize (p_X8_setHeat X2_0 0 (-10)).2 = X2_1 at hR2 hE2
  clear hfr hz9 a9
  refine lv_bipush (v := 10) hx hb dL_pauses_647 (by decide) ?_
  refine lv_icmp_ne (tgt := 737) hx hb dL_pauses_649 (by decide) (fun c => absurd c (by decide)) (fun _ => ?_)
  refine lv_aload_n hx hb dL_pauses_652 rfl (lv_at hl 0 rfl) ?_
  refine lv_iconst (v := 0) hx hb dL_pauses_653 (by decide) ?_
  refine lv_iconst (v := 0) hx hb dL_pauses_654 (by decide) ?_
  refine gm_ci (gm_call (As := [.int 0, .int 0]) (rest := []) (ci := 8) (q := (RX8, TX8, 8)) ⟨hx, hb, hml, hown, hts⟩ hK (c_X8_setHeat l D cy β2 X2_1 0 0 hE2.ok) (cwV 2 hts (kIn kv_setHeat) rfl rfl rfl (by decide +kernel) ⟨Nat.le_of_ble_eq_true rfl, Nat.le_of_ble_eq_true rfl⟩) (TR.mk0 hR2) rfl hR2 rfl hl.1 rfl (Nat.le_of_ble_eq_true rfl) dL_pauses_655 (Nat.le_of_ble_eq_true rfl) (Nat.le_of_ble_eq_true rfl)) hS (TA_le hb2) (fun H locs hR2 hz9 hfr hS => ?_)
  have hR := TR.keepT hR hb2 hfr
  replace hzl := Nat.le_trans hzl hz9
  obtain ⟨a9, T2_2, hE2, hk2⟩ := eH_setHeat hE2 hk2
  rw [a9]
  generalize (p_X8_setHeat X2_1 0 0).2 = X2_2 at hR2 hE2
  clear hfr hz9 a9
  refine lv_bipush (v := 10) hx hb dL_pauses_658 (by decide) ?_
  refine lv_icmp_ne (tgt := 737) hx hb dL_pauses_660 (by decide) (fun c => absurd c (by decide)) (fun _ => ?_)
  refine lv_aload_n hx hb dL_pauses_663 rfl (lv_at hl 0 rfl) ?_
  refine lv_iconst (v := 0) hx hb dL_pauses_664 (by decide) ?_
  refine lv_bipush (v := (-10)) hx hb dL_pauses_665 (by decide) ?_
  refine gm_ci (gm_call (As := [.int 0, .int (-10)]) (rest := []) (ci := 8) (q := (RX8, TX8, 8)) ⟨hx, hb, hml, hown, hts⟩ hK (c_X8_setHeat l D cy β2 X2_2 0 (-10) hE2.ok) (cwV 2 hts (kIn kv_setHeat) rfl rfl rfl (by decide +kernel) ⟨Nat.le_of_ble_eq_true rfl, Nat.le_of_ble_eq_true rfl⟩) (TR.mk0 hR2) rfl hR2 rfl hl.1 rfl (Nat.le_of_ble_eq_true rfl) dL_pauses_667 (Nat.le_of_ble_eq_true rfl) (Nat.le_of_ble_eq_true rfl)) hS (TA_le hb2) (fun H locs hR2 hz9 hfr hS => ?_)
  have hR := TR.keepT hR hb2 hfr
  replace hzl := Nat.le_trans hzl hz9
  obtain ⟨a9, T2_3, hE2, hk2⟩ := eH_setHeat hE2 hk2
  rw [a9]
  generalize (p_X8_setHeat X2_2 0 (-10)).2 = X2_3 at hR2 hE2
  clear hfr hz9 a9
  refine lv_bipush (v := 10) hx hb dL_pauses_670 (by decide) ?_
  refine lv_icmp_ne (tgt := 737) hx hb dL_pauses_672 (by decide) (fun c => absurd c (by decide)) (fun _ => ?_)
  refine lv_aload_n hx hb dL_pauses_675 rfl (lv_at hl 0 rfl) ?_
  refine lv_iconst (v := 0) hx hb dL_pauses_676 (by decide) ?_
  refine lv_iconst (v := 1) hx hb dL_pauses_677 (by decide) ?_
  refine gm_ci (gm_call (As := [.int 0, .int 1]) (rest := []) (ci := 8) (q := (RX8, TX8, 8)) ⟨hx, hb, hml, hown, hts⟩ hK (c_X8_lapsNeeded l D cy β2 X2_3 0 1 ) (cwV 2 hts (kIn kv_lapsNeeded) rfl rfl rfl (by decide +kernel) ⟨Nat.le_of_ble_eq_true rfl, Nat.le_of_ble_eq_true rfl⟩) (TR.mk0 hR2) rfl hR2 rfl hl.1 rfl (Nat.le_of_ble_eq_true rfl) dL_pauses_678 (Nat.le_of_ble_eq_true rfl) (Nat.le_of_ble_eq_true rfl)) hS (TA_le hb2) (fun H locs hR2 hz9 hfr hS => ?_)
  have hR := TR.keepT hR hb2 hfr
  replace hzl := Nat.le_trans hzl hz9
  obtain ⟨a9, hE2, hk2⟩ := eN_lapsNeeded hE2 hk2
  rw [a9]
  generalize (p_X8_lapsNeeded X2_3 0 1).2 = X2_4 at hR2 hE2
  clear hfr hz9 a9
  refine lv_bipush (v := (-5)) hx hb dL_pauses_681 (by decide) ?_
  refine lv_icmp_ne (tgt := 737) hx hb dL_pauses_683 (by decide) (fun c => absurd c (by decide)) (fun _ => ?_)
  refine lv_aload_n hx hb dL_pauses_686 rfl (lv_at hl 0 rfl) ?_
  refine lv_iconst (v := 2) hx hb dL_pauses_687 (by decide) ?_
  refine gm_ci (gm_call (As := [.int 2]) (rest := []) (ci := 8) (q := (RX8, TX8, 8)) ⟨hx, hb, hml, hown, hts⟩ hK (c_X8_tick l D cy β2 X2_4 2 hE2.ok) (cwV 1 hts (kIn kv_tick) rfl rfl rfl (by decide +kernel) ⟨Nat.le_of_ble_eq_true rfl, Nat.le_of_ble_eq_true rfl⟩) (TR.mk0 hR2) rfl hR2 rfl hl.1 rfl (Nat.le_of_ble_eq_true rfl) dL_pauses_688 (Nat.le_of_ble_eq_true rfl) (Nat.le_of_ble_eq_true rfl)) hS (TA_le hb2) (fun H locs hR2 hz9 hfr hS => ?_)
  have hR := TR.keepT hR hb2 hfr
  replace hzl := Nat.le_trans hzl hz9
  obtain ⟨a9, T2_5, hE2, hk2⟩ := e_tickW hE2 hk2
  rw [a9]
  generalize (p_X8_tick X2_4 2).2 = X2_5 at hR2 hE2
  clear hfr hz9 a9
  refine lv_if_ne (tgt := 737) hx hb dL_pauses_691 (by decide) (fun c => absurd c (by decide)) (fun _ => ?_)
  refine lv_aload_n hx hb dL_pauses_694 rfl (lv_at hl 0 rfl) ?_
  refine lv_iconst (v := 0) hx hb dL_pauses_695 (by decide) ?_
  refine lv_iconst (v := 1) hx hb dL_pauses_696 (by decide) ?_
  refine gm_ci (gm_call (As := [.int 0, .int 1]) (rest := []) (ci := 8) (q := (RX8, TX8, 8)) ⟨hx, hb, hml, hown, hts⟩ hK (c_X8_line l D cy β2 X2_5 0 1 ) (cwV 2 hts (kIn kv_line) rfl rfl rfl (by decide +kernel) ⟨Nat.le_of_ble_eq_true rfl, Nat.le_of_ble_eq_true rfl⟩) (TR.mk0 hR2) rfl hR2 rfl hl.1 rfl (Nat.le_of_ble_eq_true rfl) dL_pauses_697 (Nat.le_of_ble_eq_true rfl) (Nat.le_of_ble_eq_true rfl)) hS (fun _ h => h.elim) (fun H locs _ hz9 hfr hS => ?_)
  have hR := gRep.keep hR hfr (fun _ _ h => h)
  have hR2 := gRep.keep hR2 hfr (fun _ _ h => h)
  replace hzl := Nat.le_trans hzl hz9
  obtain ⟨a9, hk2⟩ := e_line hE2 hk2
  rw [a9]
  clear hfr hz9 a9
  refine lv_iconst (v := 4) hx hb dL_pauses_700 (by decide) ?_
  refine lv_icmp_ne (tgt := 737) hx hb dL_pauses_701 (by decide) (fun c => absurd c (by decide)) (fun _ => ?_)
  refine lv_aload_n hx hb dL_pauses_704 rfl (lv_at hl 0 rfl) ?_
  refine lv_iconst (v := 0) hx hb dL_pauses_705 (by decide) ?_
  refine lv_bipush (v := 8) hx hb dL_pauses_706 (by decide) ?_
  refine gm_ci (gm_call (As := [.int 0, .int 8]) (rest := []) (ci := 8) (q := (RX8, TX8, 8)) ⟨hx, hb, hml, hown, hts⟩ hK (c_X8_line l D cy β2 X2_5 0 8 ) (cwV 2 hts (kIn kv_line) rfl rfl rfl (by decide +kernel) ⟨Nat.le_of_ble_eq_true rfl, Nat.le_of_ble_eq_true rfl⟩) (TR.mk0 hR2) rfl hR2 rfl hl.1 rfl (Nat.le_of_ble_eq_true rfl) dL_pauses_708 (Nat.le_of_ble_eq_true rfl) (Nat.le_of_ble_eq_true rfl)) hS (fun _ h => h.elim) (fun H locs _ hz9 hfr hS => ?_)
  have hR := gRep.keep hR hfr (fun _ _ h => h)
  have hR2 := gRep.keep hR2 hfr (fun _ _ h => h)
  replace hzl := Nat.le_trans hzl hz9
  obtain ⟨a9, hk2⟩ := e_line hE2 hk2
  rw [a9]
  clear hfr hz9 a9
  refine lv_iconst (v := 2) hx hb dL_pauses_711 (by decide) ?_
  refine lv_icmp_ne (tgt := 737) hx hb dL_pauses_712 (by decide) (fun c => absurd c (by decide)) (fun _ => ?_)
  refine lv_aload_n hx hb dL_pauses_715 rfl (lv_at hl 0 rfl) ?_
  refine lv_iconst (v := 0) hx hb dL_pauses_716 (by decide) ?_
  refine lv_iconst (v := 2) hx hb dL_pauses_717 (by decide) ?_
  refine gm_ci (gm_call (As := [.int 0, .int 2]) (rest := []) (ci := 8) (q := (RX8, TX8, 8)) ⟨hx, hb, hml, hown, hts⟩ hK (c_X8_line l D cy β2 X2_5 0 2 ) (cwV 2 hts (kIn kv_line) rfl rfl rfl (by decide +kernel) ⟨Nat.le_of_ble_eq_true rfl, Nat.le_of_ble_eq_true rfl⟩) (TR.mk0 hR2) rfl hR2 rfl hl.1 rfl (Nat.le_of_ble_eq_true rfl) dL_pauses_718 (Nat.le_of_ble_eq_true rfl) (Nat.le_of_ble_eq_true rfl)) hS (fun _ h => h.elim) (fun H locs _ hz9 hfr hS => ?_)
  have hR := gRep.keep hR hfr (fun _ _ h => h)
  have hR2 := gRep.keep hR2 hfr (fun _ _ h => h)
  replace hzl := Nat.le_trans hzl hz9
  obtain ⟨a9, hk2⟩ := e_line hE2 hk2
  rw [a9]
  clear hfr hz9 a9
  refine lv_bipush (v := 100) hx hb dL_pauses_721 (by decide) ?_
  refine lv_icmp_ne (tgt := 737) hx hb dL_pauses_723 (by decide) (fun c => absurd c (by decide)) (fun _ => ?_)
  refine lv_aload_n hx hb dL_pauses_726 rfl (lv_at hl 0 rfl) ?_
  refine lv_iconst (v := 0) hx hb dL_pauses_727 (by decide) ?_
  refine lv_iconst (v := 0) hx hb dL_pauses_728 (by decide) ?_
  refine gm_ci (gm_call (As := [.int 0, .int 0]) (rest := []) (ci := 8) (q := (RX8, TX8, 8)) ⟨hx, hb, hml, hown, hts⟩ hK (c_X8_event l D cy β2 X2_5 0 0 ) (cwV 2 hts (kIn kv_event) rfl rfl rfl (by decide +kernel) ⟨Nat.le_of_ble_eq_true rfl, Nat.le_of_ble_eq_true rfl⟩) (TR.mk0 hR2) rfl hR2 rfl hl.1 rfl (Nat.le_of_ble_eq_true rfl) dL_pauses_729 (Nat.le_of_ble_eq_true rfl) (Nat.le_of_ble_eq_true rfl)) hS (fun _ h => h.elim) (fun H locs _ hz9 hfr hS => ?_)
  have hR := gRep.keep hR hfr (fun _ _ h => h)
  have hR2 := gRep.keep hR2 hfr (fun _ _ h => h)
  replace hzl := Nat.le_trans hzl hz9
  obtain ⟨a9, hk2⟩ := e_event hE2 hk2
  rw [a9]
  clear hfr hz9 a9
  refine lv_bipush (v := 7) hx hb dL_pauses_732 (by decide) ?_
  refine lv_icmp_eq (tgt := 739) hx hb dL_pauses_734 (by decide) (fun _ => ?_) (fun c => absurd c (by decide))
  refine lv_aload_n hx hb dL_pauses_739 rfl (lv_at hl 0 rfl) ?_
  refine lv_iconst (v := 0) hx hb dL_pauses_740 (by decide) ?_
  refine lv_iconst (v := 4) hx hb dL_pauses_741 (by decide) ?_
  refine gm_ci (gm_call (As := [.int 0, .int 4]) (rest := []) (ci := 8) (q := (RX8, TX8, 8)) ⟨hx, hb, hml, hown, hts⟩ hK (c_X8_setHeat l D cy β2 X2_5 0 4 hE2.ok) (cwV 2 hts (kIn kv_setHeat) rfl rfl rfl (by decide +kernel) ⟨Nat.le_of_ble_eq_true rfl, Nat.le_of_ble_eq_true rfl⟩) (TR.mk0 hR2) rfl hR2 rfl hl.1 rfl (Nat.le_of_ble_eq_true rfl) dL_pauses_742 (Nat.le_of_ble_eq_true rfl) (Nat.le_of_ble_eq_true rfl)) hS (TA_le hb2) (fun H locs hR2 hz9 hfr hS => ?_)
  have hR := TR.keepT hR hb2 hfr
  replace hzl := Nat.le_trans hzl hz9
  obtain ⟨a9, T2_6, hE2, hk2⟩ := eH_setHeat hE2 hk2
  rw [a9]
  generalize (p_X8_setHeat X2_5 0 4).2 = X2_6 at hR2 hE2
  clear hfr hz9 a9
  refine lv_bipush (v := 14) hx hb dL_pauses_745 (by decide) ?_
  refine lv_icmp_ne (tgt := 832) hx hb dL_pauses_747 (by decide) (fun c => absurd c (by decide)) (fun _ => ?_)
  refine lv_aload_n hx hb dL_pauses_750 rfl (lv_at hl 0 rfl) ?_
  refine lv_iconst (v := 2) hx hb dL_pauses_751 (by decide) ?_
  refine gm_ci (gm_call (As := [.int 2]) (rest := []) (ci := 8) (q := (RX8, TX8, 8)) ⟨hx, hb, hml, hown, hts⟩ hK (c_X8_tick l D cy β2 X2_6 2 hE2.ok) (cwV 1 hts (kIn kv_tick) rfl rfl rfl (by decide +kernel) ⟨Nat.le_of_ble_eq_true rfl, Nat.le_of_ble_eq_true rfl⟩) (TR.mk0 hR2) rfl hR2 rfl hl.1 rfl (Nat.le_of_ble_eq_true rfl) dL_pauses_752 (Nat.le_of_ble_eq_true rfl) (Nat.le_of_ble_eq_true rfl)) hS (TA_le hb2) (fun H locs hR2 hz9 hfr hS => ?_)
  have hR := TR.keepT hR hb2 hfr
  replace hzl := Nat.le_trans hzl hz9
  obtain ⟨a9, T2_7, hE2, hk2⟩ := e_tickW hE2 hk2
  rw [a9]
  generalize (p_X8_tick X2_6 2).2 = X2_7 at hR2 hE2
  clear hfr hz9 a9
  refine lv_if_ne (tgt := 832) hx hb dL_pauses_755 (by decide) (fun c => absurd c (by decide)) (fun _ => ?_)
  refine lv_aload_n hx hb dL_pauses_758 rfl (lv_at hl 0 rfl) ?_
  refine lv_iconst (v := 0) hx hb dL_pauses_759 (by decide) ?_
  refine lv_iconst (v := 1) hx hb dL_pauses_760 (by decide) ?_
  refine gm_ci (gm_call (As := [.int 0, .int 1]) (rest := []) (ci := 8) (q := (RX8, TX8, 8)) ⟨hx, hb, hml, hown, hts⟩ hK (c_X8_line l D cy β2 X2_7 0 1 ) (cwV 2 hts (kIn kv_line) rfl rfl rfl (by decide +kernel) ⟨Nat.le_of_ble_eq_true rfl, Nat.le_of_ble_eq_true rfl⟩) (TR.mk0 hR2) rfl hR2 rfl hl.1 rfl (Nat.le_of_ble_eq_true rfl) dL_pauses_761 (Nat.le_of_ble_eq_true rfl) (Nat.le_of_ble_eq_true rfl)) hS (fun _ h => h.elim) (fun H locs _ hz9 hfr hS => ?_)
  have hR := gRep.keep hR hfr (fun _ _ h => h)
  have hR2 := gRep.keep hR2 hfr (fun _ _ h => h)
  replace hzl := Nat.le_trans hzl hz9
  obtain ⟨a9, hk2⟩ := e_line hE2 hk2
  rw [a9]
  clear hfr hz9 a9
  refine lv_bipush (v := 6) hx hb dL_pauses_764 (by decide) ?_
  refine lv_icmp_ne (tgt := 832) hx hb dL_pauses_766 (by decide) (fun c => absurd c (by decide)) (fun _ => ?_)
  refine lv_aload_n hx hb dL_pauses_769 rfl (lv_at hl 0 rfl) ?_
  refine lv_iconst (v := 0) hx hb dL_pauses_770 (by decide) ?_
  refine lv_iconst (v := 2) hx hb dL_pauses_771 (by decide) ?_
  refine gm_ci (gm_call (As := [.int 0, .int 2]) (rest := []) (ci := 8) (q := (RX8, TX8, 8)) ⟨hx, hb, hml, hown, hts⟩ hK (c_X8_line l D cy β2 X2_7 0 2 ) (cwV 2 hts (kIn kv_line) rfl rfl rfl (by decide +kernel) ⟨Nat.le_of_ble_eq_true rfl, Nat.le_of_ble_eq_true rfl⟩) (TR.mk0 hR2) rfl hR2 rfl hl.1 rfl (Nat.le_of_ble_eq_true rfl) dL_pauses_772 (Nat.le_of_ble_eq_true rfl) (Nat.le_of_ble_eq_true rfl)) hS (fun _ h => h.elim) (fun H locs _ hz9 hfr hS => ?_)
  have hR := gRep.keep hR hfr (fun _ _ h => h)
  have hR2 := gRep.keep hR2 hfr (fun _ _ h => h)
  replace hzl := Nat.le_trans hzl hz9
  obtain ⟨a9, hk2⟩ := e_line hE2 hk2
  rw [a9]
  clear hfr hz9 a9
  refine lv_bipush (v := 108) hx hb dL_pauses_775 (by decide) ?_
  refine lv_icmp_ne (tgt := 832) hx hb dL_pauses_777 (by decide) (fun c => absurd c (by decide)) (fun _ => ?_)
  refine lv_aload_n hx hb dL_pauses_780 rfl (lv_at hl 0 rfl) ?_
  refine lv_iconst (v := 1) hx hb dL_pauses_781 (by decide) ?_
  refine gm_ci (gm_call (As := [.int 1]) (rest := []) (ci := 8) (q := (RX8, TX8, 8)) ⟨hx, hb, hml, hown, hts⟩ hK (c_X8_tick l D cy β2 X2_7 1 hE2.ok) (cwV 1 hts (kIn kv_tick) rfl rfl rfl (by decide +kernel) ⟨Nat.le_of_ble_eq_true rfl, Nat.le_of_ble_eq_true rfl⟩) (TR.mk0 hR2) rfl hR2 rfl hl.1 rfl (Nat.le_of_ble_eq_true rfl) dL_pauses_782 (Nat.le_of_ble_eq_true rfl) (Nat.le_of_ble_eq_true rfl)) hS (TA_le hb2) (fun H locs hR2 hz9 hfr hS => ?_)
  have hR := TR.keepT hR hb2 hfr
  replace hzl := Nat.le_trans hzl hz9
  obtain ⟨a9, T2_8, hE2, hk2⟩ := e_tickW hE2 hk2
  rw [a9]
  generalize (p_X8_tick X2_7 1).2 = X2_8 at hR2 hE2
  clear hfr hz9 a9
  refine lv_if_ne (tgt := 832) hx hb dL_pauses_785 (by decide) (fun c => absurd c (by decide)) (fun _ => ?_)
  refine lv_aload_n hx hb dL_pauses_788 rfl (lv_at hl 0 rfl) ?_
  refine lv_iconst (v := 0) hx hb dL_pauses_789 (by decide) ?_
  refine lv_iconst (v := 1) hx hb dL_pauses_790 (by decide) ?_
  refine gm_ci (gm_call (As := [.int 0, .int 1]) (rest := []) (ci := 8) (q := (RX8, TX8, 8)) ⟨hx, hb, hml, hown, hts⟩ hK (c_X8_line l D cy β2 X2_8 0 1 ) (cwV 2 hts (kIn kv_line) rfl rfl rfl (by decide +kernel) ⟨Nat.le_of_ble_eq_true rfl, Nat.le_of_ble_eq_true rfl⟩) (TR.mk0 hR2) rfl hR2 rfl hl.1 rfl (Nat.le_of_ble_eq_true rfl) dL_pauses_791 (Nat.le_of_ble_eq_true rfl) (Nat.le_of_ble_eq_true rfl)) hS (fun _ h => h.elim) (fun H locs _ hz9 hfr hS => ?_)
  have hR := gRep.keep hR hfr (fun _ _ h => h)
  have hR2 := gRep.keep hR2 hfr (fun _ _ h => h)
  replace hzl := Nat.le_trans hzl hz9
  obtain ⟨a9, hk2⟩ := e_line hE2 hk2
  rw [a9]
  clear hfr hz9 a9
  refine lv_bipush (v := 6) hx hb dL_pauses_794 (by decide) ?_
  refine lv_icmp_ne (tgt := 832) hx hb dL_pauses_796 (by decide) (fun c => absurd c (by decide)) (fun _ => ?_)
  refine lv_aload_n hx hb dL_pauses_799 rfl (lv_at hl 0 rfl) ?_
  refine lv_iconst (v := 0) hx hb dL_pauses_800 (by decide) ?_
  refine lv_iconst (v := 2) hx hb dL_pauses_801 (by decide) ?_
  refine gm_ci (gm_call (As := [.int 0, .int 2]) (rest := []) (ci := 8) (q := (RX8, TX8, 8)) ⟨hx, hb, hml, hown, hts⟩ hK (c_X8_line l D cy β2 X2_8 0 2 ) (cwV 2 hts (kIn kv_line) rfl rfl rfl (by decide +kernel) ⟨Nat.le_of_ble_eq_true rfl, Nat.le_of_ble_eq_true rfl⟩) (TR.mk0 hR2) rfl hR2 rfl hl.1 rfl (Nat.le_of_ble_eq_true rfl) dL_pauses_802 (Nat.le_of_ble_eq_true rfl) (Nat.le_of_ble_eq_true rfl)) hS (fun _ h => h.elim) (fun H locs _ hz9 hfr hS => ?_)
  have hR := gRep.keep hR hfr (fun _ _ h => h)
  have hR2 := gRep.keep hR2 hfr (fun _ _ h => h)
  replace hzl := Nat.le_trans hzl hz9
  obtain ⟨a9, hk2⟩ := e_line hE2 hk2
  rw [a9]
  clear hfr hz9 a9
  refine lv_bipush (v := 102) hx hb dL_pauses_805 (by decide) ?_
  refine lv_icmp_ne (tgt := 832) hx hb dL_pauses_807 (by decide) (fun c => absurd c (by decide)) (fun _ => ?_)
  refine lv_aload_n hx hb dL_pauses_810 rfl (lv_at hl 0 rfl) ?_
  refine lv_iconst (v := 0) hx hb dL_pauses_811 (by decide) ?_
  refine lv_iconst (v := 3) hx hb dL_pauses_812 (by decide) ?_
  refine gm_ci (gm_call (As := [.int 0, .int 3]) (rest := []) (ci := 8) (q := (RX8, TX8, 8)) ⟨hx, hb, hml, hown, hts⟩ hK (c_X8_addStation l D cy β2 X2_8 0 3 hE2.ok) (cwV 2 hts (kIn kv_addStation) rfl rfl rfl (by decide +kernel) ⟨Nat.le_of_ble_eq_true rfl, Nat.le_of_ble_eq_true rfl⟩) (TR.mk0 hR2) rfl hR2 rfl hl.1 rfl (Nat.le_of_ble_eq_true rfl) dL_pauses_813 (Nat.le_of_ble_eq_true rfl) (Nat.le_of_ble_eq_true rfl)) hS (TA_le hb2) (fun H locs hR2 hz9 hfr hS => ?_)
  have hR := TR.keepT hR hb2 hfr
  replace hzl := Nat.le_trans hzl hz9
  obtain ⟨a9, T2_9, hE2, hk2⟩ := eH_addStation hE2 hk2
  rw [a9]
  generalize (p_X8_addStation X2_8 0 3).2 = X2_9 at hR2 hE2
  clear hfr hz9 a9
  refine lv_bipush (v := (-4)) hx hb dL_pauses_816 (by decide) ?_
  refine lv_icmp_ne (tgt := 832) hx hb dL_pauses_818 (by decide) (fun c => absurd c (by decide)) (fun _ => ?_)
  refine lv_aload_n hx hb dL_pauses_821 rfl (lv_at hl 0 rfl) ?_
  refine lv_iconst (v := 0) hx hb dL_pauses_822 (by decide) ?_
  refine lv_bipush (v := 7) hx hb dL_pauses_823 (by decide) ?_
  refine gm_ci (gm_call (As := [.int 0, .int 7]) (rest := []) (ci := 8) (q := (RX8, TX8, 8)) ⟨hx, hb, hml, hown, hts⟩ hK (c_X8_addStation l D cy β2 X2_9 0 7 hE2.ok) (cwV 2 hts (kIn kv_addStation) rfl rfl rfl (by decide +kernel) ⟨Nat.le_of_ble_eq_true rfl, Nat.le_of_ble_eq_true rfl⟩) (TR.mk0 hR2) rfl hR2 rfl hl.1 rfl (Nat.le_of_ble_eq_true rfl) dL_pauses_825 (Nat.le_of_ble_eq_true rfl) (Nat.le_of_ble_eq_true rfl)) hS (TA_le hb2) (fun H locs hR2 hz9 hfr hS => ?_)
  have hR := TR.keepT hR hb2 hfr
  replace hzl := Nat.le_trans hzl hz9
  obtain ⟨a9, T2_10, hE2, hk2⟩ := eH_addStation hE2 hk2
  rw [a9]
  generalize (p_X8_addStation X2_9 0 7).2 = X2_10 at hR2 hE2
  clear hfr hz9 a9
  refine lv_iconst (v := 2) hx hb dL_pauses_828 (by decide) ?_
  refine lv_icmp_eq (tgt := 834) hx hb dL_pauses_829 (by decide) (fun _ => ?_) (fun c => absurd c (by decide))
  refine lv_aload_n hx hb dL_pauses_834 rfl (lv_at hl 1 rfl) ?_
  refine gm_ci (gm_callS (As := [.ref β]) (rest := []) ⟨hx, hb, hml, hown, hts⟩ hK (c_L_refused l D cy β X1_25 T1_25 hE hk) (va_cwS 1 hts (kIn ks_refused) rfl rfl rfl (by decide +kernel) ⟨Nat.le_of_ble_eq_true rfl, Nat.le_of_ble_eq_true rfl⟩) hR rfl hl.1 rfl (Nat.le_of_ble_eq_true rfl) dL_pauses_835 (Nat.le_of_ble_eq_true rfl) (Nat.le_of_ble_eq_true rfl)) hS TA_CA (fun H locs hR9 hz9 hfr hS => ?_)
  have hR2 := TR.keepL hR2 hb2 hfr
  replace hzl := Nat.le_trans hzl hz9
  clear hR9 hz9 hfr
  refine lv_if_eq (tgt := 852) hx hb dL_pauses_838 (by decide) (fun c => absurd c (by decide)) (fun _ => ?_)
  refine lv_aload_n hx hb dL_pauses_841 rfl (lv_at hl 0 rfl) ?_
  refine gm_ci (gm_callS (As := [.ref β2]) (rest := []) ⟨hx, hb, hml, hown, hts⟩ hK (c_L_refused l D cy β2 X2_10 T2_10 hE2 hk2) (va_cwS 1 hts (kIn ks_refused) rfl rfl rfl (by decide +kernel) ⟨Nat.le_of_ble_eq_true rfl, Nat.le_of_ble_eq_true rfl⟩) hR2 rfl hl.1 rfl (Nat.le_of_ble_eq_true rfl) dL_pauses_842 (Nat.le_of_ble_eq_true rfl) (Nat.le_of_ble_eq_true rfl)) hS (TA_le hb2) (fun H locs hR9 hz9 hfr hS => ?_)
  replace hzl := Nat.le_trans hzl hz9
  clear hR9 hz9 hfr
  refine lv_if_eq (tgt := 852) hx hb dL_pauses_845 (by decide) (fun c => absurd c (by decide)) (fun _ => ?_)
  refine lv_iconst (v := 1) hx hb dL_pauses_848 (by decide) ?_
  refine lv_goto (tgt := 853) hx hb dL_pauses_849 (by decide) ?_
  exact gm_zret hx hb hr hlocks rfl hS rfl trivial dL_pauses_853
