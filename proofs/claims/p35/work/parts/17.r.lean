/-! rides -/
set_option maxHeartbeats 8000000 in
set_option maxRecDepth 100000 in
theorem c_L_rides (l : Launch) (D : va_G) (cy : Nat → ClassId) (β : Nat) : Met l yL_rides wsK_rides ({ frames := 8, cells := 1744, slots := 16478, locals := 191 }) (gP [] D cy (fun H => H.size = β)) (gQi 1 (fun _ => True) (CA β)) 1744 16478 (CA β) := by
  refine gm_metC (cc := cL_rides) (maxL := 2) (ret := (some .boolean)) [] (by decide) rfl (Nat.le_of_ble_eq_true rfl) ?_
  intro p e s m args below meth c0 ls C hin hz hl
  obtain ⟨hx, hb, hr, hts, hown, hlocks, hml, hK⟩ := C
  have hl : lv_has ls 2 [] := hl
  have hS : va_S (CA β) s.heap s.heap [] := va_S.rf
  refine gm_cqC (mc := 872) (ms := 8239) (gm_callSC (As := []) (rest := []) ⟨hx, hb, hml, hown, hts⟩ hK (c_L_built l D cy β _ ev_rides) (va_cwS 0 hts (kIn ks_built) rfl rfl rfl (by decide +kernel) ⟨Nat.le_of_ble_eq_true rfl, Nat.le_of_ble_eq_true rfl⟩) hz rfl hl.1 rfl (Nat.le_of_ble_eq_true rfl) dL_rides_0 (Nat.le_of_ble_eq_true rfl) (Nat.le_of_ble_eq_true rfl)) hS (fun _ h => h) (fun H locs hU _ hfr hS => ?_)
  clear hfr
  obtain ⟨X1_0, T1_0, hR, hzl, hE, hk⟩ := hU
  refine W.eq (g2 := F0 m 3 ls [.ref β]) rfl ?_
  refine lv_astore_n (lv' := [(0, .ref β)]) hx hb dL_rides_3 rfl hl (by decide) rfl (fun ls hl => ?_)
  refine lv_aload_n hx hb dL_rides_4 rfl (lv_at hl 0 rfl) ?_
  refine lv_iconst (v := 5) hx hb dL_rides_5 (by decide) ?_
  refine lv_iconst (v := 1) hx hb dL_rides_6 (by decide) ?_
  refine lv_iconst (v := 0) hx hb dL_rides_7 (by decide) ?_
  refine lv_iconst (v := 1) hx hb dL_rides_8 (by decide) ?_
  refine lv_iconst (v := 1) hx hb dL_rides_9 (by decide) ?_
  refine gm_ci (gm_call (As := [.int 5, .int 1, .int 0, .int 1, .int 1]) (rest := []) (ci := 8) (q := (RX8, TX8, 8)) ⟨hx, hb, hml, hown, hts⟩ hK (c_X8_book l D cy β X1_0 5 1 0 1 1 hE.ok) (cwV 5 hts (kIn kv_book) rfl rfl rfl (by decide +kernel) ⟨Nat.le_of_ble_eq_true rfl, Nat.le_of_ble_eq_true rfl⟩) (TR.mk0 hR) rfl hR rfl hl.1 rfl (Nat.le_of_ble_eq_true rfl) dL_rides_10 (Nat.le_of_ble_eq_true rfl) (Nat.le_of_ble_eq_true rfl)) hS TA_CA (fun H locs hR hz9 hfr hS => ?_)
  replace hzl := Nat.le_trans hzl hz9
  obtain ⟨a9, T1_1, hE, hk⟩ := eH_book hE hk
  rw [a9]
  generalize (p_X8_book X1_0 5 1 0 1 1).2 = X1_1 at hR hE
  clear hfr hz9 a9
  refine lv_if_ne (tgt := 88) hx hb dL_rides_13 (by decide) (fun c => absurd c (by decide)) (fun _ => ?_)
  refine lv_aload_n hx hb dL_rides_16 rfl (lv_at hl 0 rfl) ?_
  refine lv_iconst (v := 0) hx hb dL_rides_17 (by decide) ?_
  refine lv_iconst (v := 5) hx hb dL_rides_18 (by decide) ?_
  refine gm_ci (gm_call (As := [.int 0, .int 5]) (rest := []) (ci := 8) (q := (RX8, TX8, 8)) ⟨hx, hb, hml, hown, hts⟩ hK (c_X8_ticket l D cy β X1_1 0 5 ) (cwV 2 hts (kIn kv_ticket) rfl rfl rfl (by decide +kernel) ⟨Nat.le_of_ble_eq_true rfl, Nat.le_of_ble_eq_true rfl⟩) (TR.mk0 hR) rfl hR rfl hl.1 rfl (Nat.le_of_ble_eq_true rfl) dL_rides_19 (Nat.le_of_ble_eq_true rfl) (Nat.le_of_ble_eq_true rfl)) hS (fun _ h => h.elim) (fun H locs _ hz9 hfr hS => ?_)
  have hR := gRep.keep hR hfr (fun _ _ h => h)
  replace hzl := Nat.le_trans hzl hz9
  obtain ⟨a9, hk⟩ := e_ticket hE hk
  rw [a9]
  clear hfr hz9 a9
  refine lv_bipush (v := 10) hx hb dL_rides_22 (by decide) ?_
  refine lv_icmp_ne (tgt := 88) hx hb dL_rides_24 (by decide) (fun c => absurd c (by decide)) (fun _ => ?_)
  refine lv_aload_n hx hb dL_rides_27 rfl (lv_at hl 0 rfl) ?_
  refine lv_iconst (v := 0) hx hb dL_rides_28 (by decide) ?_
  refine lv_iconst (v := 0) hx hb dL_rides_29 (by decide) ?_
  refine gm_ci (gm_call (As := [.int 0, .int 0]) (rest := []) (ci := 8) (q := (RX8, TX8, 8)) ⟨hx, hb, hml, hown, hts⟩ hK (c_X8_fate l D cy β X1_1 0 0 ) (cwV 2 hts (kIn kv_fate) rfl rfl rfl (by decide +kernel) ⟨Nat.le_of_ble_eq_true rfl, Nat.le_of_ble_eq_true rfl⟩) (TR.mk0 hR) rfl hR rfl hl.1 rfl (Nat.le_of_ble_eq_true rfl) dL_rides_30 (Nat.le_of_ble_eq_true rfl) (Nat.le_of_ble_eq_true rfl)) hS TA_CA (fun H locs hR hz9 hfr hS => ?_)
  replace hzl := Nat.le_trans hzl hz9
  obtain ⟨a9, hE, hk⟩ := e_fateF hE hk
  rw [a9]
  generalize (p_X8_fate X1_1 0 0).2 = X1_2 at hR hE
  clear hfr hz9 a9
  refine lv_iconst (v := 3) hx hb dL_rides_33 (by decide) ?_
  refine lv_icmp_ne (tgt := 88) hx hb dL_rides_34 (by decide) (fun c => absurd c (by decide)) (fun _ => ?_)
  refine lv_aload_n hx hb dL_rides_37 rfl (lv_at hl 0 rfl) ?_
  refine lv_iconst (v := 0) hx hb dL_rides_38 (by decide) ?_
  refine lv_iconst (v := 1) hx hb dL_rides_39 (by decide) ?_
  refine gm_ci (gm_call (As := [.int 0, .int 1]) (rest := []) (ci := 8) (q := (RX8, TX8, 8)) ⟨hx, hb, hml, hown, hts⟩ hK (c_X8_fate l D cy β X1_2 0 1 ) (cwV 2 hts (kIn kv_fate) rfl rfl rfl (by decide +kernel) ⟨Nat.le_of_ble_eq_true rfl, Nat.le_of_ble_eq_true rfl⟩) (TR.mk0 hR) rfl hR rfl hl.1 rfl (Nat.le_of_ble_eq_true rfl) dL_rides_40 (Nat.le_of_ble_eq_true rfl) (Nat.le_of_ble_eq_true rfl)) hS TA_CA (fun H locs hR hz9 hfr hS => ?_)
  replace hzl := Nat.le_trans hzl hz9
  obtain ⟨a9, hE, hk⟩ := e_fateF hE hk
  rw [a9]
  generalize (p_X8_fate X1_2 0 1).2 = X1_3 at hR hE
  clear hfr hz9 a9
  refine lv_bipush (v := 6) hx hb dL_rides_43 (by decide) ?_
  refine lv_icmp_ne (tgt := 88) hx hb dL_rides_45 (by decide) (fun c => absurd c (by decide)) (fun _ => ?_)
  refine lv_aload_n hx hb dL_rides_48 rfl (lv_at hl 0 rfl) ?_
  refine lv_iconst (v := 0) hx hb dL_rides_49 (by decide) ?_
  refine lv_iconst (v := 2) hx hb dL_rides_50 (by decide) ?_
  refine gm_ci (gm_call (As := [.int 0, .int 2]) (rest := []) (ci := 8) (q := (RX8, TX8, 8)) ⟨hx, hb, hml, hown, hts⟩ hK (c_X8_fate l D cy β X1_3 0 2 ) (cwV 2 hts (kIn kv_fate) rfl rfl rfl (by decide +kernel) ⟨Nat.le_of_ble_eq_true rfl, Nat.le_of_ble_eq_true rfl⟩) (TR.mk0 hR) rfl hR rfl hl.1 rfl (Nat.le_of_ble_eq_true rfl) dL_rides_51 (Nat.le_of_ble_eq_true rfl) (Nat.le_of_ble_eq_true rfl)) hS TA_CA (fun H locs hR hz9 hfr hS => ?_)
  replace hzl := Nat.le_trans hzl hz9
  obtain ⟨a9, hE, hk⟩ := e_fateF hE hk
  rw [a9]
  generalize (p_X8_fate X1_3 0 2).2 = X1_4 at hR hE
  clear hfr hz9 a9
  refine lv_iconst (v := 1) hx hb dL_rides_54 (by decide) ?_
  refine lv_icmp_ne (tgt := 88) hx hb dL_rides_55 (by decide) (fun c => absurd c (by decide)) (fun _ => ?_)
  refine lv_aload_n hx hb dL_rides_58 rfl (lv_at hl 0 rfl) ?_
  refine lv_iconst (v := 0) hx hb dL_rides_59 (by decide) ?_
  refine lv_iconst (v := 3) hx hb dL_rides_60 (by decide) ?_
  refine gm_ci (gm_call (As := [.int 0, .int 3]) (rest := []) (ci := 8) (q := (RX8, TX8, 8)) ⟨hx, hb, hml, hown, hts⟩ hK (c_X8_fate l D cy β X1_4 0 3 ) (cwV 2 hts (kIn kv_fate) rfl rfl rfl (by decide +kernel) ⟨Nat.le_of_ble_eq_true rfl, Nat.le_of_ble_eq_true rfl⟩) (TR.mk0 hR) rfl hR rfl hl.1 rfl (Nat.le_of_ble_eq_true rfl) dL_rides_61 (Nat.le_of_ble_eq_true rfl) (Nat.le_of_ble_eq_true rfl)) hS TA_CA (fun H locs hR hz9 hfr hS => ?_)
  replace hzl := Nat.le_trans hzl hz9
  obtain ⟨a9, hE, hk⟩ := e_fateF hE hk
  rw [a9]
  generalize (p_X8_fate X1_4 0 3).2 = X1_5 at hR hE
  clear hfr hz9 a9
  refine lv_iconst (v := 1) hx hb dL_rides_64 (by decide) ?_
  refine lv_icmp_ne (tgt := 88) hx hb dL_rides_65 (by decide) (fun c => absurd c (by decide)) (fun _ => ?_)
  refine lv_aload_n hx hb dL_rides_68 rfl (lv_at hl 0 rfl) ?_
  refine lv_iconst (v := 0) hx hb dL_rides_69 (by decide) ?_
  refine lv_iconst (v := 1) hx hb dL_rides_70 (by decide) ?_
  refine gm_ci (gm_call (As := [.int 0, .int 1]) (rest := []) (ci := 8) (q := (RX8, TX8, 8)) ⟨hx, hb, hml, hown, hts⟩ hK (c_X8_lapsNeeded l D cy β X1_5 0 1 ) (cwV 2 hts (kIn kv_lapsNeeded) rfl rfl rfl (by decide +kernel) ⟨Nat.le_of_ble_eq_true rfl, Nat.le_of_ble_eq_true rfl⟩) (TR.mk0 hR) rfl hR rfl hl.1 rfl (Nat.le_of_ble_eq_true rfl) dL_rides_71 (Nat.le_of_ble_eq_true rfl) (Nat.le_of_ble_eq_true rfl)) hS TA_CA (fun H locs hR hz9 hfr hS => ?_)
  replace hzl := Nat.le_trans hzl hz9
  obtain ⟨a9, hE, hk⟩ := eN_lapsNeeded hE hk
  rw [a9]
  generalize (p_X8_lapsNeeded X1_5 0 1).2 = X1_6 at hR hE
  clear hfr hz9 a9
  refine lv_iconst (v := 1) hx hb dL_rides_74 (by decide) ?_
  refine lv_icmp_ne (tgt := 88) hx hb dL_rides_75 (by decide) (fun c => absurd c (by decide)) (fun _ => ?_)
  refine lv_aload_n hx hb dL_rides_78 rfl (lv_at hl 0 rfl) ?_
  refine lv_iconst (v := 1) hx hb dL_rides_79 (by decide) ?_
  refine lv_iconst (v := 0) hx hb dL_rides_80 (by decide) ?_
  refine gm_ci (gm_call (As := [.int 1, .int 0]) (rest := []) (ci := 8) (q := (RX8, TX8, 8)) ⟨hx, hb, hml, hown, hts⟩ hK (c_X8_lapsNeeded l D cy β X1_6 1 0 ) (cwV 2 hts (kIn kv_lapsNeeded) rfl rfl rfl (by decide +kernel) ⟨Nat.le_of_ble_eq_true rfl, Nat.le_of_ble_eq_true rfl⟩) (TR.mk0 hR) rfl hR rfl hl.1 rfl (Nat.le_of_ble_eq_true rfl) dL_rides_81 (Nat.le_of_ble_eq_true rfl) (Nat.le_of_ble_eq_true rfl)) hS TA_CA (fun H locs hR hz9 hfr hS => ?_)
  replace hzl := Nat.le_trans hzl hz9
  obtain ⟨a9, hE, hk⟩ := eN_lapsNeeded hE hk
  rw [a9]
  generalize (p_X8_lapsNeeded X1_6 1 0).2 = X1_7 at hR hE
  clear hfr hz9 a9
  refine lv_iconst (v := 1) hx hb dL_rides_84 (by decide) ?_
  refine lv_icmp_eq (tgt := 90) hx hb dL_rides_85 (by decide) (fun _ => ?_) (fun c => absurd c (by decide))
  refine lv_aload_n hx hb dL_rides_90 rfl (lv_at hl 0 rfl) ?_
  refine lv_iconst (v := 1) hx hb dL_rides_91 (by decide) ?_
  refine gm_ci (gm_call (As := [.int 1]) (rest := []) (ci := 8) (q := (RX8, TX8, 8)) ⟨hx, hb, hml, hown, hts⟩ hK (c_X8_tick l D cy β X1_7 1 hE.ok) (cwV 1 hts (kIn kv_tick) rfl rfl rfl (by decide +kernel) ⟨Nat.le_of_ble_eq_true rfl, Nat.le_of_ble_eq_true rfl⟩) (TR.mk0 hR) rfl hR rfl hl.1 rfl (Nat.le_of_ble_eq_true rfl) dL_rides_92 (Nat.le_of_ble_eq_true rfl) (Nat.le_of_ble_eq_true rfl)) hS TA_CA (fun H locs hR hz9 hfr hS => ?_)
  replace hzl := Nat.le_trans hzl hz9
  obtain ⟨a9, T1_8, hE, hk⟩ := e_tickW hE hk
  rw [a9]
  generalize (p_X8_tick X1_7 1).2 = X1_8 at hR hE
  clear hfr hz9 a9
  refine lv_if_ne (tgt := 156) hx hb dL_rides_95 (by decide) (fun c => absurd c (by decide)) (fun _ => ?_)
  refine lv_aload_n hx hb dL_rides_98 rfl (lv_at hl 0 rfl) ?_
  refine lv_iconst (v := 0) hx hb dL_rides_99 (by decide) ?_
  refine lv_iconst (v := 0) hx hb dL_rides_100 (by decide) ?_
  refine gm_ci (gm_call (As := [.int 0, .int 0]) (rest := []) (ci := 8) (q := (RX8, TX8, 8)) ⟨hx, hb, hml, hown, hts⟩ hK (c_X8_slot l D cy β X1_8 0 0 ) (cwV 2 hts (kIn kv_slot) rfl rfl rfl (by decide +kernel) ⟨Nat.le_of_ble_eq_true rfl, Nat.le_of_ble_eq_true rfl⟩) (TR.mk0 hR) rfl hR rfl hl.1 rfl (Nat.le_of_ble_eq_true rfl) dL_rides_101 (Nat.le_of_ble_eq_true rfl) (Nat.le_of_ble_eq_true rfl)) hS (fun _ h => h.elim) (fun H locs _ hz9 hfr hS => ?_)
  have hR := gRep.keep hR hfr (fun _ _ h => h)
  replace hzl := Nat.le_trans hzl hz9
  obtain ⟨a9, hk⟩ := e_slot hE hk
  rw [a9]
  clear hfr hz9 a9
  refine lv_if_ne (tgt := 156) hx hb dL_rides_104 (by decide) (fun c => absurd c (by decide)) (fun _ => ?_)
  refine lv_aload_n hx hb dL_rides_107 rfl (lv_at hl 0 rfl) ?_
  refine lv_iconst (v := 0) hx hb dL_rides_108 (by decide) ?_
  refine lv_bipush (v := 10) hx hb dL_rides_109 (by decide) ?_
  refine gm_ci (gm_call (As := [.int 0, .int 10]) (rest := []) (ci := 8) (q := (RX8, TX8, 8)) ⟨hx, hb, hml, hown, hts⟩ hK (c_X8_ticket l D cy β X1_8 0 10 ) (cwV 2 hts (kIn kv_ticket) rfl rfl rfl (by decide +kernel) ⟨Nat.le_of_ble_eq_true rfl, Nat.le_of_ble_eq_true rfl⟩) (TR.mk0 hR) rfl hR rfl hl.1 rfl (Nat.le_of_ble_eq_true rfl) dL_rides_111 (Nat.le_of_ble_eq_true rfl) (Nat.le_of_ble_eq_true rfl)) hS (fun _ h => h.elim) (fun H locs _ hz9 hfr hS => ?_)
  have hR := gRep.keep hR hfr (fun _ _ h => h)
  replace hzl := Nat.le_trans hzl hz9
  obtain ⟨a9, hk⟩ := e_ticket hE hk
  rw [a9]
  clear hfr hz9 a9
  refine lv_if_ne (tgt := 156) hx hb dL_rides_114 (by decide) (fun c => absurd c (by decide)) (fun _ => ?_)
  refine lv_aload_n hx hb dL_rides_117 rfl (lv_at hl 0 rfl) ?_
  refine lv_iconst (v := 0) hx hb dL_rides_118 (by decide) ?_
  refine lv_iconst (v := 0) hx hb dL_rides_119 (by decide) ?_
  refine lv_iconst (v := 0) hx hb dL_rides_120 (by decide) ?_
  refine lv_iconst (v := 0) hx hb dL_rides_121 (by decide) ?_
  refine lv_iconst (v := 0) hx hb dL_rides_122 (by decide) ?_
  refine gm_ci (gm_callS (As := [.ref β, .int 0, .int 0, .int 0, .int 0, .int 0]) (rest := []) ⟨hx, hb, hml, hown, hts⟩ hK (c_L_isEvent l D cy β X1_8 0 0 0 0 0 ) (va_cwS 6 hts (kIn ks_isEvent) rfl rfl rfl (by decide +kernel) ⟨Nat.le_of_ble_eq_true rfl, Nat.le_of_ble_eq_true rfl⟩) hR rfl hl.1 rfl (Nat.le_of_ble_eq_true rfl) dL_rides_123 (Nat.le_of_ble_eq_true rfl) (Nat.le_of_ble_eq_true rfl)) hS (fun _ h => h.elim) (fun H locs _ hz9 hfr hS => ?_)
  have hR := gRep.keep hR hfr (fun _ _ h => h)
  replace hzl := Nat.le_trans hzl hz9
  obtain ⟨a9, hk⟩ := e_isEvent hE hk
  rw [a9]
  clear hfr hz9 a9
  refine lv_if_eq (tgt := 156) hx hb dL_rides_126 (by decide) (fun c => absurd c (by decide)) (fun _ => ?_)
  refine lv_aload_n hx hb dL_rides_129 rfl (lv_at hl 0 rfl) ?_
  refine lv_iconst (v := 0) hx hb dL_rides_130 (by decide) ?_
  refine lv_iconst (v := 3) hx hb dL_rides_131 (by decide) ?_
  refine gm_ci (gm_call (As := [.int 0, .int 3]) (rest := []) (ci := 8) (q := (RX8, TX8, 8)) ⟨hx, hb, hml, hown, hts⟩ hK (c_X8_station l D cy β X1_8 0 3 ) (cwV 2 hts (kIn kv_station) rfl rfl rfl (by decide +kernel) ⟨Nat.le_of_ble_eq_true rfl, Nat.le_of_ble_eq_true rfl⟩) (TR.mk0 hR) rfl hR rfl hl.1 rfl (Nat.le_of_ble_eq_true rfl) dL_rides_132 (Nat.le_of_ble_eq_true rfl) (Nat.le_of_ble_eq_true rfl)) hS (fun _ h => h.elim) (fun H locs _ hz9 hfr hS => ?_)
  have hR := gRep.keep hR hfr (fun _ _ h => h)
  replace hzl := Nat.le_trans hzl hz9
  obtain ⟨a9, hk⟩ := e_station hE hk
  rw [a9]
  clear hfr hz9 a9
  refine lv_iconst (v := 1) hx hb dL_rides_135 (by decide) ?_
  refine lv_icmp_ne (tgt := 156) hx hb dL_rides_136 (by decide) (fun c => absurd c (by decide)) (fun _ => ?_)
  refine lv_aload_n hx hb dL_rides_139 rfl (lv_at hl 0 rfl) ?_
  refine lv_iconst (v := 4) hx hb dL_rides_140 (by decide) ?_
  refine gm_ci (gm_call (As := [.int 4]) (rest := []) (ci := 8) (q := (RX8, TX8, 8)) ⟨hx, hb, hml, hown, hts⟩ hK (c_X8_tick l D cy β X1_8 4 hE.ok) (cwV 1 hts (kIn kv_tick) rfl rfl rfl (by decide +kernel) ⟨Nat.le_of_ble_eq_true rfl, Nat.le_of_ble_eq_true rfl⟩) (TR.mk0 hR) rfl hR rfl hl.1 rfl (Nat.le_of_ble_eq_true rfl) dL_rides_141 (Nat.le_of_ble_eq_true rfl) (Nat.le_of_ble_eq_true rfl)) hS TA_CA (fun H locs hR hz9 hfr hS => ?_)
  replace hzl := Nat.le_trans hzl hz9
  obtain ⟨a9, T1_9, hE, hk⟩ := e_tickW hE hk
  rw [a9]
  generalize (p_X8_tick X1_8 4).2 = X1_9 at hR hE
  clear hfr hz9 a9
  refine lv_if_ne (tgt := 156) hx hb dL_rides_144 (by decide) (fun c => absurd c (by decide)) (fun _ => ?_)
  refine lv_aload_n hx hb dL_rides_147 rfl (lv_at hl 0 rfl) ?_
  refine lv_iconst (v := 1) hx hb dL_rides_148 (by decide) ?_
  refine gm_ci (gm_call (As := [.int 1]) (rest := []) (ci := 8) (q := (RX8, TX8, 8)) ⟨hx, hb, hml, hown, hts⟩ hK (c_X8_tick l D cy β X1_9 1 hE.ok) (cwV 1 hts (kIn kv_tick) rfl rfl rfl (by decide +kernel) ⟨Nat.le_of_ble_eq_true rfl, Nat.le_of_ble_eq_true rfl⟩) (TR.mk0 hR) rfl hR rfl hl.1 rfl (Nat.le_of_ble_eq_true rfl) dL_rides_149 (Nat.le_of_ble_eq_true rfl) (Nat.le_of_ble_eq_true rfl)) hS TA_CA (fun H locs hR hz9 hfr hS => ?_)
  replace hzl := Nat.le_trans hzl hz9
  obtain ⟨a9, T1_10, hE, hk⟩ := e_tickW hE hk
  rw [a9]
  generalize (p_X8_tick X1_9 1).2 = X1_10 at hR hE
  clear hfr hz9 a9
  refine lv_iconst (v := 1) hx hb dL_rides_152 (by decide) ?_
  refine lv_icmp_eq (tgt := 158) hx hb dL_rides_153 (by decide) (fun _ => ?_) (fun c => absurd c (by decide))
  refine lv_aload_n hx hb dL_rides_158 rfl (lv_at hl 0 rfl) ?_
  refine lv_bipush (v := 12) hx hb dL_rides_159 (by decide) ?_
  refine gm_ci (gm_call (As := [.int 12]) (rest := []) (ci := 8) (q := (RX8, TX8, 8)) ⟨hx, hb, hml, hown, hts⟩ hK (c_X8_count l D cy β X1_10 12 ) (cwV 1 hts (kIn kv_count) rfl rfl rfl (by decide +kernel) ⟨Nat.le_of_ble_eq_true rfl, Nat.le_of_ble_eq_true rfl⟩) (TR.mk0 hR) rfl hR rfl hl.1 rfl (Nat.le_of_ble_eq_true rfl) dL_rides_161 (Nat.le_of_ble_eq_true rfl) (Nat.le_of_ble_eq_true rfl)) hS (fun _ h => h.elim) (fun H locs _ hz9 hfr hS => ?_)
  have hR := gRep.keep hR hfr (fun _ _ h => h)
  replace hzl := Nat.le_trans hzl hz9
  obtain ⟨a9, hk⟩ := e_count hE hk
  rw [a9]
  clear hfr hz9 a9
  refine lv_bipush (v := 10) hx hb dL_rides_164 (by decide) ?_
  refine lv_icmp_ne (tgt := 245) hx hb dL_rides_166 (by decide) (fun c => absurd c (by decide)) (fun _ => ?_)
  refine lv_aload_n hx hb dL_rides_169 rfl (lv_at hl 0 rfl) ?_
  refine lv_iconst (v := 0) hx hb dL_rides_170 (by decide) ?_
  refine lv_bipush (v := 11) hx hb dL_rides_171 (by decide) ?_
  refine gm_ci (gm_call (As := [.int 0, .int 11]) (rest := []) (ci := 8) (q := (RX8, TX8, 8)) ⟨hx, hb, hml, hown, hts⟩ hK (c_X8_ticket l D cy β X1_10 0 11 ) (cwV 2 hts (kIn kv_ticket) rfl rfl rfl (by decide +kernel) ⟨Nat.le_of_ble_eq_true rfl, Nat.le_of_ble_eq_true rfl⟩) (TR.mk0 hR) rfl hR rfl hl.1 rfl (Nat.le_of_ble_eq_true rfl) dL_rides_173 (Nat.le_of_ble_eq_true rfl) (Nat.le_of_ble_eq_true rfl)) hS (fun _ h => h.elim) (fun H locs _ hz9 hfr hS => ?_)
  have hR := gRep.keep hR hfr (fun _ _ h => h)
  replace hzl := Nat.le_trans hzl hz9
  obtain ⟨a9, hk⟩ := e_ticket hE hk
  rw [a9]
  clear hfr hz9 a9
  refine lv_iconst (v := 5) hx hb dL_rides_176 (by decide) ?_
  refine lv_icmp_ne (tgt := 245) hx hb dL_rides_177 (by decide) (fun c => absurd c (by decide)) (fun _ => ?_)
  refine lv_aload_n hx hb dL_rides_180 rfl (lv_at hl 0 rfl) ?_
  refine lv_iconst (v := 0) hx hb dL_rides_181 (by decide) ?_
  refine lv_bipush (v := 12) hx hb dL_rides_182 (by decide) ?_
  refine gm_ci (gm_call (As := [.int 0, .int 12]) (rest := []) (ci := 8) (q := (RX8, TX8, 8)) ⟨hx, hb, hml, hown, hts⟩ hK (c_X8_ticket l D cy β X1_10 0 12 ) (cwV 2 hts (kIn kv_ticket) rfl rfl rfl (by decide +kernel) ⟨Nat.le_of_ble_eq_true rfl, Nat.le_of_ble_eq_true rfl⟩) (TR.mk0 hR) rfl hR rfl hl.1 rfl (Nat.le_of_ble_eq_true rfl) dL_rides_184 (Nat.le_of_ble_eq_true rfl) (Nat.le_of_ble_eq_true rfl)) hS (fun _ h => h.elim) (fun H locs _ hz9 hfr hS => ?_)
  have hR := gRep.keep hR hfr (fun _ _ h => h)
  replace hzl := Nat.le_trans hzl hz9
  obtain ⟨a9, hk⟩ := e_ticket hE hk
  rw [a9]
  clear hfr hz9 a9
  refine lv_iconst (v := 1) hx hb dL_rides_187 (by decide) ?_
  refine lv_icmp_ne (tgt := 245) hx hb dL_rides_188 (by decide) (fun c => absurd c (by decide)) (fun _ => ?_)
  refine lv_aload_n hx hb dL_rides_191 rfl (lv_at hl 0 rfl) ?_
  refine lv_bipush (v := 18) hx hb dL_rides_192 (by decide) ?_
  refine gm_ci (gm_call (As := [.int 18]) (rest := []) (ci := 8) (q := (RX8, TX8, 8)) ⟨hx, hb, hml, hown, hts⟩ hK (c_X8_count l D cy β X1_10 18 ) (cwV 1 hts (kIn kv_count) rfl rfl rfl (by decide +kernel) ⟨Nat.le_of_ble_eq_true rfl, Nat.le_of_ble_eq_true rfl⟩) (TR.mk0 hR) rfl hR rfl hl.1 rfl (Nat.le_of_ble_eq_true rfl) dL_rides_194 (Nat.le_of_ble_eq_true rfl) (Nat.le_of_ble_eq_true rfl)) hS (fun _ h => h.elim) (fun H locs _ hz9 hfr hS => ?_)
  have hR := gRep.keep hR hfr (fun _ _ h => h)
  replace hzl := Nat.le_trans hzl hz9
  obtain ⟨a9, hk⟩ := e_count hE hk
  rw [a9]
  clear hfr hz9 a9
  refine lv_iconst (v := 5) hx hb dL_rides_197 (by decide) ?_
  refine lv_icmp_ne (tgt := 245) hx hb dL_rides_198 (by decide) (fun c => absurd c (by decide)) (fun _ => ?_)
  refine lv_aload_n hx hb dL_rides_201 rfl (lv_at hl 0 rfl) ?_
  refine lv_iconst (v := 1) hx hb dL_rides_202 (by decide) ?_
  refine lv_iconst (v := 4) hx hb dL_rides_203 (by decide) ?_
  refine gm_ci (gm_call (As := [.int 1, .int 4]) (rest := []) (ci := 8) (q := (RX8, TX8, 8)) ⟨hx, hb, hml, hown, hts⟩ hK (c_X8_station l D cy β X1_10 1 4 ) (cwV 2 hts (kIn kv_station) rfl rfl rfl (by decide +kernel) ⟨Nat.le_of_ble_eq_true rfl, Nat.le_of_ble_eq_true rfl⟩) (TR.mk0 hR) rfl hR rfl hl.1 rfl (Nat.le_of_ble_eq_true rfl) dL_rides_204 (Nat.le_of_ble_eq_true rfl) (Nat.le_of_ble_eq_true rfl)) hS (fun _ h => h.elim) (fun H locs _ hz9 hfr hS => ?_)
  have hR := gRep.keep hR hfr (fun _ _ h => h)
  replace hzl := Nat.le_trans hzl hz9
  obtain ⟨a9, hk⟩ := e_station hE hk
  rw [a9]
  clear hfr hz9 a9
  refine lv_iconst (v := 1) hx hb dL_rides_207 (by decide) ?_
  refine lv_icmp_ne (tgt := 245) hx hb dL_rides_208 (by decide) (fun c => absurd c (by decide)) (fun _ => ?_)
  refine lv_aload_n hx hb dL_rides_211 rfl (lv_at hl 0 rfl) ?_
  refine lv_iconst (v := 0) hx hb dL_rides_212 (by decide) ?_
  refine lv_iconst (v := 1) hx hb dL_rides_213 (by decide) ?_
  refine lv_iconst (v := 0) hx hb dL_rides_214 (by decide) ?_
  refine lv_iconst (v := 1) hx hb dL_rides_215 (by decide) ?_
  refine lv_iconst (v := 5) hx hb dL_rides_216 (by decide) ?_
  refine gm_ci (gm_callS (As := [.ref β, .int 0, .int 1, .int 0, .int 1, .int 5]) (rest := []) ⟨hx, hb, hml, hown, hts⟩ hK (c_L_isEvent l D cy β X1_10 0 1 0 1 5 ) (va_cwS 6 hts (kIn ks_isEvent) rfl rfl rfl (by decide +kernel) ⟨Nat.le_of_ble_eq_true rfl, Nat.le_of_ble_eq_true rfl⟩) hR rfl hl.1 rfl (Nat.le_of_ble_eq_true rfl) dL_rides_217 (Nat.le_of_ble_eq_true rfl) (Nat.le_of_ble_eq_true rfl)) hS (fun _ h => h.elim) (fun H locs _ hz9 hfr hS => ?_)
  have hR := gRep.keep hR hfr (fun _ _ h => h)
  replace hzl := Nat.le_trans hzl hz9
  obtain ⟨a9, hk⟩ := e_isEvent hE hk
  rw [a9]
  clear hfr hz9 a9
  refine lv_if_eq (tgt := 245) hx hb dL_rides_220 (by decide) (fun c => absurd c (by decide)) (fun _ => ?_)
  refine lv_aload_n hx hb dL_rides_223 rfl (lv_at hl 0 rfl) ?_
  refine lv_iconst (v := 0) hx hb dL_rides_224 (by decide) ?_
  refine lv_iconst (v := 0) hx hb dL_rides_225 (by decide) ?_
  refine gm_ci (gm_call (As := [.int 0, .int 0]) (rest := []) (ci := 8) (q := (RX8, TX8, 8)) ⟨hx, hb, hml, hown, hts⟩ hK (c_X8_slot l D cy β X1_10 0 0 ) (cwV 2 hts (kIn kv_slot) rfl rfl rfl (by decide +kernel) ⟨Nat.le_of_ble_eq_true rfl, Nat.le_of_ble_eq_true rfl⟩) (TR.mk0 hR) rfl hR rfl hl.1 rfl (Nat.le_of_ble_eq_true rfl) dL_rides_226 (Nat.le_of_ble_eq_true rfl) (Nat.le_of_ble_eq_true rfl)) hS (fun _ h => h.elim) (fun H locs _ hz9 hfr hS => ?_)
  have hR := gRep.keep hR hfr (fun _ _ h => h)
  replace hzl := Nat.le_trans hzl hz9
  obtain ⟨a9, hk⟩ := e_slot hE hk
  rw [a9]
  clear hfr hz9 a9
  refine lv_bipush (v := (-5)) hx hb dL_rides_229 (by decide) ?_
  refine lv_icmp_ne (tgt := 245) hx hb dL_rides_231 (by decide) (fun c => absurd c (by decide)) (fun _ => ?_)
  refine lv_aload_n hx hb dL_rides_234 rfl (lv_at hl 0 rfl) ?_
  refine lv_iconst (v := 0) hx hb dL_rides_235 (by decide) ?_
  refine lv_iconst (v := 1) hx hb dL_rides_236 (by decide) ?_
  refine gm_ci (gm_call (As := [.int 0, .int 1]) (rest := []) (ci := 8) (q := (RX8, TX8, 8)) ⟨hx, hb, hml, hown, hts⟩ hK (c_X8_line l D cy β X1_10 0 1 ) (cwV 2 hts (kIn kv_line) rfl rfl rfl (by decide +kernel) ⟨Nat.le_of_ble_eq_true rfl, Nat.le_of_ble_eq_true rfl⟩) (TR.mk0 hR) rfl hR rfl hl.1 rfl (Nat.le_of_ble_eq_true rfl) dL_rides_237 (Nat.le_of_ble_eq_true rfl) (Nat.le_of_ble_eq_true rfl)) hS (fun _ h => h.elim) (fun H locs _ hz9 hfr hS => ?_)
  have hR := gRep.keep hR hfr (fun _ _ h => h)
  replace hzl := Nat.le_trans hzl hz9
  obtain ⟨a9, hk⟩ := e_line hE hk
  rw [a9]
  clear hfr hz9 a9
  refine lv_bipush (v := 6) hx hb dL_rides_240 (by decide) ?_
  refine lv_icmp_eq (tgt := 247) hx hb dL_rides_242 (by decide) (fun _ => ?_) (fun c => absurd c (by decide))
  refine lv_aload_n hx hb dL_rides_247 rfl (lv_at hl 0 rfl) ?_
  refine lv_iconst (v := 0) hx hb dL_rides_248 (by decide) ?_
  refine lv_iconst (v := 5) hx hb dL_rides_249 (by decide) ?_
  refine gm_ci (gm_call (As := [.int 0, .int 5]) (rest := []) (ci := 8) (q := (RX8, TX8, 8)) ⟨hx, hb, hml, hown, hts⟩ hK (c_X8_addStation l D cy β X1_10 0 5 hE.ok) (cwV 2 hts (kIn kv_addStation) rfl rfl rfl (by decide +kernel) ⟨Nat.le_of_ble_eq_true rfl, Nat.le_of_ble_eq_true rfl⟩) (TR.mk0 hR) rfl hR rfl hl.1 rfl (Nat.le_of_ble_eq_true rfl) dL_rides_250 (Nat.le_of_ble_eq_true rfl) (Nat.le_of_ble_eq_true rfl)) hS TA_CA (fun H locs hR hz9 hfr hS => ?_)
  replace hzl := Nat.le_trans hzl hz9
  obtain ⟨a9, T1_11, hE, hk⟩ := eH_addStation hE hk
  rw [a9]
  generalize (p_X8_addStation X1_10 0 5).2 = X1_11 at hR hE
  clear hfr hz9 a9
  refine lv_iconst (v := 2) hx hb dL_rides_253 (by decide) ?_
  refine lv_icmp_ne (tgt := 352) hx hb dL_rides_254 (by decide) (fun c => absurd c (by decide)) (fun _ => ?_)
  refine lv_aload_n hx hb dL_rides_257 rfl (lv_at hl 0 rfl) ?_
  refine lv_iconst (v := 2) hx hb dL_rides_258 (by decide) ?_
  refine lv_iconst (v := 5) hx hb dL_rides_259 (by decide) ?_
  refine gm_ci (gm_call (As := [.int 2, .int 5]) (rest := []) (ci := 8) (q := (RX8, TX8, 8)) ⟨hx, hb, hml, hown, hts⟩ hK (c_X8_call l D cy β X1_11 2 5 hE.ok) (cwV 2 hts (kIn kv_call) rfl rfl rfl (by decide +kernel) ⟨Nat.le_of_ble_eq_true rfl, Nat.le_of_ble_eq_true rfl⟩) (TR.mk0 hR) rfl hR rfl hl.1 rfl (Nat.le_of_ble_eq_true rfl) dL_rides_260 (Nat.le_of_ble_eq_true rfl) (Nat.le_of_ble_eq_true rfl)) hS TA_CA (fun H locs hR hz9 hfr hS => ?_)
  replace hzl := Nat.le_trans hzl hz9
  obtain ⟨a9, T1_12, hE, hk⟩ := eH_call hE hk
  rw [a9]
  generalize (p_X8_call X1_11 2 5).2 = X1_12 at hR hE
  clear hfr hz9 a9
  refine lv_iconst (v := 1) hx hb dL_rides_263 (by decide) ?_
  refine lv_icmp_ne (tgt := 352) hx hb dL_rides_264 (by decide) (fun c => absurd c (by decide)) (fun _ => ?_)
  refine lv_aload_n hx hb dL_rides_267 rfl (lv_at hl 0 rfl) ?_
  refine lv_iconst (v := 2) hx hb dL_rides_268 (by decide) ?_
  refine lv_bipush (v := 7) hx hb dL_rides_269 (by decide) ?_
  refine gm_ci (gm_call (As := [.int 2, .int 7]) (rest := []) (ci := 8) (q := (RX8, TX8, 8)) ⟨hx, hb, hml, hown, hts⟩ hK (c_X8_call l D cy β X1_12 2 7 hE.ok) (cwV 2 hts (kIn kv_call) rfl rfl rfl (by decide +kernel) ⟨Nat.le_of_ble_eq_true rfl, Nat.le_of_ble_eq_true rfl⟩) (TR.mk0 hR) rfl hR rfl hl.1 rfl (Nat.le_of_ble_eq_true rfl) dL_rides_271 (Nat.le_of_ble_eq_true rfl) (Nat.le_of_ble_eq_true rfl)) hS TA_CA (fun H locs hR hz9 hfr hS => ?_)
  replace hzl := Nat.le_trans hzl hz9
  obtain ⟨a9, T1_13, hE, hk⟩ := eH_call hE hk
  rw [a9]
  generalize (p_X8_call X1_12 2 7).2 = X1_13 at hR hE
  clear hfr hz9 a9
  refine lv_iconst (v := 2) hx hb dL_rides_274 (by decide) ?_
  refine lv_icmp_ne (tgt := 352) hx hb dL_rides_275 (by decide) (fun c => absurd c (by decide)) (fun _ => ?_)
  refine lv_aload_n hx hb dL_rides_278 rfl (lv_at hl 0 rfl) ?_
  refine lv_iconst (v := 2) hx hb dL_rides_279 (by decide) ?_
  refine lv_iconst (v := 5) hx hb dL_rides_280 (by decide) ?_
  refine gm_ci (gm_call (As := [.int 2, .int 5]) (rest := []) (ci := 8) (q := (RX8, TX8, 8)) ⟨hx, hb, hml, hown, hts⟩ hK (c_X8_call l D cy β X1_13 2 5 hE.ok) (cwV 2 hts (kIn kv_call) rfl rfl rfl (by decide +kernel) ⟨Nat.le_of_ble_eq_true rfl, Nat.le_of_ble_eq_true rfl⟩) (TR.mk0 hR) rfl hR rfl hl.1 rfl (Nat.le_of_ble_eq_true rfl) dL_rides_281 (Nat.le_of_ble_eq_true rfl) (Nat.le_of_ble_eq_true rfl)) hS TA_CA (fun H locs hR hz9 hfr hS => ?_)
  replace hzl := Nat.le_trans hzl hz9
  obtain ⟨a9, T1_14, hE, hk⟩ := eH_call hE hk
  rw [a9]
  generalize (p_X8_call X1_13 2 5).2 = X1_14 at hR hE
  clear hfr hz9 a9
  refine lv_iconst (v := 3) hx hb dL_rides_284 (by decide) ?_
  refine lv_icmp_ne (tgt := 352) hx hb dL_rides_285 (by decide) (fun c => absurd c (by decide)) (fun _ => ?_)
  refine lv_aload_n hx hb dL_rides_288 rfl (lv_at hl 0 rfl) ?_
  refine lv_iconst (v := 2) hx hb dL_rides_289 (by decide) ?_
  refine lv_bipush (v := 9) hx hb dL_rides_290 (by decide) ?_
  refine gm_ci (gm_call (As := [.int 2, .int 9]) (rest := []) (ci := 8) (q := (RX8, TX8, 8)) ⟨hx, hb, hml, hown, hts⟩ hK (c_X8_call l D cy β X1_14 2 9 hE.ok) (cwV 2 hts (kIn kv_call) rfl rfl rfl (by decide +kernel) ⟨Nat.le_of_ble_eq_true rfl, Nat.le_of_ble_eq_true rfl⟩) (TR.mk0 hR) rfl hR rfl hl.1 rfl (Nat.le_of_ble_eq_true rfl) dL_rides_292 (Nat.le_of_ble_eq_true rfl) (Nat.le_of_ble_eq_true rfl)) hS TA_CA (fun H locs hR hz9 hfr hS => ?_)
  replace hzl := Nat.le_trans hzl hz9
  obtain ⟨a9, T1_15, hE, hk⟩ := eH_call hE hk
  rw [a9]
  generalize (p_X8_call X1_14 2 9).2 = X1_15 at hR hE
  clear hfr hz9 a9
  refine lv_bipush (v := (-3)) hx hb dL_rides_295 (by decide) ?_
  refine lv_icmp_ne (tgt := 352) hx hb dL_rides_297 (by decide) (fun c => absurd c (by decide)) (fun _ => ?_)
  refine lv_aload_n hx hb dL_rides_300 rfl (lv_at hl 0 rfl) ?_
  refine lv_iconst (v := 2) hx hb dL_rides_301 (by decide) ?_
  refine gm_ci (gm_call (As := [.int 2]) (rest := []) (ci := 8) (q := (RX8, TX8, 8)) ⟨hx, hb, hml, hown, hts⟩ hK (c_X8_tick l D cy β X1_15 2 hE.ok) (cwV 1 hts (kIn kv_tick) rfl rfl rfl (by decide +kernel) ⟨Nat.le_of_ble_eq_true rfl, Nat.le_of_ble_eq_true rfl⟩) (TR.mk0 hR) rfl hR rfl hl.1 rfl (Nat.le_of_ble_eq_true rfl) dL_rides_302 (Nat.le_of_ble_eq_true rfl) (Nat.le_of_ble_eq_true rfl)) hS TA_CA (fun H locs hR hz9 hfr hS => ?_)
  replace hzl := Nat.le_trans hzl hz9
  obtain ⟨a9, T1_16, hE, hk⟩ := e_tickW hE hk
  rw [a9]
  generalize (p_X8_tick X1_15 2).2 = X1_16 at hR hE
  clear hfr hz9 a9
  refine lv_if_ne (tgt := 352) hx hb dL_rides_305 (by decide) (fun c => absurd c (by decide)) (fun _ => ?_)
  refine lv_aload_n hx hb dL_rides_308 rfl (lv_at hl 0 rfl) ?_
  refine lv_iconst (v := 5) hx hb dL_rides_309 (by decide) ?_
  refine lv_iconst (v := 2) hx hb dL_rides_310 (by decide) ?_
  refine lv_iconst (v := 0) hx hb dL_rides_311 (by decide) ?_
  refine lv_iconst (v := 1) hx hb dL_rides_312 (by decide) ?_
  refine lv_iconst (v := 3) hx hb dL_rides_313 (by decide) ?_
  refine gm_ci (gm_call (As := [.int 5, .int 2, .int 0, .int 1, .int 3]) (rest := []) (ci := 8) (q := (RX8, TX8, 8)) ⟨hx, hb, hml, hown, hts⟩ hK (c_X8_book l D cy β X1_16 5 2 0 1 3 hE.ok) (cwV 5 hts (kIn kv_book) rfl rfl rfl (by decide +kernel) ⟨Nat.le_of_ble_eq_true rfl, Nat.le_of_ble_eq_true rfl⟩) (TR.mk0 hR) rfl hR rfl hl.1 rfl (Nat.le_of_ble_eq_true rfl) dL_rides_314 (Nat.le_of_ble_eq_true rfl) (Nat.le_of_ble_eq_true rfl)) hS TA_CA (fun H locs hR hz9 hfr hS => ?_)
  replace hzl := Nat.le_trans hzl hz9
  obtain ⟨a9, T1_17, hE, hk⟩ := eH_book hE hk
  rw [a9]
  generalize (p_X8_book X1_16 5 2 0 1 3).2 = X1_17 at hR hE
  clear hfr hz9 a9
  refine lv_iconst (v := 1) hx hb dL_rides_317 (by decide) ?_
  refine lv_icmp_ne (tgt := 352) hx hb dL_rides_318 (by decide) (fun c => absurd c (by decide)) (fun _ => ?_)
  refine lv_aload_n hx hb dL_rides_321 rfl (lv_at hl 0 rfl) ?_
  refine lv_iconst (v := 1) hx hb dL_rides_322 (by decide) ?_
  refine lv_iconst (v := 5) hx hb dL_rides_323 (by decide) ?_
  refine gm_ci (gm_call (As := [.int 1, .int 5]) (rest := []) (ci := 8) (q := (RX8, TX8, 8)) ⟨hx, hb, hml, hown, hts⟩ hK (c_X8_ticket l D cy β X1_17 1 5 ) (cwV 2 hts (kIn kv_ticket) rfl rfl rfl (by decide +kernel) ⟨Nat.le_of_ble_eq_true rfl, Nat.le_of_ble_eq_true rfl⟩) (TR.mk0 hR) rfl hR rfl hl.1 rfl (Nat.le_of_ble_eq_true rfl) dL_rides_324 (Nat.le_of_ble_eq_true rfl) (Nat.le_of_ble_eq_true rfl)) hS (fun _ h => h.elim) (fun H locs _ hz9 hfr hS => ?_)
  have hR := gRep.keep hR hfr (fun _ _ h => h)
  replace hzl := Nat.le_trans hzl hz9
  obtain ⟨a9, hk⟩ := e_ticket hE hk
  rw [a9]
  clear hfr hz9 a9
  refine lv_bipush (v := 60) hx hb dL_rides_327 (by decide) ?_
  refine lv_icmp_ne (tgt := 352) hx hb dL_rides_329 (by decide) (fun c => absurd c (by decide)) (fun _ => ?_)
  refine lv_aload_n hx hb dL_rides_332 rfl (lv_at hl 0 rfl) ?_
  refine lv_iconst (v := 1) hx hb dL_rides_333 (by decide) ?_
  refine lv_iconst (v := 0) hx hb dL_rides_334 (by decide) ?_
  refine gm_ci (gm_call (As := [.int 1, .int 0]) (rest := []) (ci := 8) (q := (RX8, TX8, 8)) ⟨hx, hb, hml, hown, hts⟩ hK (c_X8_fate l D cy β X1_17 1 0 ) (cwV 2 hts (kIn kv_fate) rfl rfl rfl (by decide +kernel) ⟨Nat.le_of_ble_eq_true rfl, Nat.le_of_ble_eq_true rfl⟩) (TR.mk0 hR) rfl hR rfl hl.1 rfl (Nat.le_of_ble_eq_true rfl) dL_rides_335 (Nat.le_of_ble_eq_true rfl) (Nat.le_of_ble_eq_true rfl)) hS TA_CA (fun H locs hR hz9 hfr hS => ?_)
  replace hzl := Nat.le_trans hzl hz9
  obtain ⟨a9, hE, hk⟩ := e_fateF hE hk
  rw [a9]
  generalize (p_X8_fate X1_17 1 0).2 = X1_18 at hR hE
  clear hfr hz9 a9
  refine lv_iconst (v := 4) hx hb dL_rides_338 (by decide) ?_
  refine lv_icmp_ne (tgt := 352) hx hb dL_rides_339 (by decide) (fun c => absurd c (by decide)) (fun _ => ?_)
  refine lv_aload_n hx hb dL_rides_342 rfl (lv_at hl 0 rfl) ?_
  refine lv_iconst (v := 1) hx hb dL_rides_343 (by decide) ?_
  refine lv_iconst (v := 1) hx hb dL_rides_344 (by decide) ?_
  refine gm_ci (gm_call (As := [.int 1, .int 1]) (rest := []) (ci := 8) (q := (RX8, TX8, 8)) ⟨hx, hb, hml, hown, hts⟩ hK (c_X8_fate l D cy β X1_18 1 1 ) (cwV 2 hts (kIn kv_fate) rfl rfl rfl (by decide +kernel) ⟨Nat.le_of_ble_eq_true rfl, Nat.le_of_ble_eq_true rfl⟩) (TR.mk0 hR) rfl hR rfl hl.1 rfl (Nat.le_of_ble_eq_true rfl) dL_rides_345 (Nat.le_of_ble_eq_true rfl) (Nat.le_of_ble_eq_true rfl)) hS TA_CA (fun H locs hR hz9 hfr hS => ?_)
  replace hzl := Nat.le_trans hzl hz9
  obtain ⟨a9, hE, hk⟩ := e_fateF hE hk
  rw [a9]
  generalize (p_X8_fate X1_18 1 1).2 = X1_19 at hR hE
  clear hfr hz9 a9
  refine lv_iconst (v := 4) hx hb dL_rides_348 (by decide) ?_
  refine lv_icmp_eq (tgt := 354) hx hb dL_rides_349 (by decide) (fun _ => ?_) (fun c => absurd c (by decide))
  refine lv_aload_n hx hb dL_rides_354 rfl (lv_at hl 0 rfl) ?_
  refine lv_iconst (v := 4) hx hb dL_rides_355 (by decide) ?_
  refine gm_ci (gm_call (As := [.int 4]) (rest := []) (ci := 8) (q := (RX8, TX8, 8)) ⟨hx, hb, hml, hown, hts⟩ hK (c_X8_tick l D cy β X1_19 4 hE.ok) (cwV 1 hts (kIn kv_tick) rfl rfl rfl (by decide +kernel) ⟨Nat.le_of_ble_eq_true rfl, Nat.le_of_ble_eq_true rfl⟩) (TR.mk0 hR) rfl hR rfl hl.1 rfl (Nat.le_of_ble_eq_true rfl) dL_rides_356 (Nat.le_of_ble_eq_true rfl) (Nat.le_of_ble_eq_true rfl)) hS TA_CA (fun H locs hR hz9 hfr hS => ?_)
  replace hzl := Nat.le_trans hzl hz9
  obtain ⟨a9, T1_20, hE, hk⟩ := e_tickW hE hk
  rw [a9]
  generalize (p_X8_tick X1_19 4).2 = X1_20 at hR hE
  clear hfr hz9 a9
  refine lv_if_ne (tgt := 439) hx hb dL_rides_359 (by decide) (fun c => absurd c (by decide)) (fun _ => ?_)
  refine lv_aload_n hx hb dL_rides_362 rfl (lv_at hl 0 rfl) ?_
  refine lv_iconst (v := 1) hx hb dL_rides_363 (by decide) ?_
  refine lv_bipush (v := 6) hx hb dL_rides_364 (by decide) ?_
  refine gm_ci (gm_call (As := [.int 1, .int 6]) (rest := []) (ci := 8) (q := (RX8, TX8, 8)) ⟨hx, hb, hml, hown, hts⟩ hK (c_X8_ticket l D cy β X1_20 1 6 ) (cwV 2 hts (kIn kv_ticket) rfl rfl rfl (by decide +kernel) ⟨Nat.le_of_ble_eq_true rfl, Nat.le_of_ble_eq_true rfl⟩) (TR.mk0 hR) rfl hR rfl hl.1 rfl (Nat.le_of_ble_eq_true rfl) dL_rides_366 (Nat.le_of_ble_eq_true rfl) (Nat.le_of_ble_eq_true rfl)) hS (fun _ h => h.elim) (fun H locs _ hz9 hfr hS => ?_)
  have hR := gRep.keep hR hfr (fun _ _ h => h)
  replace hzl := Nat.le_trans hzl hz9
  obtain ⟨a9, hk⟩ := e_ticket hE hk
  rw [a9]
  clear hfr hz9 a9
  refine lv_iconst (v := 4) hx hb dL_rides_369 (by decide) ?_
  refine lv_icmp_ne (tgt := 439) hx hb dL_rides_370 (by decide) (fun c => absurd c (by decide)) (fun _ => ?_)
  refine lv_aload_n hx hb dL_rides_373 rfl (lv_at hl 0 rfl) ?_
  refine lv_bipush (v := 13) hx hb dL_rides_374 (by decide) ?_
  refine gm_ci (gm_call (As := [.int 13]) (rest := []) (ci := 8) (q := (RX8, TX8, 8)) ⟨hx, hb, hml, hown, hts⟩ hK (c_X8_count l D cy β X1_20 13 ) (cwV 1 hts (kIn kv_count) rfl rfl rfl (by decide +kernel) ⟨Nat.le_of_ble_eq_true rfl, Nat.le_of_ble_eq_true rfl⟩) (TR.mk0 hR) rfl hR rfl hl.1 rfl (Nat.le_of_ble_eq_true rfl) dL_rides_376 (Nat.le_of_ble_eq_true rfl) (Nat.le_of_ble_eq_true rfl)) hS (fun _ h => h.elim) (fun H locs _ hz9 hfr hS => ?_)
  have hR := gRep.keep hR hfr (fun _ _ h => h)
  replace hzl := Nat.le_trans hzl hz9
  obtain ⟨a9, hk⟩ := e_count hE hk
  rw [a9]
  clear hfr hz9 a9
  refine lv_bipush (v := 60) hx hb dL_rides_379 (by decide) ?_
  refine lv_icmp_ne (tgt := 439) hx hb dL_rides_381 (by decide) (fun c => absurd c (by decide)) (fun _ => ?_)
  refine lv_aload_n hx hb dL_rides_384 rfl (lv_at hl 0 rfl) ?_
  refine lv_iconst (v := 2) hx hb dL_rides_385 (by decide) ?_
  refine lv_iconst (v := 5) hx hb dL_rides_386 (by decide) ?_
  refine gm_ci (gm_call (As := [.int 2, .int 5]) (rest := []) (ci := 8) (q := (RX8, TX8, 8)) ⟨hx, hb, hml, hown, hts⟩ hK (c_X8_station l D cy β X1_20 2 5 ) (cwV 2 hts (kIn kv_station) rfl rfl rfl (by decide +kernel) ⟨Nat.le_of_ble_eq_true rfl, Nat.le_of_ble_eq_true rfl⟩) (TR.mk0 hR) rfl hR rfl hl.1 rfl (Nat.le_of_ble_eq_true rfl) dL_rides_387 (Nat.le_of_ble_eq_true rfl) (Nat.le_of_ble_eq_true rfl)) hS (fun _ h => h.elim) (fun H locs _ hz9 hfr hS => ?_)
  have hR := gRep.keep hR hfr (fun _ _ h => h)
  replace hzl := Nat.le_trans hzl hz9
  obtain ⟨a9, hk⟩ := e_station hE hk
  rw [a9]
  clear hfr hz9 a9
  refine lv_iconst (v := 1) hx hb dL_rides_390 (by decide) ?_
  refine lv_icmp_ne (tgt := 439) hx hb dL_rides_391 (by decide) (fun c => absurd c (by decide)) (fun _ => ?_)
  refine lv_aload_n hx hb dL_rides_394 rfl (lv_at hl 0 rfl) ?_
  refine lv_iconst (v := 2) hx hb dL_rides_395 (by decide) ?_
  refine lv_bipush (v := 7) hx hb dL_rides_396 (by decide) ?_
  refine gm_ci (gm_call (As := [.int 2, .int 7]) (rest := []) (ci := 8) (q := (RX8, TX8, 8)) ⟨hx, hb, hml, hown, hts⟩ hK (c_X8_station l D cy β X1_20 2 7 ) (cwV 2 hts (kIn kv_station) rfl rfl rfl (by decide +kernel) ⟨Nat.le_of_ble_eq_true rfl, Nat.le_of_ble_eq_true rfl⟩) (TR.mk0 hR) rfl hR rfl hl.1 rfl (Nat.le_of_ble_eq_true rfl) dL_rides_398 (Nat.le_of_ble_eq_true rfl) (Nat.le_of_ble_eq_true rfl)) hS (fun _ h => h.elim) (fun H locs _ hz9 hfr hS => ?_)
  have hR := gRep.keep hR hfr (fun _ _ h => h)
  replace hzl := Nat.le_trans hzl hz9
  obtain ⟨a9, hk⟩ := e_station hE hk
  rw [a9]
  clear hfr hz9 a9
  refine lv_iconst (v := 2) hx hb dL_rides_401 (by decide) ?_
  refine lv_icmp_ne (tgt := 439) hx hb dL_rides_402 (by decide) (fun c => absurd c (by decide)) (fun _ => ?_)
  refine lv_aload_n hx hb dL_rides_405 rfl (lv_at hl 0 rfl) ?_
  refine lv_iconst (v := 2) hx hb dL_rides_406 (by decide) ?_
  refine lv_iconst (v := 0) hx hb dL_rides_407 (by decide) ?_
  refine gm_ci (gm_call (As := [.int 2, .int 0]) (rest := []) (ci := 8) (q := (RX8, TX8, 8)) ⟨hx, hb, hml, hown, hts⟩ hK (c_X8_calls l D cy β X1_20 2 0 ) (cwV 2 hts (kIn kv_calls) rfl rfl rfl (by decide +kernel) ⟨Nat.le_of_ble_eq_true rfl, Nat.le_of_ble_eq_true rfl⟩) (TR.mk0 hR) rfl hR rfl hl.1 rfl (Nat.le_of_ble_eq_true rfl) dL_rides_408 (Nat.le_of_ble_eq_true rfl) (Nat.le_of_ble_eq_true rfl)) hS (fun _ h => h.elim) (fun H locs _ hz9 hfr hS => ?_)
  have hR := gRep.keep hR hfr (fun _ _ h => h)
  replace hzl := Nat.le_trans hzl hz9
  obtain ⟨a9, hk⟩ := e_calls hE hk
  rw [a9]
  clear hfr hz9 a9
  refine lv_bipush (v := 7) hx hb dL_rides_411 (by decide) ?_
  refine lv_icmp_ne (tgt := 439) hx hb dL_rides_413 (by decide) (fun c => absurd c (by decide)) (fun _ => ?_)
  refine lv_aload_n hx hb dL_rides_416 rfl (lv_at hl 0 rfl) ?_
  refine lv_iconst (v := 2) hx hb dL_rides_417 (by decide) ?_
  refine lv_iconst (v := 1) hx hb dL_rides_418 (by decide) ?_
  refine gm_ci (gm_call (As := [.int 2, .int 1]) (rest := []) (ci := 8) (q := (RX8, TX8, 8)) ⟨hx, hb, hml, hown, hts⟩ hK (c_X8_calls l D cy β X1_20 2 1 ) (cwV 2 hts (kIn kv_calls) rfl rfl rfl (by decide +kernel) ⟨Nat.le_of_ble_eq_true rfl, Nat.le_of_ble_eq_true rfl⟩) (TR.mk0 hR) rfl hR rfl hl.1 rfl (Nat.le_of_ble_eq_true rfl) dL_rides_419 (Nat.le_of_ble_eq_true rfl) (Nat.le_of_ble_eq_true rfl)) hS (fun _ h => h.elim) (fun H locs _ hz9 hfr hS => ?_)
  have hR := gRep.keep hR hfr (fun _ _ h => h)
  replace hzl := Nat.le_trans hzl hz9
  obtain ⟨a9, hk⟩ := e_calls hE hk
  rw [a9]
  clear hfr hz9 a9
  refine lv_iconst (v := 5) hx hb dL_rides_422 (by decide) ?_
  refine lv_icmp_ne (tgt := 439) hx hb dL_rides_423 (by decide) (fun c => absurd c (by decide)) (fun _ => ?_)
  refine lv_aload_n hx hb dL_rides_426 rfl (lv_at hl 0 rfl) ?_
  refine lv_iconst (v := 0) hx hb dL_rides_427 (by decide) ?_
  refine lv_iconst (v := 2) hx hb dL_rides_428 (by decide) ?_
  refine lv_iconst (v := 1) hx hb dL_rides_429 (by decide) ?_
  refine lv_iconst (v := 2) hx hb dL_rides_430 (by decide) ?_
  refine lv_bipush (v := 11) hx hb dL_rides_431 (by decide) ?_
  refine gm_ci (gm_callS (As := [.ref β, .int 0, .int 2, .int 1, .int 2, .int 11]) (rest := []) ⟨hx, hb, hml, hown, hts⟩ hK (c_L_isEvent l D cy β X1_20 0 2 1 2 11 ) (va_cwS 6 hts (kIn ks_isEvent) rfl rfl rfl (by decide +kernel) ⟨Nat.le_of_ble_eq_true rfl, Nat.le_of_ble_eq_true rfl⟩) hR rfl hl.1 rfl (Nat.le_of_ble_eq_true rfl) dL_rides_433 (Nat.le_of_ble_eq_true rfl) (Nat.le_of_ble_eq_true rfl)) hS (fun _ h => h.elim) (fun H locs _ hz9 hfr hS => ?_)
  have hR := gRep.keep hR hfr (fun _ _ h => h)
  replace hzl := Nat.le_trans hzl hz9
  obtain ⟨a9, hk⟩ := e_isEvent hE hk
  rw [a9]
  clear hfr hz9 a9
  refine lv_if_ne (tgt := 441) hx hb dL_rides_436 (by decide) (fun _ => ?_) (fun c => absurd c (by decide))
  refine lv_aload_n hx hb dL_rides_441 rfl (lv_at hl 0 rfl) ?_
  refine lv_iconst (v := 2) hx hb dL_rides_442 (by decide) ?_
  refine gm_ci (gm_call (As := [.int 2]) (rest := []) (ci := 8) (q := (RX8, TX8, 8)) ⟨hx, hb, hml, hown, hts⟩ hK (c_X8_callBack l D cy β X1_20 2 hE.ok) (cwV 1 hts (kIn kv_callBack) rfl rfl rfl (by decide +kernel) ⟨Nat.le_of_ble_eq_true rfl, Nat.le_of_ble_eq_true rfl⟩) (TR.mk0 hR) rfl hR rfl hl.1 rfl (Nat.le_of_ble_eq_true rfl) dL_rides_443 (Nat.le_of_ble_eq_true rfl) (Nat.le_of_ble_eq_true rfl)) hS TA_CA (fun H locs hR hz9 hfr hS => ?_)
  replace hzl := Nat.le_trans hzl hz9
  obtain ⟨a9, T1_21, hE, hk⟩ := eH_callBack hE hk
  rw [a9]
  generalize (p_X8_callBack X1_20 2).2 = X1_21 at hR hE
  clear hfr hz9 a9
  refine lv_bipush (v := 7) hx hb dL_rides_446 (by decide) ?_
  refine lv_icmp_ne (tgt := 470) hx hb dL_rides_448 (by decide) (fun c => absurd c (by decide)) (fun _ => ?_)
  refine lv_aload_n hx hb dL_rides_451 rfl (lv_at hl 0 rfl) ?_
  refine lv_iconst (v := 2) hx hb dL_rides_452 (by decide) ?_
  refine gm_ci (gm_call (As := [.int 2]) (rest := []) (ci := 8) (q := (RX8, TX8, 8)) ⟨hx, hb, hml, hown, hts⟩ hK (c_X8_callBack l D cy β X1_21 2 hE.ok) (cwV 1 hts (kIn kv_callBack) rfl rfl rfl (by decide +kernel) ⟨Nat.le_of_ble_eq_true rfl, Nat.le_of_ble_eq_true rfl⟩) (TR.mk0 hR) rfl hR rfl hl.1 rfl (Nat.le_of_ble_eq_true rfl) dL_rides_453 (Nat.le_of_ble_eq_true rfl) (Nat.le_of_ble_eq_true rfl)) hS TA_CA (fun H locs hR hz9 hfr hS => ?_)
  replace hzl := Nat.le_trans hzl hz9
  obtain ⟨a9, T1_22, hE, hk⟩ := eH_callBack hE hk
  rw [a9]
  generalize (p_X8_callBack X1_21 2).2 = X1_22 at hR hE
  clear hfr hz9 a9
  refine lv_iconst (v := 5) hx hb dL_rides_456 (by decide) ?_
  refine lv_icmp_ne (tgt := 470) hx hb dL_rides_457 (by decide) (fun c => absurd c (by decide)) (fun _ => ?_)
  refine lv_aload_n hx hb dL_rides_460 rfl (lv_at hl 0 rfl) ?_
  refine lv_iconst (v := 2) hx hb dL_rides_461 (by decide) ?_
  refine gm_ci (gm_call (As := [.int 2]) (rest := []) (ci := 8) (q := (RX8, TX8, 8)) ⟨hx, hb, hml, hown, hts⟩ hK (c_X8_callBack l D cy β X1_22 2 hE.ok) (cwV 1 hts (kIn kv_callBack) rfl rfl rfl (by decide +kernel) ⟨Nat.le_of_ble_eq_true rfl, Nat.le_of_ble_eq_true rfl⟩) (TR.mk0 hR) rfl hR rfl hl.1 rfl (Nat.le_of_ble_eq_true rfl) dL_rides_462 (Nat.le_of_ble_eq_true rfl) (Nat.le_of_ble_eq_true rfl)) hS TA_CA (fun H locs hR hz9 hfr hS => ?_)
  replace hzl := Nat.le_trans hzl hz9
  obtain ⟨a9, T1_23, hE, hk⟩ := eH_callBack hE hk
  rw [a9]
  generalize (p_X8_callBack X1_22 2).2 = X1_23 at hR hE
  clear hfr hz9 a9
  refine lv_bipush (v := (-5)) hx hb dL_rides_465 (by decide) ?_
  refine lv_icmp_eq (tgt := 472) hx hb dL_rides_467 (by decide) (fun _ => ?_) (fun c => absurd c (by decide))
  obtain ⟨β2, hz⟩ : ∃ b : Nat, H.size = b := ⟨_, rfl⟩
  have hb2 : β + 872 ≤ β2 := by rw [← hz]; exact hzl
  refine gm_cqC (mc := 872) (ms := 8239) (gm_callSC (As := []) (rest := []) ⟨hx, hb, hml, hown, hts⟩ hK (c_L_built l D cy β2 _ ev_rides2) (va_cwS 0 hts (kIn ks_built) rfl rfl rfl (by decide +kernel) ⟨Nat.le_of_ble_eq_true rfl, Nat.le_of_ble_eq_true rfl⟩) hz rfl hl.1 rfl (Nat.le_of_ble_eq_true rfl) dL_rides_472 (Nat.le_of_ble_eq_true rfl) (Nat.le_of_ble_eq_true rfl)) hS (CA_le hb2) (fun H locs hU _ hfr hS => ?_)
  have hR := TR.keepC hR hb2 hfr
  clear hfr
  obtain ⟨X2_0, T2_0, hR2, hzl, hE2, hk2⟩ := hU
  refine W.eq (g2 := F0 m 475 ls [.ref β2]) rfl ?_
  refine lv_astore_n (lv' := [(1, .ref β2), (0, .ref β)]) hx hb dL_rides_475 rfl hl (by decide) rfl (fun ls hl => ?_)
  refine lv_aload_n hx hb dL_rides_476 rfl (lv_at hl 0 rfl) ?_
  refine lv_bipush (v := 9) hx hb dL_rides_477 (by decide) ?_
  refine lv_iconst (v := 1) hx hb dL_rides_479 (by decide) ?_
  refine lv_iconst (v := 1) hx hb dL_rides_480 (by decide) ?_
  refine lv_bipush (v := 11) hx hb dL_rides_481 (by decide) ?_
  refine lv_iconst (v := 1) hx hb dL_rides_483 (by decide) ?_
  refine gm_ci (gm_call (As := [.int 9, .int 1, .int 1, .int 11, .int 1]) (rest := []) (ci := 8) (q := (RX8, TX8, 8)) ⟨hx, hb, hml, hown, hts⟩ hK (c_X8_book l D cy β2 X2_0 9 1 1 11 1 hE2.ok) (cwV 5 hts (kIn kv_book) rfl rfl rfl (by decide +kernel) ⟨Nat.le_of_ble_eq_true rfl, Nat.le_of_ble_eq_true rfl⟩) (TR.mk0 hR2) rfl hR2 rfl hl.1 rfl (Nat.le_of_ble_eq_true rfl) dL_rides_484 (Nat.le_of_ble_eq_true rfl) (Nat.le_of_ble_eq_true rfl)) hS (TA_le hb2) (fun H locs hR2 hz9 hfr hS => ?_)
  have hR := TR.keepT hR hb2 hfr
  replace hzl := Nat.le_trans hzl hz9
  obtain ⟨a9, T2_1, hE2, hk2⟩ := eH_book hE2 hk2
  rw [a9]
  generalize (p_X8_book X2_0 9 1 1 11 1).2 = X2_1 at hR2 hE2
  clear hfr hz9 a9
  refine lv_if_ne (tgt := 581) hx hb dL_rides_487 (by decide) (fun c => absurd c (by decide)) (fun _ => ?_)
  refine lv_aload_n hx hb dL_rides_490 rfl (lv_at hl 0 rfl) ?_
  refine lv_iconst (v := 0) hx hb dL_rides_491 (by decide) ?_
  refine lv_iconst (v := 0) hx hb dL_rides_492 (by decide) ?_
  refine gm_ci (gm_call (As := [.int 0, .int 0]) (rest := []) (ci := 8) (q := (RX8, TX8, 8)) ⟨hx, hb, hml, hown, hts⟩ hK (c_X8_fate l D cy β2 X2_1 0 0 ) (cwV 2 hts (kIn kv_fate) rfl rfl rfl (by decide +kernel) ⟨Nat.le_of_ble_eq_true rfl, Nat.le_of_ble_eq_true rfl⟩) (TR.mk0 hR2) rfl hR2 rfl hl.1 rfl (Nat.le_of_ble_eq_true rfl) dL_rides_493 (Nat.le_of_ble_eq_true rfl) (Nat.le_of_ble_eq_true rfl)) hS (TA_le hb2) (fun H locs hR2 hz9 hfr hS => ?_)
  have hR := TR.keepT hR hb2 hfr
  replace hzl := Nat.le_trans hzl hz9
  obtain ⟨a9, hE2, hk2⟩ := e_fateF hE2 hk2
  rw [a9]
  generalize (p_X8_fate X2_1 0 0).2 = X2_2 at hR2 hE2
  clear hfr hz9 a9
  refine lv_iconst (v := 3) hx hb dL_rides_496 (by decide) ?_
  refine lv_icmp_ne (tgt := 581) hx hb dL_rides_497 (by decide) (fun c => absurd c (by decide)) (fun _ => ?_)
  refine lv_aload_n hx hb dL_rides_500 rfl (lv_at hl 0 rfl) ?_
  refine lv_iconst (v := 0) hx hb dL_rides_501 (by decide) ?_
  refine lv_iconst (v := 1) hx hb dL_rides_502 (by decide) ?_
  refine gm_ci (gm_call (As := [.int 0, .int 1]) (rest := []) (ci := 8) (q := (RX8, TX8, 8)) ⟨hx, hb, hml, hown, hts⟩ hK (c_X8_fate l D cy β2 X2_2 0 1 ) (cwV 2 hts (kIn kv_fate) rfl rfl rfl (by decide +kernel) ⟨Nat.le_of_ble_eq_true rfl, Nat.le_of_ble_eq_true rfl⟩) (TR.mk0 hR2) rfl hR2 rfl hl.1 rfl (Nat.le_of_ble_eq_true rfl) dL_rides_503 (Nat.le_of_ble_eq_true rfl) (Nat.le_of_ble_eq_true rfl)) hS (TA_le hb2) (fun H locs hR2 hz9 hfr hS => ?_)
  have hR := TR.keepT hR hb2 hfr
  replace hzl := Nat.le_trans hzl hz9
  obtain ⟨a9, hE2, hk2⟩ := e_fateF hE2 hk2
  rw [a9]
  generalize (p_X8_fate X2_2 0 1).2 = X2_3 at hR2 hE2
  clear hfr hz9 a9
  refine lv_bipush (v := 10) hx hb dL_rides_506 (by decide) ?_
  refine lv_icmp_ne (tgt := 581) hx hb dL_rides_508 (by decide) (fun c => absurd c (by decide)) (fun _ => ?_)
  refine lv_aload_n hx hb dL_rides_511 rfl (lv_at hl 0 rfl) ?_
  refine lv_iconst (v := 1) hx hb dL_rides_512 (by decide) ?_
  refine gm_ci (gm_call (As := [.int 1]) (rest := []) (ci := 8) (q := (RX8, TX8, 8)) ⟨hx, hb, hml, hown, hts⟩ hK (c_X8_tick l D cy β2 X2_3 1 hE2.ok) (cwV 1 hts (kIn kv_tick) rfl rfl rfl (by decide +kernel) ⟨Nat.le_of_ble_eq_true rfl, Nat.le_of_ble_eq_true rfl⟩) (TR.mk0 hR2) rfl hR2 rfl hl.1 rfl (Nat.le_of_ble_eq_true rfl) dL_rides_513 (Nat.le_of_ble_eq_true rfl) (Nat.le_of_ble_eq_true rfl)) hS (TA_le hb2) (fun H locs hR2 hz9 hfr hS => ?_)
  have hR := TR.keepT hR hb2 hfr
  replace hzl := Nat.le_trans hzl hz9
  obtain ⟨a9, T2_4, hE2, hk2⟩ := e_tickW hE2 hk2
  rw [a9]
  generalize (p_X8_tick X2_3 1).2 = X2_4 at hR2 hE2
  clear hfr hz9 a9
  refine lv_if_ne (tgt := 581) hx hb dL_rides_516 (by decide) (fun c => absurd c (by decide)) (fun _ => ?_)
  refine lv_aload_n hx hb dL_rides_519 rfl (lv_at hl 0 rfl) ?_
  refine lv_iconst (v := 0) hx hb dL_rides_520 (by decide) ?_
  refine lv_bipush (v := 8) hx hb dL_rides_521 (by decide) ?_
  refine gm_ci (gm_call (As := [.int 0, .int 8]) (rest := []) (ci := 8) (q := (RX8, TX8, 8)) ⟨hx, hb, hml, hown, hts⟩ hK (c_X8_ticket l D cy β2 X2_4 0 8 ) (cwV 2 hts (kIn kv_ticket) rfl rfl rfl (by decide +kernel) ⟨Nat.le_of_ble_eq_true rfl, Nat.le_of_ble_eq_true rfl⟩) (TR.mk0 hR2) rfl hR2 rfl hl.1 rfl (Nat.le_of_ble_eq_true rfl) dL_rides_523 (Nat.le_of_ble_eq_true rfl) (Nat.le_of_ble_eq_true rfl)) hS (fun _ h => h.elim) (fun H locs _ hz9 hfr hS => ?_)
  have hR := gRep.keep hR hfr (fun _ _ h => h)
  have hR2 := gRep.keep hR2 hfr (fun _ _ h => h)
  replace hzl := Nat.le_trans hzl hz9
  obtain ⟨a9, hk2⟩ := e_ticket hE2 hk2
  rw [a9]
  clear hfr hz9 a9
  refine lv_iconst (v := 3) hx hb dL_rides_526 (by decide) ?_
  refine lv_icmp_ne (tgt := 581) hx hb dL_rides_527 (by decide) (fun c => absurd c (by decide)) (fun _ => ?_)
  refine lv_aload_n hx hb dL_rides_530 rfl (lv_at hl 0 rfl) ?_
  refine lv_iconst (v := 3) hx hb dL_rides_531 (by decide) ?_
  refine gm_ci (gm_call (As := [.int 3]) (rest := []) (ci := 8) (q := (RX8, TX8, 8)) ⟨hx, hb, hml, hown, hts⟩ hK (c_X8_tick l D cy β2 X2_4 3 hE2.ok) (cwV 1 hts (kIn kv_tick) rfl rfl rfl (by decide +kernel) ⟨Nat.le_of_ble_eq_true rfl, Nat.le_of_ble_eq_true rfl⟩) (TR.mk0 hR2) rfl hR2 rfl hl.1 rfl (Nat.le_of_ble_eq_true rfl) dL_rides_532 (Nat.le_of_ble_eq_true rfl) (Nat.le_of_ble_eq_true rfl)) hS (TA_le hb2) (fun H locs hR2 hz9 hfr hS => ?_)
  have hR := TR.keepT hR hb2 hfr
  replace hzl := Nat.le_trans hzl hz9
  obtain ⟨a9, T2_5, hE2, hk2⟩ := e_tickW hE2 hk2
  rw [a9]
  generalize (p_X8_tick X2_4 3).2 = X2_5 at hR2 hE2
  clear hfr hz9 a9
  refine lv_if_ne (tgt := 581) hx hb dL_rides_535 (by decide) (fun c => absurd c (by decide)) (fun _ => ?_)
  refine lv_aload_n hx hb dL_rides_538 rfl (lv_at hl 0 rfl) ?_
  refine lv_iconst (v := 0) hx hb dL_rides_539 (by decide) ?_
  refine lv_bipush (v := 6) hx hb dL_rides_540 (by decide) ?_
  refine gm_ci (gm_call (As := [.int 0, .int 6]) (rest := []) (ci := 8) (q := (RX8, TX8, 8)) ⟨hx, hb, hml, hown, hts⟩ hK (c_X8_ticket l D cy β2 X2_5 0 6 ) (cwV 2 hts (kIn kv_ticket) rfl rfl rfl (by decide +kernel) ⟨Nat.le_of_ble_eq_true rfl, Nat.le_of_ble_eq_true rfl⟩) (TR.mk0 hR2) rfl hR2 rfl hl.1 rfl (Nat.le_of_ble_eq_true rfl) dL_rides_542 (Nat.le_of_ble_eq_true rfl) (Nat.le_of_ble_eq_true rfl)) hS (fun _ h => h.elim) (fun H locs _ hz9 hfr hS => ?_)
  have hR := gRep.keep hR hfr (fun _ _ h => h)
  have hR2 := gRep.keep hR2 hfr (fun _ _ h => h)
  replace hzl := Nat.le_trans hzl hz9
  obtain ⟨a9, hk2⟩ := e_ticket hE2 hk2
  rw [a9]
  clear hfr hz9 a9
  refine lv_iconst (v := 1) hx hb dL_rides_545 (by decide) ?_
  refine lv_icmp_ne (tgt := 581) hx hb dL_rides_546 (by decide) (fun c => absurd c (by decide)) (fun _ => ?_)
  refine lv_aload_n hx hb dL_rides_549 rfl (lv_at hl 0 rfl) ?_
  refine lv_iconst (v := 0) hx hb dL_rides_550 (by decide) ?_
  refine lv_bipush (v := 7) hx hb dL_rides_551 (by decide) ?_
  refine gm_ci (gm_call (As := [.int 0, .int 7]) (rest := []) (ci := 8) (q := (RX8, TX8, 8)) ⟨hx, hb, hml, hown, hts⟩ hK (c_X8_ticket l D cy β2 X2_5 0 7 ) (cwV 2 hts (kIn kv_ticket) rfl rfl rfl (by decide +kernel) ⟨Nat.le_of_ble_eq_true rfl, Nat.le_of_ble_eq_true rfl⟩) (TR.mk0 hR2) rfl hR2 rfl hl.1 rfl (Nat.le_of_ble_eq_true rfl) dL_rides_553 (Nat.le_of_ble_eq_true rfl) (Nat.le_of_ble_eq_true rfl)) hS (fun _ h => h.elim) (fun H locs _ hz9 hfr hS => ?_)
  have hR := gRep.keep hR hfr (fun _ _ h => h)
  have hR2 := gRep.keep hR2 hfr (fun _ _ h => h)
  replace hzl := Nat.le_trans hzl hz9
  obtain ⟨a9, hk2⟩ := e_ticket hE2 hk2
  rw [a9]
  clear hfr hz9 a9
  refine lv_iconst (v := 1) hx hb dL_rides_556 (by decide) ?_
  refine lv_icmp_ne (tgt := 581) hx hb dL_rides_557 (by decide) (fun c => absurd c (by decide)) (fun _ => ?_)
  refine lv_aload_n hx hb dL_rides_560 rfl (lv_at hl 0 rfl) ?_
  refine lv_iconst (v := 0) hx hb dL_rides_561 (by decide) ?_
  refine lv_bipush (v := 8) hx hb dL_rides_562 (by decide) ?_
  refine gm_ci (gm_call (As := [.int 0, .int 8]) (rest := []) (ci := 8) (q := (RX8, TX8, 8)) ⟨hx, hb, hml, hown, hts⟩ hK (c_X8_ticket l D cy β2 X2_5 0 8 ) (cwV 2 hts (kIn kv_ticket) rfl rfl rfl (by decide +kernel) ⟨Nat.le_of_ble_eq_true rfl, Nat.le_of_ble_eq_true rfl⟩) (TR.mk0 hR2) rfl hR2 rfl hl.1 rfl (Nat.le_of_ble_eq_true rfl) dL_rides_564 (Nat.le_of_ble_eq_true rfl) (Nat.le_of_ble_eq_true rfl)) hS (fun _ h => h.elim) (fun H locs _ hz9 hfr hS => ?_)
  have hR := gRep.keep hR hfr (fun _ _ h => h)
  have hR2 := gRep.keep hR2 hfr (fun _ _ h => h)
  replace hzl := Nat.le_trans hzl hz9
  obtain ⟨a9, hk2⟩ := e_ticket hE2 hk2
  rw [a9]
  clear hfr hz9 a9
  refine lv_iconst (v := 3) hx hb dL_rides_567 (by decide) ?_
  refine lv_icmp_ne (tgt := 581) hx hb dL_rides_568 (by decide) (fun c => absurd c (by decide)) (fun _ => ?_)
  refine lv_aload_n hx hb dL_rides_571 rfl (lv_at hl 0 rfl) ?_
  refine lv_iconst (v := 0) hx hb dL_rides_572 (by decide) ?_
  refine lv_bipush (v := 10) hx hb dL_rides_573 (by decide) ?_
  refine gm_ci (gm_call (As := [.int 0, .int 10]) (rest := []) (ci := 8) (q := (RX8, TX8, 8)) ⟨hx, hb, hml, hown, hts⟩ hK (c_X8_ticket l D cy β2 X2_5 0 10 ) (cwV 2 hts (kIn kv_ticket) rfl rfl rfl (by decide +kernel) ⟨Nat.le_of_ble_eq_true rfl, Nat.le_of_ble_eq_true rfl⟩) (TR.mk0 hR2) rfl hR2 rfl hl.1 rfl (Nat.le_of_ble_eq_true rfl) dL_rides_575 (Nat.le_of_ble_eq_true rfl) (Nat.le_of_ble_eq_true rfl)) hS (fun _ h => h.elim) (fun H locs _ hz9 hfr hS => ?_)
  have hR := gRep.keep hR hfr (fun _ _ h => h)
  have hR2 := gRep.keep hR2 hfr (fun _ _ h => h)
  replace hzl := Nat.le_trans hzl hz9
  obtain ⟨a9, hk2⟩ := e_ticket hE2 hk2
  rw [a9]
  clear hfr hz9 a9
  refine lv_if_eq (tgt := 583) hx hb dL_rides_578 (by decide) (fun _ => ?_) (fun c => absurd c (by decide))
  refine lv_aload_n hx hb dL_rides_583 rfl (lv_at hl 0 rfl) ?_
  refine lv_iconst (v := 0) hx hb dL_rides_584 (by decide) ?_
  refine lv_iconst (v := 0) hx hb dL_rides_585 (by decide) ?_
  refine lv_iconst (v := 0) hx hb dL_rides_586 (by decide) ?_
  refine lv_bipush (v := 10) hx hb dL_rides_587 (by decide) ?_
  refine lv_iconst (v := 3) hx hb dL_rides_589 (by decide) ?_
  refine gm_ci (gm_callS (As := [.ref β2, .int 0, .int 0, .int 0, .int 10, .int 3]) (rest := []) ⟨hx, hb, hml, hown, hts⟩ hK (c_L_isEvent l D cy β2 X2_5 0 0 0 10 3 ) (va_cwS 6 hts (kIn ks_isEvent) rfl rfl rfl (by decide +kernel) ⟨Nat.le_of_ble_eq_true rfl, Nat.le_of_ble_eq_true rfl⟩) hR2 rfl hl.1 rfl (Nat.le_of_ble_eq_true rfl) dL_rides_590 (Nat.le_of_ble_eq_true rfl) (Nat.le_of_ble_eq_true rfl)) hS (fun _ h => h.elim) (fun H locs _ hz9 hfr hS => ?_)
  have hR := gRep.keep hR hfr (fun _ _ h => h)
  have hR2 := gRep.keep hR2 hfr (fun _ _ h => h)
  replace hzl := Nat.le_trans hzl hz9
  obtain ⟨a9, hk2⟩ := e_isEvent hE2 hk2
  rw [a9]
  clear hfr hz9 a9
  refine lv_if_eq (tgt := 681) hx hb dL_rides_593 (by decide) (fun c => absurd c (by decide)) (fun _ => ?_)
  refine lv_aload_n hx hb dL_rides_596 rfl (lv_at hl 0 rfl) ?_
  refine lv_iconst (v := 1) hx hb dL_rides_597 (by decide) ?_
  refine lv_iconst (v := 3) hx hb dL_rides_598 (by decide) ?_
  refine lv_iconst (v := 0) hx hb dL_rides_599 (by decide) ?_
  refine lv_iconst (v := 0) hx hb dL_rides_600 (by decide) ?_
  refine lv_iconst (v := 3) hx hb dL_rides_601 (by decide) ?_
  refine gm_ci (gm_callS (As := [.ref β2, .int 1, .int 3, .int 0, .int 0, .int 3]) (rest := []) ⟨hx, hb, hml, hown, hts⟩ hK (c_L_isEvent l D cy β2 X2_5 1 3 0 0 3 ) (va_cwS 6 hts (kIn ks_isEvent) rfl rfl rfl (by decide +kernel) ⟨Nat.le_of_ble_eq_true rfl, Nat.le_of_ble_eq_true rfl⟩) hR2 rfl hl.1 rfl (Nat.le_of_ble_eq_true rfl) dL_rides_602 (Nat.le_of_ble_eq_true rfl) (Nat.le_of_ble_eq_true rfl)) hS (fun _ h => h.elim) (fun H locs _ hz9 hfr hS => ?_)
  have hR := gRep.keep hR hfr (fun _ _ h => h)
  have hR2 := gRep.keep hR2 hfr (fun _ _ h => h)
  replace hzl := Nat.le_trans hzl hz9
  obtain ⟨a9, hk2⟩ := e_isEvent hE2 hk2
  rw [a9]
  clear hfr hz9 a9
  refine lv_if_eq (tgt := 681) hx hb dL_rides_605 (by decide) (fun c => absurd c (by decide)) (fun _ => ?_)
  refine lv_aload_n hx hb dL_rides_608 rfl (lv_at hl 0 rfl) ?_
  refine lv_bipush (v := 10) hx hb dL_rides_609 (by decide) ?_
  refine lv_iconst (v := 3) hx hb dL_rides_611 (by decide) ?_
  refine gm_ci (gm_call (As := [.int 10, .int 3]) (rest := []) (ci := 8) (q := (RX8, TX8, 8)) ⟨hx, hb, hml, hown, hts⟩ hK (c_X8_station l D cy β2 X2_5 10 3 ) (cwV 2 hts (kIn kv_station) rfl rfl rfl (by decide +kernel) ⟨Nat.le_of_ble_eq_true rfl, Nat.le_of_ble_eq_true rfl⟩) (TR.mk0 hR2) rfl hR2 rfl hl.1 rfl (Nat.le_of_ble_eq_true rfl) dL_rides_612 (Nat.le_of_ble_eq_true rfl) (Nat.le_of_ble_eq_true rfl)) hS (fun _ h => h.elim) (fun H locs _ hz9 hfr hS => ?_)
  have hR := gRep.keep hR hfr (fun _ _ h => h)
  have hR2 := gRep.keep hR2 hfr (fun _ _ h => h)
  replace hzl := Nat.le_trans hzl hz9
  obtain ⟨a9, hk2⟩ := e_station hE2 hk2
  rw [a9]
  clear hfr hz9 a9
  refine lv_iconst (v := 1) hx hb dL_rides_615 (by decide) ?_
  refine lv_icmp_ne (tgt := 681) hx hb dL_rides_616 (by decide) (fun c => absurd c (by decide)) (fun _ => ?_)
  refine lv_aload_n hx hb dL_rides_619 rfl (lv_at hl 0 rfl) ?_
  refine lv_iconst (v := 1) hx hb dL_rides_620 (by decide) ?_
  refine lv_bipush (v := 6) hx hb dL_rides_621 (by decide) ?_
  refine gm_ci (gm_call (As := [.int 1, .int 6]) (rest := []) (ci := 8) (q := (RX8, TX8, 8)) ⟨hx, hb, hml, hown, hts⟩ hK (c_X8_line l D cy β2 X2_5 1 6 ) (cwV 2 hts (kIn kv_line) rfl rfl rfl (by decide +kernel) ⟨Nat.le_of_ble_eq_true rfl, Nat.le_of_ble_eq_true rfl⟩) (TR.mk0 hR2) rfl hR2 rfl hl.1 rfl (Nat.le_of_ble_eq_true rfl) dL_rides_623 (Nat.le_of_ble_eq_true rfl) (Nat.le_of_ble_eq_true rfl)) hS (fun _ h => h.elim) (fun H locs _ hz9 hfr hS => ?_)
  have hR := gRep.keep hR hfr (fun _ _ h => h)
  have hR2 := gRep.keep hR2 hfr (fun _ _ h => h)
  replace hzl := Nat.le_trans hzl hz9
  obtain ⟨a9, hk2⟩ := e_line hE2 hk2
  rw [a9]
  clear hfr hz9 a9
  refine lv_if_ne (tgt := 681) hx hb dL_rides_626 (by decide) (fun c => absurd c (by decide)) (fun _ => ?_)
  refine lv_aload_n hx hb dL_rides_629 rfl (lv_at hl 0 rfl) ?_
  refine lv_iconst (v := 5) hx hb dL_rides_630 (by decide) ?_
  refine gm_ci (gm_call (As := [.int 5]) (rest := []) (ci := 8) (q := (RX8, TX8, 8)) ⟨hx, hb, hml, hown, hts⟩ hK (c_X8_tick l D cy β2 X2_5 5 hE2.ok) (cwV 1 hts (kIn kv_tick) rfl rfl rfl (by decide +kernel) ⟨Nat.le_of_ble_eq_true rfl, Nat.le_of_ble_eq_true rfl⟩) (TR.mk0 hR2) rfl hR2 rfl hl.1 rfl (Nat.le_of_ble_eq_true rfl) dL_rides_631 (Nat.le_of_ble_eq_true rfl) (Nat.le_of_ble_eq_true rfl)) hS (TA_le hb2) (fun H locs hR2 hz9 hfr hS => ?_)
  have hR := TR.keepT hR hb2 hfr
  replace hzl := Nat.le_trans hzl hz9
  obtain ⟨a9, T2_6, hE2, hk2⟩ := e_tickW hE2 hk2
  rw [a9]
  generalize (p_X8_tick X2_5 5).2 = X2_6 at hR2 hE2
  clear hfr hz9 a9
  refine lv_if_ne (tgt := 681) hx hb dL_rides_634 (by decide) (fun c => absurd c (by decide)) (fun _ => ?_)
  refine lv_aload_n hx hb dL_rides_637 rfl (lv_at hl 0 rfl) ?_
  refine lv_iconst (v := 1) hx hb dL_rides_638 (by decide) ?_
  refine gm_ci (gm_call (As := [.int 1]) (rest := []) (ci := 8) (q := (RX8, TX8, 8)) ⟨hx, hb, hml, hown, hts⟩ hK (c_X8_tick l D cy β2 X2_6 1 hE2.ok) (cwV 1 hts (kIn kv_tick) rfl rfl rfl (by decide +kernel) ⟨Nat.le_of_ble_eq_true rfl, Nat.le_of_ble_eq_true rfl⟩) (TR.mk0 hR2) rfl hR2 rfl hl.1 rfl (Nat.le_of_ble_eq_true rfl) dL_rides_639 (Nat.le_of_ble_eq_true rfl) (Nat.le_of_ble_eq_true rfl)) hS (TA_le hb2) (fun H locs hR2 hz9 hfr hS => ?_)
  have hR := TR.keepT hR hb2 hfr
  replace hzl := Nat.le_trans hzl hz9
  obtain ⟨a9, T2_7, hE2, hk2⟩ := e_tickW hE2 hk2
  rw [a9]
  generalize (p_X8_tick X2_6 1).2 = X2_7 at hR2 hE2
  clear hfr hz9 a9
  refine lv_iconst (v := 1) hx hb dL_rides_642 (by decide) ?_
  refine lv_icmp_ne (tgt := 681) hx hb dL_rides_643 (by decide) (fun c => absurd c (by decide)) (fun _ => ?_)
  refine lv_aload_n hx hb dL_rides_646 rfl (lv_at hl 0 rfl) ?_
  refine lv_iconst (v := 0) hx hb dL_rides_647 (by decide) ?_
  refine lv_bipush (v := 11) hx hb dL_rides_648 (by decide) ?_
  refine gm_ci (gm_call (As := [.int 0, .int 11]) (rest := []) (ci := 8) (q := (RX8, TX8, 8)) ⟨hx, hb, hml, hown, hts⟩ hK (c_X8_ticket l D cy β2 X2_7 0 11 ) (cwV 2 hts (kIn kv_ticket) rfl rfl rfl (by decide +kernel) ⟨Nat.le_of_ble_eq_true rfl, Nat.le_of_ble_eq_true rfl⟩) (TR.mk0 hR2) rfl hR2 rfl hl.1 rfl (Nat.le_of_ble_eq_true rfl) dL_rides_650 (Nat.le_of_ble_eq_true rfl) (Nat.le_of_ble_eq_true rfl)) hS (fun _ h => h.elim) (fun H locs _ hz9 hfr hS => ?_)
  have hR := gRep.keep hR hfr (fun _ _ h => h)
  have hR2 := gRep.keep hR2 hfr (fun _ _ h => h)
  replace hzl := Nat.le_trans hzl hz9
  obtain ⟨a9, hk2⟩ := e_ticket hE2 hk2
  rw [a9]
  clear hfr hz9 a9
  refine lv_bipush (v := 9) hx hb dL_rides_653 (by decide) ?_
  refine lv_icmp_ne (tgt := 681) hx hb dL_rides_655 (by decide) (fun c => absurd c (by decide)) (fun _ => ?_)
  refine lv_aload_n hx hb dL_rides_658 rfl (lv_at hl 0 rfl) ?_
  refine lv_iconst (v := 0) hx hb dL_rides_659 (by decide) ?_
  refine lv_bipush (v := 12) hx hb dL_rides_660 (by decide) ?_
  refine gm_ci (gm_call (As := [.int 0, .int 12]) (rest := []) (ci := 8) (q := (RX8, TX8, 8)) ⟨hx, hb, hml, hown, hts⟩ hK (c_X8_ticket l D cy β2 X2_7 0 12 ) (cwV 2 hts (kIn kv_ticket) rfl rfl rfl (by decide +kernel) ⟨Nat.le_of_ble_eq_true rfl, Nat.le_of_ble_eq_true rfl⟩) (TR.mk0 hR2) rfl hR2 rfl hl.1 rfl (Nat.le_of_ble_eq_true rfl) dL_rides_662 (Nat.le_of_ble_eq_true rfl) (Nat.le_of_ble_eq_true rfl)) hS (fun _ h => h.elim) (fun H locs _ hz9 hfr hS => ?_)
  have hR := gRep.keep hR hfr (fun _ _ h => h)
  have hR2 := gRep.keep hR2 hfr (fun _ _ h => h)
  replace hzl := Nat.le_trans hzl hz9
  obtain ⟨a9, hk2⟩ := e_ticket hE2 hk2
  rw [a9]
  clear hfr hz9 a9
  refine lv_bipush (v := 11) hx hb dL_rides_665 (by decide) ?_
  refine lv_icmp_ne (tgt := 681) hx hb dL_rides_667 (by decide) (fun c => absurd c (by decide)) (fun _ => ?_)
  refine lv_aload_n hx hb dL_rides_670 rfl (lv_at hl 0 rfl) ?_
  refine lv_bipush (v := 18) hx hb dL_rides_671 (by decide) ?_
  refine gm_ci (gm_call (As := [.int 18]) (rest := []) (ci := 8) (q := (RX8, TX8, 8)) ⟨hx, hb, hml, hown, hts⟩ hK (c_X8_count l D cy β2 X2_7 18 ) (cwV 1 hts (kIn kv_count) rfl rfl rfl (by decide +kernel) ⟨Nat.le_of_ble_eq_true rfl, Nat.le_of_ble_eq_true rfl⟩) (TR.mk0 hR2) rfl hR2 rfl hl.1 rfl (Nat.le_of_ble_eq_true rfl) dL_rides_673 (Nat.le_of_ble_eq_true rfl) (Nat.le_of_ble_eq_true rfl)) hS (fun _ h => h.elim) (fun H locs _ hz9 hfr hS => ?_)
  have hR := gRep.keep hR hfr (fun _ _ h => h)
  have hR2 := gRep.keep hR2 hfr (fun _ _ h => h)
  replace hzl := Nat.le_trans hzl hz9
  obtain ⟨a9, hk2⟩ := e_count hE2 hk2
  rw [a9]
  clear hfr hz9 a9
  refine lv_bipush (v := 9) hx hb dL_rides_676 (by decide) ?_
  refine lv_icmp_eq (tgt := 683) hx hb dL_rides_678 (by decide) (fun _ => ?_) (fun c => absurd c (by decide))
  refine lv_aload_n hx hb dL_rides_683 rfl (lv_at hl 0 rfl) ?_
  refine lv_iconst (v := 1) hx hb dL_rides_684 (by decide) ?_
  refine lv_iconst (v := 0) hx hb dL_rides_685 (by decide) ?_
  refine gm_ci (gm_call (As := [.int 1, .int 0]) (rest := []) (ci := 8) (q := (RX8, TX8, 8)) ⟨hx, hb, hml, hown, hts⟩ hK (c_X8_slotIn l D cy β2 X2_7 1 0 ) (cwV 2 hts (kIn kv_slotIn) rfl rfl rfl (by decide +kernel) ⟨Nat.le_of_ble_eq_true rfl, Nat.le_of_ble_eq_true rfl⟩) (TR.mk0 hR2) rfl hR2 rfl hl.1 rfl (Nat.le_of_ble_eq_true rfl) dL_rides_686 (Nat.le_of_ble_eq_true rfl) (Nat.le_of_ble_eq_true rfl)) hS (TA_le hb2) (fun H locs hR2 hz9 hfr hS => ?_)
  have hR := TR.keepT hR hb2 hfr
  replace hzl := Nat.le_trans hzl hz9
  obtain ⟨a9, hE2, hk2⟩ := eN_slotIn hE2 hk2
  rw [a9]
  generalize (p_X8_slotIn X2_7 1 0).2 = X2_8 at hR2 hE2
  clear hfr hz9 a9
  refine lv_iconst (v := 5) hx hb dL_rides_689 (by decide) ?_
  refine lv_icmp_ne (tgt := 735) hx hb dL_rides_690 (by decide) (fun c => absurd c (by decide)) (fun _ => ?_)
  refine lv_aload_n hx hb dL_rides_693 rfl (lv_at hl 0 rfl) ?_
  refine lv_iconst (v := 1) hx hb dL_rides_694 (by decide) ?_
  refine lv_sipush (v := 300) hx hb dL_rides_695 (by decide) ?_
  refine gm_ci (gm_call (As := [.int 1, .int 300]) (rest := []) (ci := 8) (q := (RX8, TX8, 8)) ⟨hx, hb, hml, hown, hts⟩ hK (c_X8_slotIn l D cy β2 X2_8 1 300 ) (cwV 2 hts (kIn kv_slotIn) rfl rfl rfl (by decide +kernel) ⟨Nat.le_of_ble_eq_true rfl, Nat.le_of_ble_eq_true rfl⟩) (TR.mk0 hR2) rfl hR2 rfl hl.1 rfl (Nat.le_of_ble_eq_true rfl) dL_rides_698 (Nat.le_of_ble_eq_true rfl) (Nat.le_of_ble_eq_true rfl)) hS (TA_le hb2) (fun H locs hR2 hz9 hfr hS => ?_)
  have hR := TR.keepT hR hb2 hfr
  replace hzl := Nat.le_trans hzl hz9
  obtain ⟨a9, hE2, hk2⟩ := eN_slotIn hE2 hk2
  rw [a9]
  generalize (p_X8_slotIn X2_8 1 300).2 = X2_9 at hR2 hE2
  clear hfr hz9 a9
  refine lv_iconst (v := 1) hx hb dL_rides_701 (by decide) ?_
  refine lv_icmp_ne (tgt := 735) hx hb dL_rides_702 (by decide) (fun c => absurd c (by decide)) (fun _ => ?_)
  refine lv_aload_n hx hb dL_rides_705 rfl (lv_at hl 0 rfl) ?_
  refine lv_bipush (v := 11) hx hb dL_rides_706 (by decide) ?_
  refine lv_bipush (v := 7) hx hb dL_rides_708 (by decide) ?_
  refine gm_ci (gm_call (As := [.int 11, .int 7]) (rest := []) (ci := 8) (q := (RX8, TX8, 8)) ⟨hx, hb, hml, hown, hts⟩ hK (c_X8_slotIn l D cy β2 X2_9 11 7 ) (cwV 2 hts (kIn kv_slotIn) rfl rfl rfl (by decide +kernel) ⟨Nat.le_of_ble_eq_true rfl, Nat.le_of_ble_eq_true rfl⟩) (TR.mk0 hR2) rfl hR2 rfl hl.1 rfl (Nat.le_of_ble_eq_true rfl) dL_rides_710 (Nat.le_of_ble_eq_true rfl) (Nat.le_of_ble_eq_true rfl)) hS (TA_le hb2) (fun H locs hR2 hz9 hfr hS => ?_)
  have hR := TR.keepT hR hb2 hfr
  replace hzl := Nat.le_trans hzl hz9
  obtain ⟨a9, hE2, hk2⟩ := eN_slotIn hE2 hk2
  rw [a9]
  generalize (p_X8_slotIn X2_9 11 7).2 = X2_10 at hR2 hE2
  clear hfr hz9 a9
  refine lv_iconst (v := 3) hx hb dL_rides_713 (by decide) ?_
  refine lv_icmp_ne (tgt := 735) hx hb dL_rides_714 (by decide) (fun c => absurd c (by decide)) (fun _ => ?_)
  refine lv_aload_n hx hb dL_rides_717 rfl (lv_at hl 1 rfl) ?_
  refine gm_ci (gm_callS (As := [.ref β]) (rest := []) ⟨hx, hb, hml, hown, hts⟩ hK (c_L_refused l D cy β X1_23 T1_23 hE hk) (va_cwS 1 hts (kIn ks_refused) rfl rfl rfl (by decide +kernel) ⟨Nat.le_of_ble_eq_true rfl, Nat.le_of_ble_eq_true rfl⟩) hR rfl hl.1 rfl (Nat.le_of_ble_eq_true rfl) dL_rides_718 (Nat.le_of_ble_eq_true rfl) (Nat.le_of_ble_eq_true rfl)) hS TA_CA (fun H locs hR9 hz9 hfr hS => ?_)
  have hR2 := TR.keepL hR2 hb2 hfr
  replace hzl := Nat.le_trans hzl hz9
  clear hR9 hz9 hfr
  refine lv_if_eq (tgt := 735) hx hb dL_rides_721 (by decide) (fun c => absurd c (by decide)) (fun _ => ?_)
  refine lv_aload_n hx hb dL_rides_724 rfl (lv_at hl 0 rfl) ?_
  refine gm_ci (gm_callS (As := [.ref β2]) (rest := []) ⟨hx, hb, hml, hown, hts⟩ hK (c_L_refused l D cy β2 X2_10 T2_7 hE2 hk2) (va_cwS 1 hts (kIn ks_refused) rfl rfl rfl (by decide +kernel) ⟨Nat.le_of_ble_eq_true rfl, Nat.le_of_ble_eq_true rfl⟩) hR2 rfl hl.1 rfl (Nat.le_of_ble_eq_true rfl) dL_rides_725 (Nat.le_of_ble_eq_true rfl) (Nat.le_of_ble_eq_true rfl)) hS (TA_le hb2) (fun H locs hR9 hz9 hfr hS => ?_)
  replace hzl := Nat.le_trans hzl hz9
  clear hR9 hz9 hfr
  refine lv_if_eq (tgt := 735) hx hb dL_rides_728 (by decide) (fun c => absurd c (by decide)) (fun _ => ?_)
  refine lv_iconst (v := 1) hx hb dL_rides_731 (by decide) ?_
  refine lv_goto (tgt := 736) hx hb dL_rides_732 (by decide) ?_
  exact gm_zret hx hb hr hlocks rfl hS rfl trivial dL_rides_736
