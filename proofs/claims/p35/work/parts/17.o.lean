/-! orders -/
set_option maxHeartbeats 8000000 in
set_option maxRecDepth 100000 in
theorem c_L_orders (l : Launch) (D : va_G) (cy : Nat → ClassId) (β : Nat) : Met l yL_orders wsK_orders ({ frames := 8, cells := 872, slots := 8239, locals := 191 }) (gP [] D cy (fun H => H.size = β)) (gQi 1 (fun _ => True) (CA β)) 872 8239 (CA β) := by
  refine gm_metC (cc := cL_orders) (maxL := 1) (ret := (some .boolean)) [] (by decide) rfl (Nat.le_of_ble_eq_true rfl) ?_
  intro p e s m args below meth c0 ls C hin hz hl
  obtain ⟨hx, hb, hr, hts, hown, hlocks, hml, hK⟩ := C
  have hl : lv_has ls 1 [] := hl
  have hS : va_S (CA β) s.heap s.heap [] := va_S.rf
  refine gm_cqC (mc := 872) (ms := 8239) (gm_callSC (As := []) (rest := []) ⟨hx, hb, hml, hown, hts⟩ hK (c_L_built l D cy β _ ev_orders) (va_cwS 0 hts (kIn ks_built) rfl rfl rfl (by decide +kernel) ⟨Nat.le_of_ble_eq_true rfl, Nat.le_of_ble_eq_true rfl⟩) hz rfl hl.1 rfl (Nat.le_of_ble_eq_true rfl) dL_orders_0 (Nat.le_of_ble_eq_true rfl) (Nat.le_of_ble_eq_true rfl)) hS (fun _ h => h) (fun H locs hU _ hfr hS => ?_)
  clear hfr
  obtain ⟨X1_0, T1_0, hR, hzl, hE, hk⟩ := hU
  refine W.eq (g2 := F0 m 3 ls [.ref β]) rfl ?_
  refine lv_astore_n (lv' := [(0, .ref β)]) hx hb dL_orders_3 rfl hl (by decide) rfl (fun ls hl => ?_)
  refine lv_aload_n hx hb dL_orders_4 rfl (lv_at hl 0 rfl) ?_
  refine lv_iconst (v := 4) hx hb dL_orders_5 (by decide) ?_
  refine lv_iconst (v := 1) hx hb dL_orders_6 (by decide) ?_
  refine lv_iconst (v := 0) hx hb dL_orders_7 (by decide) ?_
  refine lv_iconst (v := 1) hx hb dL_orders_8 (by decide) ?_
  refine lv_iconst (v := 2) hx hb dL_orders_9 (by decide) ?_
  refine gm_ci (gm_call (As := [.int 4, .int 1, .int 0, .int 1, .int 2]) (rest := []) (ci := 8) (q := (RX8, TX8, 8)) ⟨hx, hb, hml, hown, hts⟩ hK (c_X8_book l D cy β X1_0 4 1 0 1 2 hE.ok) (cwV 5 hts (kIn kv_book) rfl rfl rfl (by decide +kernel) ⟨Nat.le_of_ble_eq_true rfl, Nat.le_of_ble_eq_true rfl⟩) (TR.mk0 hR) rfl hR rfl hl.1 rfl (Nat.le_of_ble_eq_true rfl) dL_orders_10 (Nat.le_of_ble_eq_true rfl) (Nat.le_of_ble_eq_true rfl)) hS TA_CA (fun H locs hR hz9 hfr hS => ?_)
  replace hzl := Nat.le_trans hzl hz9
  obtain ⟨a9, T1_1, hE, hk⟩ := eH_book hE hk
  rw [a9]
  generalize (p_X8_book X1_0 4 1 0 1 2).2 = X1_1 at hR hE
  clear hfr hz9 a9
  refine lv_if_ne (tgt := 108) hx hb dL_orders_13 (by decide) (fun c => absurd c (by decide)) (fun _ => ?_)
  refine lv_aload_n hx hb dL_orders_16 rfl (lv_at hl 0 rfl) ?_
  refine lv_iconst (v := 0) hx hb dL_orders_17 (by decide) ?_
  refine lv_iconst (v := 3) hx hb dL_orders_18 (by decide) ?_
  refine gm_ci (gm_call (As := [.int 0, .int 3]) (rest := []) (ci := 8) (q := (RX8, TX8, 8)) ⟨hx, hb, hml, hown, hts⟩ hK (c_X8_order l D cy β X1_1 0 3 hE.ok) (cwV 2 hts (kIn kv_order) rfl rfl rfl (by decide +kernel) ⟨Nat.le_of_ble_eq_true rfl, Nat.le_of_ble_eq_true rfl⟩) (TR.mk0 hR) rfl hR rfl hl.1 rfl (Nat.le_of_ble_eq_true rfl) dL_orders_19 (Nat.le_of_ble_eq_true rfl) (Nat.le_of_ble_eq_true rfl)) hS TA_CA (fun H locs hR hz9 hfr hS => ?_)
  replace hzl := Nat.le_trans hzl hz9
  obtain ⟨a9, T1_2, hE, hk⟩ := eH_order hE hk
  rw [a9]
  generalize (p_X8_order X1_1 0 3).2 = X1_2 at hR hE
  clear hfr hz9 a9
  refine lv_if_ne (tgt := 108) hx hb dL_orders_22 (by decide) (fun c => absurd c (by decide)) (fun _ => ?_)
  refine lv_aload_n hx hb dL_orders_25 rfl (lv_at hl 0 rfl) ?_
  refine lv_bipush (v := 7) hx hb dL_orders_26 (by decide) ?_
  refine gm_ci (gm_call (As := [.int 7]) (rest := []) (ci := 8) (q := (RX8, TX8, 8)) ⟨hx, hb, hml, hown, hts⟩ hK (c_X8_setFare l D cy β X1_2 7 hE.ok) (cwV 1 hts (kIn kv_setFare) rfl rfl rfl (by decide +kernel) ⟨Nat.le_of_ble_eq_true rfl, Nat.le_of_ble_eq_true rfl⟩) (TR.mk0 hR) rfl hR rfl hl.1 rfl (Nat.le_of_ble_eq_true rfl) dL_orders_28 (Nat.le_of_ble_eq_true rfl) (Nat.le_of_ble_eq_true rfl)) hS TA_CA (fun H locs hR hz9 hfr hS => ?_)
  replace hzl := Nat.le_trans hzl hz9
  obtain ⟨a9, T1_3, hE, hk⟩ := eH_setFare hE hk
  rw [a9]
  generalize (p_X8_setFare X1_2 7).2 = X1_3 at hR hE
  clear hfr hz9 a9
  refine lv_bipush (v := 10) hx hb dL_orders_31 (by decide) ?_
  refine lv_icmp_ne (tgt := 108) hx hb dL_orders_33 (by decide) (fun c => absurd c (by decide)) (fun _ => ?_)
  refine lv_aload_n hx hb dL_orders_36 rfl (lv_at hl 0 rfl) ?_
  refine lv_iconst (v := 1) hx hb dL_orders_37 (by decide) ?_
  refine gm_ci (gm_call (As := [.int 1]) (rest := []) (ci := 8) (q := (RX8, TX8, 8)) ⟨hx, hb, hml, hown, hts⟩ hK (c_X8_tick l D cy β X1_3 1 hE.ok) (cwV 1 hts (kIn kv_tick) rfl rfl rfl (by decide +kernel) ⟨Nat.le_of_ble_eq_true rfl, Nat.le_of_ble_eq_true rfl⟩) (TR.mk0 hR) rfl hR rfl hl.1 rfl (Nat.le_of_ble_eq_true rfl) dL_orders_38 (Nat.le_of_ble_eq_true rfl) (Nat.le_of_ble_eq_true rfl)) hS TA_CA (fun H locs hR hz9 hfr hS => ?_)
  replace hzl := Nat.le_trans hzl hz9
  obtain ⟨a9, T1_4, hE, hk⟩ := e_tickW hE hk
  rw [a9]
  generalize (p_X8_tick X1_3 1).2 = X1_4 at hR hE
  clear hfr hz9 a9
  refine lv_if_ne (tgt := 108) hx hb dL_orders_41 (by decide) (fun c => absurd c (by decide)) (fun _ => ?_)
  refine lv_aload_n hx hb dL_orders_44 rfl (lv_at hl 0 rfl) ?_
  refine lv_iconst (v := 1) hx hb dL_orders_45 (by decide) ?_
  refine gm_ci (gm_call (As := [.int 1]) (rest := []) (ci := 8) (q := (RX8, TX8, 8)) ⟨hx, hb, hml, hown, hts⟩ hK (c_X8_count l D cy β X1_4 1 ) (cwV 1 hts (kIn kv_count) rfl rfl rfl (by decide +kernel) ⟨Nat.le_of_ble_eq_true rfl, Nat.le_of_ble_eq_true rfl⟩) (TR.mk0 hR) rfl hR rfl hl.1 rfl (Nat.le_of_ble_eq_true rfl) dL_orders_46 (Nat.le_of_ble_eq_true rfl) (Nat.le_of_ble_eq_true rfl)) hS (fun _ h => h.elim) (fun H locs _ hz9 hfr hS => ?_)
  have hR := gRep.keep hR hfr (fun _ _ h => h)
  replace hzl := Nat.le_trans hzl hz9
  obtain ⟨a9, hk⟩ := e_count hE hk
  rw [a9]
  clear hfr hz9 a9
  refine lv_iconst (v := 2) hx hb dL_orders_49 (by decide) ?_
  refine lv_icmp_ne (tgt := 108) hx hb dL_orders_50 (by decide) (fun c => absurd c (by decide)) (fun _ => ?_)
  refine lv_aload_n hx hb dL_orders_53 rfl (lv_at hl 0 rfl) ?_
  refine lv_iconst (v := 1) hx hb dL_orders_54 (by decide) ?_
  refine lv_iconst (v := 5) hx hb dL_orders_55 (by decide) ?_
  refine gm_ci (gm_call (As := [.int 1, .int 5]) (rest := []) (ci := 8) (q := (RX8, TX8, 8)) ⟨hx, hb, hml, hown, hts⟩ hK (c_X8_ticket l D cy β X1_4 1 5 ) (cwV 2 hts (kIn kv_ticket) rfl rfl rfl (by decide +kernel) ⟨Nat.le_of_ble_eq_true rfl, Nat.le_of_ble_eq_true rfl⟩) (TR.mk0 hR) rfl hR rfl hl.1 rfl (Nat.le_of_ble_eq_true rfl) dL_orders_56 (Nat.le_of_ble_eq_true rfl) (Nat.le_of_ble_eq_true rfl)) hS (fun _ h => h.elim) (fun H locs _ hz9 hfr hS => ?_)
  have hR := gRep.keep hR hfr (fun _ _ h => h)
  replace hzl := Nat.le_trans hzl hz9
  obtain ⟨a9, hk⟩ := e_ticket hE hk
  rw [a9]
  clear hfr hz9 a9
  refine lv_bipush (v := 14) hx hb dL_orders_59 (by decide) ?_
  refine lv_icmp_ne (tgt := 108) hx hb dL_orders_61 (by decide) (fun c => absurd c (by decide)) (fun _ => ?_)
  refine lv_aload_n hx hb dL_orders_64 rfl (lv_at hl 0 rfl) ?_
  refine lv_iconst (v := 1) hx hb dL_orders_65 (by decide) ?_
  refine lv_bipush (v := 9) hx hb dL_orders_66 (by decide) ?_
  refine gm_ci (gm_call (As := [.int 1, .int 9]) (rest := []) (ci := 8) (q := (RX8, TX8, 8)) ⟨hx, hb, hml, hown, hts⟩ hK (c_X8_ticket l D cy β X1_4 1 9 ) (cwV 2 hts (kIn kv_ticket) rfl rfl rfl (by decide +kernel) ⟨Nat.le_of_ble_eq_true rfl, Nat.le_of_ble_eq_true rfl⟩) (TR.mk0 hR) rfl hR rfl hl.1 rfl (Nat.le_of_ble_eq_true rfl) dL_orders_68 (Nat.le_of_ble_eq_true rfl) (Nat.le_of_ble_eq_true rfl)) hS (fun _ h => h.elim) (fun H locs _ hz9 hfr hS => ?_)
  have hR := gRep.keep hR hfr (fun _ _ h => h)
  replace hzl := Nat.le_trans hzl hz9
  obtain ⟨a9, hk⟩ := e_ticket hE hk
  rw [a9]
  clear hfr hz9 a9
  refine lv_if_ne (tgt := 108) hx hb dL_orders_71 (by decide) (fun c => absurd c (by decide)) (fun _ => ?_)
  refine lv_aload_n hx hb dL_orders_74 rfl (lv_at hl 0 rfl) ?_
  refine lv_iconst (v := 2) hx hb dL_orders_75 (by decide) ?_
  refine gm_ci (gm_call (As := [.int 2]) (rest := []) (ci := 8) (q := (RX8, TX8, 8)) ⟨hx, hb, hml, hown, hts⟩ hK (c_X8_tick l D cy β X1_4 2 hE.ok) (cwV 1 hts (kIn kv_tick) rfl rfl rfl (by decide +kernel) ⟨Nat.le_of_ble_eq_true rfl, Nat.le_of_ble_eq_true rfl⟩) (TR.mk0 hR) rfl hR rfl hl.1 rfl (Nat.le_of_ble_eq_true rfl) dL_orders_76 (Nat.le_of_ble_eq_true rfl) (Nat.le_of_ble_eq_true rfl)) hS TA_CA (fun H locs hR hz9 hfr hS => ?_)
  replace hzl := Nat.le_trans hzl hz9
  obtain ⟨a9, T1_5, hE, hk⟩ := e_tickW hE hk
  rw [a9]
  generalize (p_X8_tick X1_4 2).2 = X1_5 at hR hE
  clear hfr hz9 a9
  refine lv_if_ne (tgt := 108) hx hb dL_orders_79 (by decide) (fun c => absurd c (by decide)) (fun _ => ?_)
  refine lv_aload_n hx hb dL_orders_82 rfl (lv_at hl 0 rfl) ?_
  refine lv_iconst (v := 1) hx hb dL_orders_83 (by decide) ?_
  refine gm_ci (gm_call (As := [.int 1]) (rest := []) (ci := 8) (q := (RX8, TX8, 8)) ⟨hx, hb, hml, hown, hts⟩ hK (c_X8_count l D cy β X1_5 1 ) (cwV 1 hts (kIn kv_count) rfl rfl rfl (by decide +kernel) ⟨Nat.le_of_ble_eq_true rfl, Nat.le_of_ble_eq_true rfl⟩) (TR.mk0 hR) rfl hR rfl hl.1 rfl (Nat.le_of_ble_eq_true rfl) dL_orders_84 (Nat.le_of_ble_eq_true rfl) (Nat.le_of_ble_eq_true rfl)) hS (fun _ h => h.elim) (fun H locs _ hz9 hfr hS => ?_)
  have hR := gRep.keep hR hfr (fun _ _ h => h)
  replace hzl := Nat.le_trans hzl hz9
  obtain ⟨a9, hk⟩ := e_count hE hk
  rw [a9]
  clear hfr hz9 a9
  refine lv_iconst (v := 2) hx hb dL_orders_87 (by decide) ?_
  refine lv_icmp_ne (tgt := 108) hx hb dL_orders_88 (by decide) (fun c => absurd c (by decide)) (fun _ => ?_)
  refine lv_aload_n hx hb dL_orders_91 rfl (lv_at hl 0 rfl) ?_
  refine lv_iconst (v := 1) hx hb dL_orders_92 (by decide) ?_
  refine gm_ci (gm_call (As := [.int 1]) (rest := []) (ci := 8) (q := (RX8, TX8, 8)) ⟨hx, hb, hml, hown, hts⟩ hK (c_X8_tick l D cy β X1_5 1 hE.ok) (cwV 1 hts (kIn kv_tick) rfl rfl rfl (by decide +kernel) ⟨Nat.le_of_ble_eq_true rfl, Nat.le_of_ble_eq_true rfl⟩) (TR.mk0 hR) rfl hR rfl hl.1 rfl (Nat.le_of_ble_eq_true rfl) dL_orders_93 (Nat.le_of_ble_eq_true rfl) (Nat.le_of_ble_eq_true rfl)) hS TA_CA (fun H locs hR hz9 hfr hS => ?_)
  replace hzl := Nat.le_trans hzl hz9
  obtain ⟨a9, T1_6, hE, hk⟩ := e_tickW hE hk
  rw [a9]
  generalize (p_X8_tick X1_5 1).2 = X1_6 at hR hE
  clear hfr hz9 a9
  refine lv_if_ne (tgt := 108) hx hb dL_orders_96 (by decide) (fun c => absurd c (by decide)) (fun _ => ?_)
  refine lv_aload_n hx hb dL_orders_99 rfl (lv_at hl 0 rfl) ?_
  refine lv_iconst (v := 1) hx hb dL_orders_100 (by decide) ?_
  refine gm_ci (gm_call (As := [.int 1]) (rest := []) (ci := 8) (q := (RX8, TX8, 8)) ⟨hx, hb, hml, hown, hts⟩ hK (c_X8_count l D cy β X1_6 1 ) (cwV 1 hts (kIn kv_count) rfl rfl rfl (by decide +kernel) ⟨Nat.le_of_ble_eq_true rfl, Nat.le_of_ble_eq_true rfl⟩) (TR.mk0 hR) rfl hR rfl hl.1 rfl (Nat.le_of_ble_eq_true rfl) dL_orders_101 (Nat.le_of_ble_eq_true rfl) (Nat.le_of_ble_eq_true rfl)) hS (fun _ h => h.elim) (fun H locs _ hz9 hfr hS => ?_)
  have hR := gRep.keep hR hfr (fun _ _ h => h)
  replace hzl := Nat.le_trans hzl hz9
  obtain ⟨a9, hk⟩ := e_count hE hk
  rw [a9]
  clear hfr hz9 a9
  refine lv_iconst (v := 3) hx hb dL_orders_104 (by decide) ?_
  refine lv_icmp_eq (tgt := 110) hx hb dL_orders_105 (by decide) (fun _ => ?_) (fun c => absurd c (by decide))
  refine lv_aload_n hx hb dL_orders_110 rfl (lv_at hl 0 rfl) ?_
  refine lv_iconst (v := 0) hx hb dL_orders_111 (by decide) ?_
  refine lv_iconst (v := 2) hx hb dL_orders_112 (by decide) ?_
  refine gm_ci (gm_call (As := [.int 0, .int 2]) (rest := []) (ci := 8) (q := (RX8, TX8, 8)) ⟨hx, hb, hml, hown, hts⟩ hK (c_X8_ordered l D cy β X1_6 0 2 ) (cwV 2 hts (kIn kv_ordered) rfl rfl rfl (by decide +kernel) ⟨Nat.le_of_ble_eq_true rfl, Nat.le_of_ble_eq_true rfl⟩) (TR.mk0 hR) rfl hR rfl hl.1 rfl (Nat.le_of_ble_eq_true rfl) dL_orders_113 (Nat.le_of_ble_eq_true rfl) (Nat.le_of_ble_eq_true rfl)) hS (fun _ h => h.elim) (fun H locs _ hz9 hfr hS => ?_)
  have hR := gRep.keep hR hfr (fun _ _ h => h)
  replace hzl := Nat.le_trans hzl hz9
  obtain ⟨a9, hk⟩ := e_ordered hE hk
  rw [a9]
  clear hfr hz9 a9
  refine lv_iconst (v := 2) hx hb dL_orders_116 (by decide) ?_
  refine lv_icmp_ne (tgt := 210) hx hb dL_orders_117 (by decide) (fun c => absurd c (by decide)) (fun _ => ?_)
  refine lv_aload_n hx hb dL_orders_120 rfl (lv_at hl 0 rfl) ?_
  refine lv_iconst (v := 0) hx hb dL_orders_121 (by decide) ?_
  refine lv_iconst (v := 3) hx hb dL_orders_122 (by decide) ?_
  refine gm_ci (gm_call (As := [.int 0, .int 3]) (rest := []) (ci := 8) (q := (RX8, TX8, 8)) ⟨hx, hb, hml, hown, hts⟩ hK (c_X8_ordered l D cy β X1_6 0 3 ) (cwV 2 hts (kIn kv_ordered) rfl rfl rfl (by decide +kernel) ⟨Nat.le_of_ble_eq_true rfl, Nat.le_of_ble_eq_true rfl⟩) (TR.mk0 hR) rfl hR rfl hl.1 rfl (Nat.le_of_ble_eq_true rfl) dL_orders_123 (Nat.le_of_ble_eq_true rfl) (Nat.le_of_ble_eq_true rfl)) hS (fun _ h => h.elim) (fun H locs _ hz9 hfr hS => ?_)
  have hR := gRep.keep hR hfr (fun _ _ h => h)
  replace hzl := Nat.le_trans hzl hz9
  obtain ⟨a9, hk⟩ := e_ordered hE hk
  rw [a9]
  clear hfr hz9 a9
  refine lv_if_ne (tgt := 210) hx hb dL_orders_126 (by decide) (fun c => absurd c (by decide)) (fun _ => ?_)
  refine lv_aload_n hx hb dL_orders_129 rfl (lv_at hl 0 rfl) ?_
  refine lv_iconst (v := 1) hx hb dL_orders_130 (by decide) ?_
  refine lv_iconst (v := 1) hx hb dL_orders_131 (by decide) ?_
  refine gm_ci (gm_call (As := [.int 1, .int 1]) (rest := []) (ci := 8) (q := (RX8, TX8, 8)) ⟨hx, hb, hml, hown, hts⟩ hK (c_X8_order l D cy β X1_6 1 1 hE.ok) (cwV 2 hts (kIn kv_order) rfl rfl rfl (by decide +kernel) ⟨Nat.le_of_ble_eq_true rfl, Nat.le_of_ble_eq_true rfl⟩) (TR.mk0 hR) rfl hR rfl hl.1 rfl (Nat.le_of_ble_eq_true rfl) dL_orders_132 (Nat.le_of_ble_eq_true rfl) (Nat.le_of_ble_eq_true rfl)) hS TA_CA (fun H locs hR hz9 hfr hS => ?_)
  replace hzl := Nat.le_trans hzl hz9
  obtain ⟨a9, T1_7, hE, hk⟩ := eH_order hE hk
  rw [a9]
  generalize (p_X8_order X1_6 1 1).2 = X1_7 at hR hE
  clear hfr hz9 a9
  refine lv_iconst (v := 1) hx hb dL_orders_135 (by decide) ?_
  refine lv_icmp_ne (tgt := 210) hx hb dL_orders_136 (by decide) (fun c => absurd c (by decide)) (fun _ => ?_)
  refine lv_aload_n hx hb dL_orders_139 rfl (lv_at hl 0 rfl) ?_
  refine lv_bipush (v := 40) hx hb dL_orders_140 (by decide) ?_
  refine gm_ci (gm_call (As := [.int 40]) (rest := []) (ci := 8) (q := (RX8, TX8, 8)) ⟨hx, hb, hml, hown, hts⟩ hK (c_X8_tick l D cy β X1_7 40 hE.ok) (cwV 1 hts (kIn kv_tick) rfl rfl rfl (by decide +kernel) ⟨Nat.le_of_ble_eq_true rfl, Nat.le_of_ble_eq_true rfl⟩) (TR.mk0 hR) rfl hR rfl hl.1 rfl (Nat.le_of_ble_eq_true rfl) dL_orders_142 (Nat.le_of_ble_eq_true rfl) (Nat.le_of_ble_eq_true rfl)) hS TA_CA (fun H locs hR hz9 hfr hS => ?_)
  replace hzl := Nat.le_trans hzl hz9
  obtain ⟨a9, T1_8, hE, hk⟩ := e_tickW hE hk
  rw [a9]
  generalize (p_X8_tick X1_7 40).2 = X1_8 at hR hE
  clear hfr hz9 a9
  refine lv_if_lt (tgt := 210) hx hb dL_orders_145 (by decide) (fun c => absurd c (by decide)) (fun _ => ?_)
  refine lv_aload_n hx hb dL_orders_148 rfl (lv_at hl 0 rfl) ?_
  refine lv_iconst (v := 1) hx hb dL_orders_149 (by decide) ?_
  refine gm_ci (gm_call (As := [.int 1]) (rest := []) (ci := 8) (q := (RX8, TX8, 8)) ⟨hx, hb, hml, hown, hts⟩ hK (c_X8_count l D cy β X1_8 1 ) (cwV 1 hts (kIn kv_count) rfl rfl rfl (by decide +kernel) ⟨Nat.le_of_ble_eq_true rfl, Nat.le_of_ble_eq_true rfl⟩) (TR.mk0 hR) rfl hR rfl hl.1 rfl (Nat.le_of_ble_eq_true rfl) dL_orders_150 (Nat.le_of_ble_eq_true rfl) (Nat.le_of_ble_eq_true rfl)) hS (fun _ h => h.elim) (fun H locs _ hz9 hfr hS => ?_)
  have hR := gRep.keep hR hfr (fun _ _ h => h)
  replace hzl := Nat.le_trans hzl hz9
  obtain ⟨a9, hk⟩ := e_count hE hk
  rw [a9]
  clear hfr hz9 a9
  refine lv_bipush (v := 40) hx hb dL_orders_153 (by decide) ?_
  refine lv_icmp_ne (tgt := 210) hx hb dL_orders_155 (by decide) (fun c => absurd c (by decide)) (fun _ => ?_)
  refine lv_aload_n hx hb dL_orders_158 rfl (lv_at hl 0 rfl) ?_
  refine lv_iconst (v := 0) hx hb dL_orders_159 (by decide) ?_
  refine lv_iconst (v := 2) hx hb dL_orders_160 (by decide) ?_
  refine gm_ci (gm_call (As := [.int 0, .int 2]) (rest := []) (ci := 8) (q := (RX8, TX8, 8)) ⟨hx, hb, hml, hown, hts⟩ hK (c_X8_ordered l D cy β X1_8 0 2 ) (cwV 2 hts (kIn kv_ordered) rfl rfl rfl (by decide +kernel) ⟨Nat.le_of_ble_eq_true rfl, Nat.le_of_ble_eq_true rfl⟩) (TR.mk0 hR) rfl hR rfl hl.1 rfl (Nat.le_of_ble_eq_true rfl) dL_orders_161 (Nat.le_of_ble_eq_true rfl) (Nat.le_of_ble_eq_true rfl)) hS (fun _ h => h.elim) (fun H locs _ hz9 hfr hS => ?_)
  have hR := gRep.keep hR hfr (fun _ _ h => h)
  replace hzl := Nat.le_trans hzl hz9
  obtain ⟨a9, hk⟩ := e_ordered hE hk
  rw [a9]
  clear hfr hz9 a9
  refine lv_aload_n hx hb dL_orders_164 rfl (lv_at hl 0 rfl) ?_
  refine lv_iconst (v := 1) hx hb dL_orders_165 (by decide) ?_
  refine lv_iconst (v := 2) hx hb dL_orders_166 (by decide) ?_
  refine gm_ci (gm_call (As := [.int 1, .int 2]) (rest := [.int 11]) (ci := 8) (q := (RX8, TX8, 8)) ⟨hx, hb, hml, hown, hts⟩ hK (c_X8_ordered l D cy β X1_8 1 2 ) (cwV 2 hts (kIn kv_ordered) rfl rfl rfl (by decide +kernel) ⟨Nat.le_of_ble_eq_true rfl, Nat.le_of_ble_eq_true rfl⟩) (TR.mk0 hR) rfl hR rfl hl.1 rfl (Nat.le_of_ble_eq_true rfl) dL_orders_167 (Nat.le_of_ble_eq_true rfl) (Nat.le_of_ble_eq_true rfl)) hS (fun _ h => h.elim) (fun H locs _ hz9 hfr hS => ?_)
  have hR := gRep.keep hR hfr (fun _ _ h => h)
  replace hzl := Nat.le_trans hzl hz9
  obtain ⟨a9, hk⟩ := e_ordered hE hk
  rw [a9]
  clear hfr hz9 a9
  refine lv_iadd hx hb dL_orders_170 ?_
  rw [show (11 + 28 : Int32) = 39 from by decide]
  refine lv_bipush (v := 39) hx hb dL_orders_171 (by decide) ?_
  refine lv_icmp_ne (tgt := 210) hx hb dL_orders_173 (by decide) (fun c => absurd c (by decide)) (fun _ => ?_)
  refine lv_aload_n hx hb dL_orders_176 rfl (lv_at hl 0 rfl) ?_
  refine lv_iconst (v := 1) hx hb dL_orders_177 (by decide) ?_
  refine lv_iconst (v := 3) hx hb dL_orders_178 (by decide) ?_
  refine gm_ci (gm_call (As := [.int 1, .int 3]) (rest := []) (ci := 8) (q := (RX8, TX8, 8)) ⟨hx, hb, hml, hown, hts⟩ hK (c_X8_ordered l D cy β X1_8 1 3 ) (cwV 2 hts (kIn kv_ordered) rfl rfl rfl (by decide +kernel) ⟨Nat.le_of_ble_eq_true rfl, Nat.le_of_ble_eq_true rfl⟩) (TR.mk0 hR) rfl hR rfl hl.1 rfl (Nat.le_of_ble_eq_true rfl) dL_orders_179 (Nat.le_of_ble_eq_true rfl) (Nat.le_of_ble_eq_true rfl)) hS (fun _ h => h.elim) (fun H locs _ hz9 hfr hS => ?_)
  have hR := gRep.keep hR hfr (fun _ _ h => h)
  replace hzl := Nat.le_trans hzl hz9
  obtain ⟨a9, hk⟩ := e_ordered hE hk
  rw [a9]
  clear hfr hz9 a9
  refine lv_iconst (v := 1) hx hb dL_orders_182 (by decide) ?_
  refine lv_icmp_lt (tgt := 210) hx hb dL_orders_183 (by decide) (fun c => absurd c (by decide)) (fun _ => ?_)
  refine lv_aload_n hx hb dL_orders_186 rfl (lv_at hl 0 rfl) ?_
  refine lv_iconst (v := 1) hx hb dL_orders_187 (by decide) ?_
  refine gm_ci (gm_call (As := [.int 1]) (rest := []) (ci := 8) (q := (RX8, TX8, 8)) ⟨hx, hb, hml, hown, hts⟩ hK (c_X8_endOrder l D cy β X1_8 1 hE.ok) (cwV 1 hts (kIn kv_endOrder) rfl rfl rfl (by decide +kernel) ⟨Nat.le_of_ble_eq_true rfl, Nat.le_of_ble_eq_true rfl⟩) (TR.mk0 hR) rfl hR rfl hl.1 rfl (Nat.le_of_ble_eq_true rfl) dL_orders_188 (Nat.le_of_ble_eq_true rfl) (Nat.le_of_ble_eq_true rfl)) hS TA_CA (fun H locs hR hz9 hfr hS => ?_)
  replace hzl := Nat.le_trans hzl hz9
  obtain ⟨a9, T1_9, hE, hk⟩ := eH_endOrder hE hk
  rw [a9]
  generalize (p_X8_endOrder X1_8 1).2 = X1_9 at hR hE
  clear hfr hz9 a9
  refine lv_aload_n hx hb dL_orders_191 rfl (lv_at hl 0 rfl) ?_
  refine lv_iconst (v := 1) hx hb dL_orders_192 (by decide) ?_
  refine lv_iconst (v := 2) hx hb dL_orders_193 (by decide) ?_
  refine gm_ci (gm_call (As := [.int 1, .int 2]) (rest := [.int 28]) (ci := 8) (q := (RX8, TX8, 8)) ⟨hx, hb, hml, hown, hts⟩ hK (c_X8_ordered l D cy β X1_9 1 2 ) (cwV 2 hts (kIn kv_ordered) rfl rfl rfl (by decide +kernel) ⟨Nat.le_of_ble_eq_true rfl, Nat.le_of_ble_eq_true rfl⟩) (TR.mk0 hR) rfl hR rfl hl.1 rfl (Nat.le_of_ble_eq_true rfl) dL_orders_194 (Nat.le_of_ble_eq_true rfl) (Nat.le_of_ble_eq_true rfl)) hS (fun _ h => h.elim) (fun H locs _ hz9 hfr hS => ?_)
  have hR := gRep.keep hR hfr (fun _ _ h => h)
  replace hzl := Nat.le_trans hzl hz9
  obtain ⟨a9, hk⟩ := e_ordered hE hk
  rw [a9]
  clear hfr hz9 a9
  refine lv_icmp_ne (tgt := 210) hx hb dL_orders_197 (by decide) (fun c => absurd c (by decide)) (fun _ => ?_)
  refine lv_aload_n hx hb dL_orders_200 rfl (lv_at hl 0 rfl) ?_
  refine lv_iconst (v := 1) hx hb dL_orders_201 (by decide) ?_
  refine gm_ci (gm_call (As := [.int 1]) (rest := []) (ci := 8) (q := (RX8, TX8, 8)) ⟨hx, hb, hml, hown, hts⟩ hK (c_X8_endOrder l D cy β X1_9 1 hE.ok) (cwV 1 hts (kIn kv_endOrder) rfl rfl rfl (by decide +kernel) ⟨Nat.le_of_ble_eq_true rfl, Nat.le_of_ble_eq_true rfl⟩) (TR.mk0 hR) rfl hR rfl hl.1 rfl (Nat.le_of_ble_eq_true rfl) dL_orders_202 (Nat.le_of_ble_eq_true rfl) (Nat.le_of_ble_eq_true rfl)) hS TA_CA (fun H locs hR hz9 hfr hS => ?_)
  replace hzl := Nat.le_trans hzl hz9
  obtain ⟨a9, T1_10, hE, hk⟩ := eH_endOrder hE hk
  rw [a9]
  generalize (p_X8_endOrder X1_9 1).2 = X1_10 at hR hE
  clear hfr hz9 a9
  refine lv_bipush (v := (-5)) hx hb dL_orders_205 (by decide) ?_
  refine lv_icmp_eq (tgt := 212) hx hb dL_orders_207 (by decide) (fun _ => ?_) (fun c => absurd c (by decide))
  refine lv_aload_n hx hb dL_orders_212 rfl (lv_at hl 0 rfl) ?_
  refine lv_iconst (v := 0) hx hb dL_orders_213 (by decide) ?_
  refine lv_iconst (v := 1) hx hb dL_orders_214 (by decide) ?_
  refine lv_iconst (v := 0) hx hb dL_orders_215 (by decide) ?_
  refine lv_iconst (v := 1) hx hb dL_orders_216 (by decide) ?_
  refine lv_iconst (v := 1) hx hb dL_orders_217 (by decide) ?_
  refine gm_ci (gm_call (As := [.int 0, .int 1, .int 0, .int 1, .int 1]) (rest := []) (ci := 8) (q := (RX8, TX8, 8)) ⟨hx, hb, hml, hown, hts⟩ hK (c_X8_book l D cy β X1_10 0 1 0 1 1 hE.ok) (cwV 5 hts (kIn kv_book) rfl rfl rfl (by decide +kernel) ⟨Nat.le_of_ble_eq_true rfl, Nat.le_of_ble_eq_true rfl⟩) (TR.mk0 hR) rfl hR rfl hl.1 rfl (Nat.le_of_ble_eq_true rfl) dL_orders_218 (Nat.le_of_ble_eq_true rfl) (Nat.le_of_ble_eq_true rfl)) hS TA_CA (fun H locs hR hz9 hfr hS => ?_)
  replace hzl := Nat.le_trans hzl hz9
  obtain ⟨a9, T1_11, hE, hk⟩ := eH_book hE hk
  rw [a9]
  generalize (p_X8_book X1_10 0 1 0 1 1).2 = X1_11 at hR hE
  clear hfr hz9 a9
  refine lv_bipush (v := (-3)) hx hb dL_orders_221 (by decide) ?_
  refine lv_icmp_ne (tgt := 295) hx hb dL_orders_223 (by decide) (fun c => absurd c (by decide)) (fun _ => ?_)
  refine lv_aload_n hx hb dL_orders_226 rfl (lv_at hl 0 rfl) ?_
  refine lv_iconst (v := 0) hx hb dL_orders_227 (by decide) ?_
  refine lv_iconst (v := 1) hx hb dL_orders_228 (by decide) ?_
  refine lv_iconst (v := 0) hx hb dL_orders_229 (by decide) ?_
  refine lv_iconst (v := 0) hx hb dL_orders_230 (by decide) ?_
  refine lv_iconst (v := 1) hx hb dL_orders_231 (by decide) ?_
  refine gm_ci (gm_call (As := [.int 0, .int 1, .int 0, .int 0, .int 1]) (rest := []) (ci := 8) (q := (RX8, TX8, 8)) ⟨hx, hb, hml, hown, hts⟩ hK (c_X8_book l D cy β X1_11 0 1 0 0 1 hE.ok) (cwV 5 hts (kIn kv_book) rfl rfl rfl (by decide +kernel) ⟨Nat.le_of_ble_eq_true rfl, Nat.le_of_ble_eq_true rfl⟩) (TR.mk0 hR) rfl hR rfl hl.1 rfl (Nat.le_of_ble_eq_true rfl) dL_orders_232 (Nat.le_of_ble_eq_true rfl) (Nat.le_of_ble_eq_true rfl)) hS TA_CA (fun H locs hR hz9 hfr hS => ?_)
  replace hzl := Nat.le_trans hzl hz9
  obtain ⟨a9, T1_12, hE, hk⟩ := eH_book hE hk
  rw [a9]
  generalize (p_X8_book X1_11 0 1 0 0 1).2 = X1_12 at hR hE
  clear hfr hz9 a9
  refine lv_bipush (v := (-2)) hx hb dL_orders_235 (by decide) ?_
  refine lv_icmp_ne (tgt := 295) hx hb dL_orders_237 (by decide) (fun c => absurd c (by decide)) (fun _ => ?_)
  refine lv_aload_n hx hb dL_orders_240 rfl (lv_at hl 0 rfl) ?_
  refine lv_iconst (v := 5) hx hb dL_orders_241 (by decide) ?_
  refine lv_bipush (v := 50) hx hb dL_orders_242 (by decide) ?_
  refine gm_ci (gm_call (As := [.int 5, .int 50]) (rest := []) (ci := 8) (q := (RX8, TX8, 8)) ⟨hx, hb, hml, hown, hts⟩ hK (c_X8_order l D cy β X1_12 5 50 hE.ok) (cwV 2 hts (kIn kv_order) rfl rfl rfl (by decide +kernel) ⟨Nat.le_of_ble_eq_true rfl, Nat.le_of_ble_eq_true rfl⟩) (TR.mk0 hR) rfl hR rfl hl.1 rfl (Nat.le_of_ble_eq_true rfl) dL_orders_244 (Nat.le_of_ble_eq_true rfl) (Nat.le_of_ble_eq_true rfl)) hS TA_CA (fun H locs hR hz9 hfr hS => ?_)
  replace hzl := Nat.le_trans hzl hz9
  obtain ⟨a9, T1_13, hE, hk⟩ := eH_order hE hk
  rw [a9]
  generalize (p_X8_order X1_12 5 50).2 = X1_13 at hR hE
  clear hfr hz9 a9
  refine lv_iconst (v := 2) hx hb dL_orders_247 (by decide) ?_
  refine lv_icmp_ne (tgt := 295) hx hb dL_orders_248 (by decide) (fun c => absurd c (by decide)) (fun _ => ?_)
  refine lv_aload_n hx hb dL_orders_251 rfl (lv_at hl 0 rfl) ?_
  refine lv_bipush (v := 39) hx hb dL_orders_252 (by decide) ?_
  refine lv_iconst (v := 1) hx hb dL_orders_254 (by decide) ?_
  refine gm_ci (gm_call (As := [.int 39, .int 1]) (rest := []) (ci := 8) (q := (RX8, TX8, 8)) ⟨hx, hb, hml, hown, hts⟩ hK (c_X8_order l D cy β X1_13 39 1 hE.ok) (cwV 2 hts (kIn kv_order) rfl rfl rfl (by decide +kernel) ⟨Nat.le_of_ble_eq_true rfl, Nat.le_of_ble_eq_true rfl⟩) (TR.mk0 hR) rfl hR rfl hl.1 rfl (Nat.le_of_ble_eq_true rfl) dL_orders_255 (Nat.le_of_ble_eq_true rfl) (Nat.le_of_ble_eq_true rfl)) hS TA_CA (fun H locs hR hz9 hfr hS => ?_)
  replace hzl := Nat.le_trans hzl hz9
  obtain ⟨a9, T1_14, hE, hk⟩ := eH_order hE hk
  rw [a9]
  generalize (p_X8_order X1_13 39 1).2 = X1_14 at hR hE
  clear hfr hz9 a9
  refine lv_iconst (v := 3) hx hb dL_orders_258 (by decide) ?_
  refine lv_icmp_ne (tgt := 295) hx hb dL_orders_259 (by decide) (fun c => absurd c (by decide)) (fun _ => ?_)
  refine lv_aload_n hx hb dL_orders_262 rfl (lv_at hl 0 rfl) ?_
  refine lv_iconst (v := 0) hx hb dL_orders_263 (by decide) ?_
  refine lv_iconst (v := 1) hx hb dL_orders_264 (by decide) ?_
  refine gm_ci (gm_call (As := [.int 0, .int 1]) (rest := []) (ci := 8) (q := (RX8, TX8, 8)) ⟨hx, hb, hml, hown, hts⟩ hK (c_X8_order l D cy β X1_14 0 1 hE.ok) (cwV 2 hts (kIn kv_order) rfl rfl rfl (by decide +kernel) ⟨Nat.le_of_ble_eq_true rfl, Nat.le_of_ble_eq_true rfl⟩) (TR.mk0 hR) rfl hR rfl hl.1 rfl (Nat.le_of_ble_eq_true rfl) dL_orders_265 (Nat.le_of_ble_eq_true rfl) (Nat.le_of_ble_eq_true rfl)) hS TA_CA (fun H locs hR hz9 hfr hS => ?_)
  replace hzl := Nat.le_trans hzl hz9
  obtain ⟨a9, T1_15, hE, hk⟩ := eH_order hE hk
  rw [a9]
  generalize (p_X8_order X1_14 0 1).2 = X1_15 at hR hE
  clear hfr hz9 a9
  refine lv_bipush (v := (-3)) hx hb dL_orders_268 (by decide) ?_
  refine lv_icmp_ne (tgt := 295) hx hb dL_orders_270 (by decide) (fun c => absurd c (by decide)) (fun _ => ?_)
  refine lv_aload_n hx hb dL_orders_273 rfl (lv_at hl 0 rfl) ?_
  refine lv_iconst (v := 0) hx hb dL_orders_274 (by decide) ?_
  refine lv_iconst (v := 0) hx hb dL_orders_275 (by decide) ?_
  refine gm_ci (gm_call (As := [.int 0, .int 0]) (rest := []) (ci := 8) (q := (RX8, TX8, 8)) ⟨hx, hb, hml, hown, hts⟩ hK (c_X8_order l D cy β X1_15 0 0 hE.ok) (cwV 2 hts (kIn kv_order) rfl rfl rfl (by decide +kernel) ⟨Nat.le_of_ble_eq_true rfl, Nat.le_of_ble_eq_true rfl⟩) (TR.mk0 hR) rfl hR rfl hl.1 rfl (Nat.le_of_ble_eq_true rfl) dL_orders_276 (Nat.le_of_ble_eq_true rfl) (Nat.le_of_ble_eq_true rfl)) hS TA_CA (fun H locs hR hz9 hfr hS => ?_)
  replace hzl := Nat.le_trans hzl hz9
  obtain ⟨a9, T1_16, hE, hk⟩ := eH_order hE hk
  rw [a9]
  generalize (p_X8_order X1_15 0 0).2 = X1_16 at hR hE
  clear hfr hz9 a9
  refine lv_bipush (v := (-2)) hx hb dL_orders_279 (by decide) ?_
  refine lv_icmp_ne (tgt := 295) hx hb dL_orders_281 (by decide) (fun c => absurd c (by decide)) (fun _ => ?_)
  refine lv_aload_n hx hb dL_orders_284 rfl (lv_at hl 0 rfl) ?_
  refine gm_ci (gm_callS (As := [.ref β]) (rest := []) ⟨hx, hb, hml, hown, hts⟩ hK (c_L_refused l D cy β X1_16 T1_16 hE hk) (va_cwS 1 hts (kIn ks_refused) rfl rfl rfl (by decide +kernel) ⟨Nat.le_of_ble_eq_true rfl, Nat.le_of_ble_eq_true rfl⟩) hR rfl hl.1 rfl (Nat.le_of_ble_eq_true rfl) dL_orders_285 (Nat.le_of_ble_eq_true rfl) (Nat.le_of_ble_eq_true rfl)) hS TA_CA (fun H locs hR9 hz9 hfr hS => ?_)
  replace hzl := Nat.le_trans hzl hz9
  clear hR9 hz9 hfr
  refine lv_if_eq (tgt := 295) hx hb dL_orders_288 (by decide) (fun c => absurd c (by decide)) (fun _ => ?_)
  refine lv_iconst (v := 1) hx hb dL_orders_291 (by decide) ?_
  refine lv_goto (tgt := 296) hx hb dL_orders_292 (by decide) ?_
  exact gm_zret hx hb hr hlocks rfl hS rfl trivial dL_orders_296
