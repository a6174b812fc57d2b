/-! texts -/
set_option maxHeartbeats 8000000 in
set_option maxRecDepth 100000 in
theorem c_L_texts (l : Launch) (D : va_G) (cy : Nat → ClassId) (β : Nat) : Met l yL_texts wsK_texts ({ frames := 8, cells := 872, slots := 8239, locals := 181 }) (gP [] D cy (fun H => H.size = β)) (gQi 1 (fun _ => True) (CA β)) 872 8239 (CA β) := by
  refine gm_metC (cc := cL_texts) (maxL := 3) (ret := (some .boolean)) [] (by decide) rfl (Nat.le_of_ble_eq_true rfl) ?_
  intro p e s m args below meth c0 ls C hin hz hl
  obtain ⟨hx, hb, hr, hts, hown, hlocks, hml, hK⟩ := C
  have hl : lv_has ls 3 [] := hl
  have hS : va_S (CA β) s.heap s.heap [] := va_S.rf
  refine gm_new (ci := 8) (fs := [.null, .null, .null, .null, .null, .null, .int 0, .int 0]) (C := RX8) (T := TX8) (N := 8) hx hb hts (fun w h => List.mem_cons_of_mem _ (inlX8 w h)) tyX8 tyX8_ok hown (hts _ (List.mem_cons_of_mem _ kw_classLink_RL_14_RX8)) (hts _ (List.mem_cons_of_mem _ kw_instantiable_RX8_8)) (hts _ (List.mem_cons_of_mem _ kw_initialized_RX8)) hK.1 rfl (fun j hj => by rcases (show j = 0 ∨ j = 1 ∨ j = 2 ∨ j = 3 ∨ j = 4 ∨ j = 5 ∨ j = 6 ∨ j = 7 by omega) with rfl | rfl | rfl | rfl | rfl | rfl | rfl | rfl <;> rfl) (Nat.le_of_ble_eq_true rfl) (Nat.le_of_ble_eq_true rfl) dL_texts_0 hz (fun H h2 z1 o1 => ?_)
  have hS := g_Sm hS hz z1 o1
  refine lv_dup hx hb dL_texts_3 rfl ?_
  refine gm_cvC (mc := 871) (ms := 8231) (va_runI (As := []) (rest := [.ref β]) ⟨hx, hb, hml, hown, hts⟩ (c_X8_init l D cy β) ⟨callB_of 0 hts (kIn kg_init) rfl rfl rfl (hts _ (List.mem_cons_of_mem _ kw_initialized_RX8)) (hts _ (List.mem_cons_of_mem _ kw_methodLink_RL_134_yX8_init)) (by decide +kernel) ⟨Nat.le_of_ble_eq_true rfl, Nat.le_of_ble_eq_true rfl⟩, rfl, hts _ (List.mem_cons_of_mem _ kw_instanceMethod_yX8_init)⟩ (gPreS hK (lw_new8 h2 z1)) rfl rfl hl.1 rfl (lv_room (Nat.le_of_ble_eq_true rfl)) dL_texts_4 ⟨Nat.le_of_ble_eq_true rfl, Nat.le_of_ble_eq_true rfl⟩) hS (fun _ h => h) (fun H locs hU _ hfr hS => ?_)
  clear hfr h2 z1 o1
  have hR := hU.TR
  have hzl : β + 872 ≤ H.size := Nat.le_of_eq hU.2.symm
  clear hU
  have hE : Ev U0 B0 := Ev_new
  have hk := ev_texts
  refine lv_astore_n (lv' := [(0, .ref β)]) hx hb dL_texts_7 rfl hl (by decide) rfl (fun ls hl => ?_)
  refine lv_aload_n hx hb dL_texts_8 rfl (lv_at hl 0 rfl) ?_
  refine lv_lconst (v := 0) hx hb dL_texts_9 (by decide) ?_
  refine lv_lconst (v := 0) hx hb dL_texts_10 (by decide) ?_
  refine lv_bipush (v := (-100)) hx hb dL_texts_11 (by decide) ?_
  refine gm_ci (gm_callS (As := [.ref β, .long 0, .long 0, .int (-100)]) (rest := []) ⟨hx, hb, hml, hown, hts⟩ hK (c_L_isTold l D cy β U0 0 0 (-100) hE.iv) (va_cwS 4 hts (kIn ks_isTold) rfl rfl rfl (by decide +kernel) ⟨Nat.le_of_ble_eq_true rfl, Nat.le_of_ble_eq_true rfl⟩) hR rfl hl.1 rfl (Nat.le_of_ble_eq_true rfl) dL_texts_13 (Nat.le_of_ble_eq_true rfl) (Nat.le_of_ble_eq_true rfl)) hS TA_CA (fun H locs hR hz9 hfr hS => ?_)
  replace hzl := Nat.le_trans hzl hz9
  obtain ⟨a9, T1_1, hE, hk⟩ := eH_isTold hE hk
  rw [a9]
  generalize (p_L_isTold U0 0 0 (-100)).2 = X1_1 at hR hE
  clear hfr hz9 a9
  refine lv_if_ne (tgt := 21) hx hb dL_texts_16 (by decide) (fun _ => ?_) (fun c => absurd c (by decide))
  refine lv_aload_n hx hb dL_texts_21 rfl (lv_at hl 0 rfl) ?_
  refine lv_ldc2 (v := 53) hx hb hown (hts _ (List.mem_cons_of_mem _ kw_constantLong_RL_139)) dL_texts_22 ?_
  refine lv_lconst (v := 0) hx hb dL_texts_25 (by decide) ?_
  refine lv_bipush (v := (-101)) hx hb dL_texts_26 (by decide) ?_
  refine gm_ci (gm_callS (As := [.ref β, .long 53, .long 0, .int (-101)]) (rest := []) ⟨hx, hb, hml, hown, hts⟩ hK (c_L_isTold l D cy β X1_1 53 0 (-101) hE.iv) (va_cwS 4 hts (kIn ks_isTold) rfl rfl rfl (by decide +kernel) ⟨Nat.le_of_ble_eq_true rfl, Nat.le_of_ble_eq_true rfl⟩) hR rfl hl.1 rfl (Nat.le_of_ble_eq_true rfl) dL_texts_28 (Nat.le_of_ble_eq_true rfl) (Nat.le_of_ble_eq_true rfl)) hS TA_CA (fun H locs hR hz9 hfr hS => ?_)
  replace hzl := Nat.le_trans hzl hz9
  obtain ⟨a9, T1_2, hE, hk⟩ := eH_isTold hE hk
  rw [a9]
  generalize (p_L_isTold X1_1 53 0 (-101)).2 = X1_2 at hR hE
  clear hfr hz9 a9
  refine lv_if_ne (tgt := 36) hx hb dL_texts_31 (by decide) (fun _ => ?_) (fun c => absurd c (by decide))
  refine lv_aload_n hx hb dL_texts_36 rfl (lv_at hl 0 rfl) ?_
  refine lv_ldc2 (v := 12341) hx hb hown (hts _ (List.mem_cons_of_mem _ kw_constantLong_RL_141)) dL_texts_37 ?_
  refine lv_lconst (v := 0) hx hb dL_texts_40 (by decide) ?_
  refine lv_bipush (v := (-101)) hx hb dL_texts_41 (by decide) ?_
  refine gm_ci (gm_callS (As := [.ref β, .long 12341, .long 0, .int (-101)]) (rest := []) ⟨hx, hb, hml, hown, hts⟩ hK (c_L_isTold l D cy β X1_2 12341 0 (-101) hE.iv) (va_cwS 4 hts (kIn ks_isTold) rfl rfl rfl (by decide +kernel) ⟨Nat.le_of_ble_eq_true rfl, Nat.le_of_ble_eq_true rfl⟩) hR rfl hl.1 rfl (Nat.le_of_ble_eq_true rfl) dL_texts_43 (Nat.le_of_ble_eq_true rfl) (Nat.le_of_ble_eq_true rfl)) hS TA_CA (fun H locs hR hz9 hfr hS => ?_)
  replace hzl := Nat.le_trans hzl hz9
  obtain ⟨a9, T1_3, hE, hk⟩ := eH_isTold hE hk
  rw [a9]
  generalize (p_L_isTold X1_2 12341 0 (-101)).2 = X1_3 at hR hE
  clear hfr hz9 a9
  refine lv_if_ne (tgt := 51) hx hb dL_texts_46 (by decide) (fun _ => ?_) (fun c => absurd c (by decide))
  refine lv_aload_n hx hb dL_texts_51 rfl (lv_at hl 0 rfl) ?_
  refine lv_ldc2 (v := 48) hx hb hown (hts _ (List.mem_cons_of_mem _ kw_constantLong_RL_143)) dL_texts_52 ?_
  refine lv_lconst (v := 0) hx hb dL_texts_55 (by decide) ?_
  refine lv_bipush (v := (-101)) hx hb dL_texts_56 (by decide) ?_
  refine gm_ci (gm_callS (As := [.ref β, .long 48, .long 0, .int (-101)]) (rest := []) ⟨hx, hb, hml, hown, hts⟩ hK (c_L_isTold l D cy β X1_3 48 0 (-101) hE.iv) (va_cwS 4 hts (kIn ks_isTold) rfl rfl rfl (by decide +kernel) ⟨Nat.le_of_ble_eq_true rfl, Nat.le_of_ble_eq_true rfl⟩) hR rfl hl.1 rfl (Nat.le_of_ble_eq_true rfl) dL_texts_58 (Nat.le_of_ble_eq_true rfl) (Nat.le_of_ble_eq_true rfl)) hS TA_CA (fun H locs hR hz9 hfr hS => ?_)
  replace hzl := Nat.le_trans hzl hz9
  obtain ⟨a9, T1_4, hE, hk⟩ := eH_isTold hE hk
  rw [a9]
  generalize (p_L_isTold X1_3 48 0 (-101)).2 = X1_4 at hR hE
  clear hfr hz9 a9
  refine lv_if_ne (tgt := 66) hx hb dL_texts_61 (by decide) (fun _ => ?_) (fun c => absurd c (by decide))
  refine lv_aload_n hx hb dL_texts_66 rfl (lv_at hl 0 rfl) ?_
  refine lv_ldc2 (v := 54091677185334) hx hb hown (hts _ (List.mem_cons_of_mem _ kw_constantLong_RL_145)) dL_texts_67 ?_
  refine lv_lconst (v := 0) hx hb dL_texts_70 (by decide) ?_
  refine lv_bipush (v := (-105)) hx hb dL_texts_71 (by decide) ?_
  refine gm_ci (gm_callS (As := [.ref β, .long 54091677185334, .long 0, .int (-105)]) (rest := []) ⟨hx, hb, hml, hown, hts⟩ hK (c_L_isTold l D cy β X1_4 54091677185334 0 (-105) hE.iv) (va_cwS 4 hts (kIn ks_isTold) rfl rfl rfl (by decide +kernel) ⟨Nat.le_of_ble_eq_true rfl, Nat.le_of_ble_eq_true rfl⟩) hR rfl hl.1 rfl (Nat.le_of_ble_eq_true rfl) dL_texts_73 (Nat.le_of_ble_eq_true rfl) (Nat.le_of_ble_eq_true rfl)) hS TA_CA (fun H locs hR hz9 hfr hS => ?_)
  replace hzl := Nat.le_trans hzl hz9
  obtain ⟨a9, T1_5, hE, hk⟩ := eH_isTold hE hk
  rw [a9]
  generalize (p_L_isTold X1_4 54091677185334 0 (-105)).2 = X1_5 at hR hE
  clear hfr hz9 a9
  refine lv_if_ne (tgt := 81) hx hb dL_texts_76 (by decide) (fun _ => ?_) (fun c => absurd c (by decide))
  refine lv_aload_n hx hb dL_texts_81 rfl (lv_at hl 0 rfl) ?_
  refine lv_ldc2 (v := 211295614005) hx hb hown (hts _ (List.mem_cons_of_mem _ kw_constantLong_RL_147)) dL_texts_82 ?_
  refine lv_lconst (v := 0) hx hb dL_texts_85 (by decide) ?_
  refine lv_bipush (v := (-105)) hx hb dL_texts_86 (by decide) ?_
  refine gm_ci (gm_callS (As := [.ref β, .long 211295614005, .long 0, .int (-105)]) (rest := []) ⟨hx, hb, hml, hown, hts⟩ hK (c_L_isTold l D cy β X1_5 211295614005 0 (-105) hE.iv) (va_cwS 4 hts (kIn ks_isTold) rfl rfl rfl (by decide +kernel) ⟨Nat.le_of_ble_eq_true rfl, Nat.le_of_ble_eq_true rfl⟩) hR rfl hl.1 rfl (Nat.le_of_ble_eq_true rfl) dL_texts_88 (Nat.le_of_ble_eq_true rfl) (Nat.le_of_ble_eq_true rfl)) hS TA_CA (fun H locs hR hz9 hfr hS => ?_)
  replace hzl := Nat.le_trans hzl hz9
  obtain ⟨a9, T1_6, hE, hk⟩ := eH_isTold hE hk
  rw [a9]
  generalize (p_L_isTold X1_5 211295614005 0 (-105)).2 = X1_6 at hR hE
  clear hfr hz9 a9
  refine lv_if_ne (tgt := 96) hx hb dL_texts_91 (by decide) (fun _ => ?_) (fun c => absurd c (by decide))
  refine lv_aload_n hx hb dL_texts_96 rfl (lv_at hl 0 rfl) ?_
  refine lv_ldc2 (v := 3484724) hx hb hown (hts _ (List.mem_cons_of_mem _ kw_constantLong_RL_149)) dL_texts_97 ?_
  refine lv_lconst (v := 0) hx hb dL_texts_100 (by decide) ?_
  refine lv_bipush (v := (-102)) hx hb dL_texts_101 (by decide) ?_
  refine gm_ci (gm_callS (As := [.ref β, .long 3484724, .long 0, .int (-102)]) (rest := []) ⟨hx, hb, hml, hown, hts⟩ hK (c_L_isTold l D cy β X1_6 3484724 0 (-102) hE.iv) (va_cwS 4 hts (kIn ks_isTold) rfl rfl rfl (by decide +kernel) ⟨Nat.le_of_ble_eq_true rfl, Nat.le_of_ble_eq_true rfl⟩) hR rfl hl.1 rfl (Nat.le_of_ble_eq_true rfl) dL_texts_103 (Nat.le_of_ble_eq_true rfl) (Nat.le_of_ble_eq_true rfl)) hS TA_CA (fun H locs hR hz9 hfr hS => ?_)
  replace hzl := Nat.le_trans hzl hz9
  obtain ⟨a9, T1_7, hE, hk⟩ := eH_isTold hE hk
  rw [a9]
  generalize (p_L_isTold X1_6 3484724 0 (-102)).2 = X1_7 at hR hE
  clear hfr hz9 a9
  refine lv_if_ne (tgt := 111) hx hb dL_texts_106 (by decide) (fun _ => ?_) (fun c => absurd c (by decide))
  refine lv_aload_n hx hb dL_texts_111 rfl (lv_at hl 0 rfl) ?_
  refine lv_ldc2 (v := 3484720) hx hb hown (hts _ (List.mem_cons_of_mem _ kw_constantLong_RL_151)) dL_texts_112 ?_
  refine lv_lconst (v := 0) hx hb dL_texts_115 (by decide) ?_
  refine lv_bipush (v := (-102)) hx hb dL_texts_116 (by decide) ?_
  refine gm_ci (gm_callS (As := [.ref β, .long 3484720, .long 0, .int (-102)]) (rest := []) ⟨hx, hb, hml, hown, hts⟩ hK (c_L_isTold l D cy β X1_7 3484720 0 (-102) hE.iv) (va_cwS 4 hts (kIn ks_isTold) rfl rfl rfl (by decide +kernel) ⟨Nat.le_of_ble_eq_true rfl, Nat.le_of_ble_eq_true rfl⟩) hR rfl hl.1 rfl (Nat.le_of_ble_eq_true rfl) dL_texts_118 (Nat.le_of_ble_eq_true rfl) (Nat.le_of_ble_eq_true rfl)) hS TA_CA (fun H locs hR hz9 hfr hS => ?_)
  replace hzl := Nat.le_trans hzl hz9
  obtain ⟨a9, T1_8, hE, hk⟩ := eH_isTold hE hk
  rw [a9]
  generalize (p_L_isTold X1_7 3484720 0 (-102)).2 = X1_8 at hR hE
  clear hfr hz9 a9
  refine lv_if_ne (tgt := 126) hx hb dL_texts_121 (by decide) (fun _ => ?_) (fun c => absurd c (by decide))
  refine lv_aload_n hx hb dL_texts_126 rfl (lv_at hl 0 rfl) ?_
  refine lv_ldc2 (v := 13627) hx hb hown (hts _ (List.mem_cons_of_mem _ kw_constantLong_RL_153)) dL_texts_127 ?_
  refine lv_lconst (v := 0) hx hb dL_texts_130 (by decide) ?_
  refine lv_bipush (v := (-101)) hx hb dL_texts_131 (by decide) ?_
  refine gm_ci (gm_callS (As := [.ref β, .long 13627, .long 0, .int (-101)]) (rest := []) ⟨hx, hb, hml, hown, hts⟩ hK (c_L_isTold l D cy β X1_8 13627 0 (-101) hE.iv) (va_cwS 4 hts (kIn ks_isTold) rfl rfl rfl (by decide +kernel) ⟨Nat.le_of_ble_eq_true rfl, Nat.le_of_ble_eq_true rfl⟩) hR rfl hl.1 rfl (Nat.le_of_ble_eq_true rfl) dL_texts_133 (Nat.le_of_ble_eq_true rfl) (Nat.le_of_ble_eq_true rfl)) hS TA_CA (fun H locs hR hz9 hfr hS => ?_)
  replace hzl := Nat.le_trans hzl hz9
  obtain ⟨a9, T1_9, hE, hk⟩ := eH_isTold hE hk
  rw [a9]
  generalize (p_L_isTold X1_8 13627 0 (-101)).2 = X1_9 at hR hE
  clear hfr hz9 a9
  refine lv_if_ne (tgt := 141) hx hb dL_texts_136 (by decide) (fun _ => ?_) (fun c => absurd c (by decide))
  refine lv_aload_n hx hb dL_texts_141 rfl (lv_at hl 0 rfl) ?_
  refine lv_ldc2 (v := 58463919813168) hx hb hown (hts _ (List.mem_cons_of_mem _ kw_constantLong_RL_155)) dL_texts_142 ?_
  refine lv_lconst (v := 0) hx hb dL_texts_145 (by decide) ?_
  refine lv_bipush (v := (-104)) hx hb dL_texts_146 (by decide) ?_
  refine gm_ci (gm_callS (As := [.ref β, .long 58463919813168, .long 0, .int (-104)]) (rest := []) ⟨hx, hb, hml, hown, hts⟩ hK (c_L_isTold l D cy β X1_9 58463919813168 0 (-104) hE.iv) (va_cwS 4 hts (kIn ks_isTold) rfl rfl rfl (by decide +kernel) ⟨Nat.le_of_ble_eq_true rfl, Nat.le_of_ble_eq_true rfl⟩) hR rfl hl.1 rfl (Nat.le_of_ble_eq_true rfl) dL_texts_148 (Nat.le_of_ble_eq_true rfl) (Nat.le_of_ble_eq_true rfl)) hS TA_CA (fun H locs hR hz9 hfr hS => ?_)
  replace hzl := Nat.le_trans hzl hz9
  obtain ⟨a9, T1_10, hE, hk⟩ := eH_isTold hE hk
  rw [a9]
  generalize (p_L_isTold X1_9 58463919813168 0 (-104)).2 = X1_10 at hR hE
  clear hfr hz9 a9
  refine lv_if_ne (tgt := 156) hx hb dL_texts_151 (by decide) (fun _ => ?_) (fun c => absurd c (by decide))
  refine lv_aload_n hx hb dL_texts_156 rfl (lv_at hl 0 rfl) ?_
  refine lv_ldc2 (v := 58463919812662) hx hb hown (hts _ (List.mem_cons_of_mem _ kw_constantLong_RL_157)) dL_texts_157 ?_
  refine lv_lconst (v := 0) hx hb dL_texts_160 (by decide) ?_
  refine lv_bipush (v := (-105)) hx hb dL_texts_161 (by decide) ?_
  refine gm_ci (gm_callS (As := [.ref β, .long 58463919812662, .long 0, .int (-105)]) (rest := []) ⟨hx, hb, hml, hown, hts⟩ hK (c_L_isTold l D cy β X1_10 58463919812662 0 (-105) hE.iv) (va_cwS 4 hts (kIn ks_isTold) rfl rfl rfl (by decide +kernel) ⟨Nat.le_of_ble_eq_true rfl, Nat.le_of_ble_eq_true rfl⟩) hR rfl hl.1 rfl (Nat.le_of_ble_eq_true rfl) dL_texts_163 (Nat.le_of_ble_eq_true rfl) (Nat.le_of_ble_eq_true rfl)) hS TA_CA (fun H locs hR hz9 hfr hS => ?_)
  replace hzl := Nat.le_trans hzl hz9
  obtain ⟨a9, T1_11, hE, hk⟩ := eH_isTold hE hk
  rw [a9]
  generalize (p_L_isTold X1_10 58463919812662 0 (-105)).2 = X1_11 at hR hE
  clear hfr hz9 a9
  refine lv_if_ne (tgt := 171) hx hb dL_texts_166 (by decide) (fun _ => ?_) (fun c => absurd c (by decide))
  refine lv_aload_n hx hb dL_texts_171 rfl (lv_at hl 0 rfl) ?_
  refine lv_ldc2 (v := 228374686768) hx hb hown (hts _ (List.mem_cons_of_mem _ kw_constantLong_RL_159)) dL_texts_172 ?_
  refine lv_lconst (v := 0) hx hb dL_texts_175 (by decide) ?_
  refine lv_bipush (v := (-105)) hx hb dL_texts_176 (by decide) ?_
  refine gm_ci (gm_callS (As := [.ref β, .long 228374686768, .long 0, .int (-105)]) (rest := []) ⟨hx, hb, hml, hown, hts⟩ hK (c_L_isTold l D cy β X1_11 228374686768 0 (-105) hE.iv) (va_cwS 4 hts (kIn ks_isTold) rfl rfl rfl (by decide +kernel) ⟨Nat.le_of_ble_eq_true rfl, Nat.le_of_ble_eq_true rfl⟩) hR rfl hl.1 rfl (Nat.le_of_ble_eq_true rfl) dL_texts_178 (Nat.le_of_ble_eq_true rfl) (Nat.le_of_ble_eq_true rfl)) hS TA_CA (fun H locs hR hz9 hfr hS => ?_)
  replace hzl := Nat.le_trans hzl hz9
  obtain ⟨a9, T1_12, hE, hk⟩ := eH_isTold hE hk
  rw [a9]
  generalize (p_L_isTold X1_11 228374686768 0 (-105)).2 = X1_12 at hR hE
  clear hfr hz9 a9
  refine lv_if_ne (tgt := 186) hx hb dL_texts_181 (by decide) (fun _ => ?_) (fun c => absurd c (by decide))
  refine lv_aload_n hx hb dL_texts_186 rfl (lv_at hl 0 rfl) ?_
  refine lv_ldc2 (v := 14966763472039981) hx hb hown (hts _ (List.mem_cons_of_mem _ kw_constantLong_RL_161)) dL_texts_187 ?_
  refine lv_lconst (v := 0) hx hb dL_texts_190 (by decide) ?_
  refine lv_bipush (v := (-106)) hx hb dL_texts_191 (by decide) ?_
  refine gm_ci (gm_callS (As := [.ref β, .long 14966763472039981, .long 0, .int (-106)]) (rest := []) ⟨hx, hb, hml, hown, hts⟩ hK (c_L_isTold l D cy β X1_12 14966763472039981 0 (-106) hE.iv) (va_cwS 4 hts (kIn ks_isTold) rfl rfl rfl (by decide +kernel) ⟨Nat.le_of_ble_eq_true rfl, Nat.le_of_ble_eq_true rfl⟩) hR rfl hl.1 rfl (Nat.le_of_ble_eq_true rfl) dL_texts_193 (Nat.le_of_ble_eq_true rfl) (Nat.le_of_ble_eq_true rfl)) hS TA_CA (fun H locs hR hz9 hfr hS => ?_)
  replace hzl := Nat.le_trans hzl hz9
  obtain ⟨a9, T1_13, hE, hk⟩ := eH_isTold hE hk
  rw [a9]
  generalize (p_L_isTold X1_12 14966763472039981 0 (-106)).2 = X1_13 at hR hE
  clear hfr hz9 a9
  refine lv_if_ne (tgt := 201) hx hb dL_texts_196 (by decide) (fun _ => ?_) (fun c => absurd c (by decide))
  refine lv_aload_n hx hb dL_texts_201 rfl (lv_at hl 0 rfl) ?_
  refine lv_ldc2 (v := 3831491448842239536) hx hb hown (hts _ (List.mem_cons_of_mem _ kw_constantLong_RL_163)) dL_texts_202 ?_
  refine lv_ldc2 (v := 3222064) hx hb hown (hts _ (List.mem_cons_of_mem _ kw_constantLong_RL_165)) dL_texts_205 ?_
  refine lv_bipush (v := (-110)) hx hb dL_texts_208 (by decide) ?_
  refine gm_ci (gm_callS (As := [.ref β, .long 3831491448842239536, .long 3222064, .int (-110)]) (rest := []) ⟨hx, hb, hml, hown, hts⟩ hK (c_L_isTold l D cy β X1_13 3831491448842239536 3222064 (-110) hE.iv) (va_cwS 4 hts (kIn ks_isTold) rfl rfl rfl (by decide +kernel) ⟨Nat.le_of_ble_eq_true rfl, Nat.le_of_ble_eq_true rfl⟩) hR rfl hl.1 rfl (Nat.le_of_ble_eq_true rfl) dL_texts_210 (Nat.le_of_ble_eq_true rfl) (Nat.le_of_ble_eq_true rfl)) hS TA_CA (fun H locs hR hz9 hfr hS => ?_)
  replace hzl := Nat.le_trans hzl hz9
  obtain ⟨a9, T1_14, hE, hk⟩ := eH_isTold hE hk
  rw [a9]
  generalize (p_L_isTold X1_13 3831491448842239536 3222064 (-110)).2 = X1_14 at hR hE
  clear hfr hz9 a9
  refine lv_if_ne (tgt := 218) hx hb dL_texts_213 (by decide) (fun _ => ?_) (fun c => absurd c (by decide))
  refine lv_aload_n hx hb dL_texts_218 rfl (lv_at hl 0 rfl) ?_
  refine lv_ldc2 (v := 3831491448842239536) hx hb hown (hts _ (List.mem_cons_of_mem _ kw_constantLong_RL_163)) dL_texts_219 ?_
  refine lv_ldc2 (v := 12586) hx hb hown (hts _ (List.mem_cons_of_mem _ kw_constantLong_RL_167)) dL_texts_222 ?_
  refine lv_bipush (v := (-110)) hx hb dL_texts_225 (by decide) ?_
  refine gm_ci (gm_callS (As := [.ref β, .long 3831491448842239536, .long 12586, .int (-110)]) (rest := []) ⟨hx, hb, hml, hown, hts⟩ hK (c_L_isTold l D cy β X1_14 3831491448842239536 12586 (-110) hE.iv) (va_cwS 4 hts (kIn ks_isTold) rfl rfl rfl (by decide +kernel) ⟨Nat.le_of_ble_eq_true rfl, Nat.le_of_ble_eq_true rfl⟩) hR rfl hl.1 rfl (Nat.le_of_ble_eq_true rfl) dL_texts_227 (Nat.le_of_ble_eq_true rfl) (Nat.le_of_ble_eq_true rfl)) hS TA_CA (fun H locs hR hz9 hfr hS => ?_)
  replace hzl := Nat.le_trans hzl hz9
  obtain ⟨a9, T1_15, hE, hk⟩ := eH_isTold hE hk
  rw [a9]
  generalize (p_L_isTold X1_14 3831491448842239536 12586 (-110)).2 = X1_15 at hR hE
  clear hfr hz9 a9
  refine lv_if_ne (tgt := 235) hx hb dL_texts_230 (by decide) (fun _ => ?_) (fun c => absurd c (by decide))
  refine lv_aload_n hx hb dL_texts_235 rfl (lv_at hl 0 rfl) ?_
  refine lv_ldc2 (v := 3831491448842239536) hx hb hown (hts _ (List.mem_cons_of_mem _ kw_constantLong_RL_163)) dL_texts_236 ?_
  refine lv_ldc2 (v := 3222065) hx hb hown (hts _ (List.mem_cons_of_mem _ kw_constantLong_RL_169)) dL_texts_239 ?_
  refine lv_iconst (v := (-1)) hx hb dL_texts_242 (by decide) ?_
  refine gm_ci (gm_callS (As := [.ref β, .long 3831491448842239536, .long 3222065, .int (-1)]) (rest := []) ⟨hx, hb, hml, hown, hts⟩ hK (c_L_isTold l D cy β X1_15 3831491448842239536 3222065 (-1) hE.iv) (va_cwS 4 hts (kIn ks_isTold) rfl rfl rfl (by decide +kernel) ⟨Nat.le_of_ble_eq_true rfl, Nat.le_of_ble_eq_true rfl⟩) hR rfl hl.1 rfl (Nat.le_of_ble_eq_true rfl) dL_texts_243 (Nat.le_of_ble_eq_true rfl) (Nat.le_of_ble_eq_true rfl)) hS TA_CA (fun H locs hR hz9 hfr hS => ?_)
  replace hzl := Nat.le_trans hzl hz9
  obtain ⟨a9, T1_16, hE, hk⟩ := eH_isTold hE hk
  rw [a9]
  generalize (p_L_isTold X1_15 3831491448842239536 3222065 (-1)).2 = X1_16 at hR hE
  clear hfr hz9 a9
  refine lv_if_ne (tgt := 251) hx hb dL_texts_246 (by decide) (fun _ => ?_) (fun c => absurd c (by decide))
  refine lv_aload_n hx hb dL_texts_251 rfl (lv_at hl 0 rfl) ?_
  refine lv_ldc2 (v := 3831491448842239536) hx hb hown (hts _ (List.mem_cons_of_mem _ kw_constantLong_RL_163)) dL_texts_252 ?_
  refine lv_ldc2 (v := 824848699) hx hb hown (hts _ (List.mem_cons_of_mem _ kw_constantLong_RL_171)) dL_texts_255 ?_
  refine lv_bipush (v := (-112)) hx hb dL_texts_258 (by decide) ?_
  refine gm_ci (gm_callS (As := [.ref β, .long 3831491448842239536, .long 824848699, .int (-112)]) (rest := []) ⟨hx, hb, hml, hown, hts⟩ hK (c_L_isTold l D cy β X1_16 3831491448842239536 824848699 (-112) hE.iv) (va_cwS 4 hts (kIn ks_isTold) rfl rfl rfl (by decide +kernel) ⟨Nat.le_of_ble_eq_true rfl, Nat.le_of_ble_eq_true rfl⟩) hR rfl hl.1 rfl (Nat.le_of_ble_eq_true rfl) dL_texts_260 (Nat.le_of_ble_eq_true rfl) (Nat.le_of_ble_eq_true rfl)) hS TA_CA (fun H locs hR hz9 hfr hS => ?_)
  replace hzl := Nat.le_trans hzl hz9
  obtain ⟨a9, T1_17, hE, hk⟩ := eH_isTold hE hk
  rw [a9]
  generalize (p_L_isTold X1_16 3831491448842239536 824848699 (-112)).2 = X1_17 at hR hE
  clear hfr hz9 a9
  refine lv_if_ne (tgt := 268) hx hb dL_texts_263 (by decide) (fun _ => ?_) (fun c => absurd c (by decide))
  refine lv_aload_n hx hb dL_texts_268 rfl (lv_at hl 0 rfl) ?_
  refine lv_ldc2 (v := 3831491448842239536) hx hb hown (hts _ (List.mem_cons_of_mem _ kw_constantLong_RL_163)) dL_texts_269 ?_
  refine lv_ldc2 (v := 824848684) hx hb hown (hts _ (List.mem_cons_of_mem _ kw_constantLong_RL_173)) dL_texts_272 ?_
  refine lv_bipush (v := (-111)) hx hb dL_texts_275 (by decide) ?_
  refine gm_ci (gm_callS (As := [.ref β, .long 3831491448842239536, .long 824848684, .int (-111)]) (rest := []) ⟨hx, hb, hml, hown, hts⟩ hK (c_L_isTold l D cy β X1_17 3831491448842239536 824848684 (-111) hE.iv) (va_cwS 4 hts (kIn ks_isTold) rfl rfl rfl (by decide +kernel) ⟨Nat.le_of_ble_eq_true rfl, Nat.le_of_ble_eq_true rfl⟩) hR rfl hl.1 rfl (Nat.le_of_ble_eq_true rfl) dL_texts_277 (Nat.le_of_ble_eq_true rfl) (Nat.le_of_ble_eq_true rfl)) hS TA_CA (fun H locs hR hz9 hfr hS => ?_)
  replace hzl := Nat.le_trans hzl hz9
  obtain ⟨a9, T1_18, hE, hk⟩ := eH_isTold hE hk
  rw [a9]
  generalize (p_L_isTold X1_17 3831491448842239536 824848684 (-111)).2 = X1_18 at hR hE
  clear hfr hz9 a9
  refine lv_if_ne (tgt := 285) hx hb dL_texts_280 (by decide) (fun _ => ?_) (fun c => absurd c (by decide))
  refine lv_aload_n hx hb dL_texts_285 rfl (lv_at hl 0 rfl) ?_
  refine lv_ldc2 (v := 3906086745882243372) hx hb hown (hts _ (List.mem_cons_of_mem _ kw_constantLong_RL_175)) dL_texts_286 ?_
  refine lv_ldc2 (v := 13563842536745521) hx hb hown (hts _ (List.mem_cons_of_mem _ kw_constantLong_RL_177)) dL_texts_289 ?_
  refine lv_iconst (v := (-1)) hx hb dL_texts_292 (by decide) ?_
  refine gm_ci (gm_callS (As := [.ref β, .long 3906086745882243372, .long 13563842536745521, .int (-1)]) (rest := []) ⟨hx, hb, hml, hown, hts⟩ hK (c_L_isTold l D cy β X1_18 3906086745882243372 13563842536745521 (-1) hE.iv) (va_cwS 4 hts (kIn ks_isTold) rfl rfl rfl (by decide +kernel) ⟨Nat.le_of_ble_eq_true rfl, Nat.le_of_ble_eq_true rfl⟩) hR rfl hl.1 rfl (Nat.le_of_ble_eq_true rfl) dL_texts_293 (Nat.le_of_ble_eq_true rfl) (Nat.le_of_ble_eq_true rfl)) hS TA_CA (fun H locs hR hz9 hfr hS => ?_)
  replace hzl := Nat.le_trans hzl hz9
  obtain ⟨a9, T1_19, hE, hk⟩ := eH_isTold hE hk
  rw [a9]
  generalize (p_L_isTold X1_18 3906086745882243372 13563842536745521 (-1)).2 = X1_19 at hR hE
  clear hfr hz9 a9
  refine lv_if_ne (tgt := 301) hx hb dL_texts_296 (by decide) (fun _ => ?_) (fun c => absurd c (by decide))
  refine lv_aload_n hx hb dL_texts_301 rfl (lv_at hl 0 rfl) ?_
  refine lv_ldc2 (v := 4123389851769516844) hx hb hown (hts _ (List.mem_cons_of_mem _ kw_constantLong_RL_179)) dL_texts_302 ?_
  refine lv_ldc2 (v := 13850815071857209) hx hb hown (hts _ (List.mem_cons_of_mem _ kw_constantLong_RL_181)) dL_texts_305 ?_
  refine lv_iconst (v := (-1)) hx hb dL_texts_308 (by decide) ?_
  refine gm_ci (gm_callS (As := [.ref β, .long 4123389851769516844, .long 13850815071857209, .int (-1)]) (rest := []) ⟨hx, hb, hml, hown, hts⟩ hK (c_L_isTold l D cy β X1_19 4123389851769516844 13850815071857209 (-1) hE.iv) (va_cwS 4 hts (kIn ks_isTold) rfl rfl rfl (by decide +kernel) ⟨Nat.le_of_ble_eq_true rfl, Nat.le_of_ble_eq_true rfl⟩) hR rfl hl.1 rfl (Nat.le_of_ble_eq_true rfl) dL_texts_309 (Nat.le_of_ble_eq_true rfl) (Nat.le_of_ble_eq_true rfl)) hS TA_CA (fun H locs hR hz9 hfr hS => ?_)
  replace hzl := Nat.le_trans hzl hz9
  obtain ⟨a9, T1_20, hE, hk⟩ := eH_isTold hE hk
  rw [a9]
  generalize (p_L_isTold X1_19 4123389851769516844 13850815071857209 (-1)).2 = X1_20 at hR hE
  clear hfr hz9 a9
  refine lv_if_ne (tgt := 317) hx hb dL_texts_312 (by decide) (fun _ => ?_) (fun c => absurd c (by decide))
  refine lv_aload_n hx hb dL_texts_317 rfl (lv_at hl 0 rfl) ?_
  refine lv_ldc2 (v := 120) hx hb hown (hts _ (List.mem_cons_of_mem _ kw_constantLong_RL_183)) dL_texts_318 ?_
  refine lv_lconst (v := 0) hx hb dL_texts_321 (by decide) ?_
  refine lv_bipush (v := (-100)) hx hb dL_texts_322 (by decide) ?_
  refine gm_ci (gm_callS (As := [.ref β, .long 120, .long 0, .int (-100)]) (rest := []) ⟨hx, hb, hml, hown, hts⟩ hK (c_L_isTold l D cy β X1_20 120 0 (-100) hE.iv) (va_cwS 4 hts (kIn ks_isTold) rfl rfl rfl (by decide +kernel) ⟨Nat.le_of_ble_eq_true rfl, Nat.le_of_ble_eq_true rfl⟩) hR rfl hl.1 rfl (Nat.le_of_ble_eq_true rfl) dL_texts_324 (Nat.le_of_ble_eq_true rfl) (Nat.le_of_ble_eq_true rfl)) hS TA_CA (fun H locs hR hz9 hfr hS => ?_)
  replace hzl := Nat.le_trans hzl hz9
  obtain ⟨a9, T1_21, hE, hk⟩ := eH_isTold hE hk
  rw [a9]
  generalize (p_L_isTold X1_20 120 0 (-100)).2 = X1_21 at hR hE
  clear hfr hz9 a9
  refine lv_if_ne (tgt := 332) hx hb dL_texts_327 (by decide) (fun _ => ?_) (fun c => absurd c (by decide))
  refine lv_aload_n hx hb dL_texts_332 rfl (lv_at hl 0 rfl) ?_
  refine lv_ldc2 (v := 44) hx hb hown (hts _ (List.mem_cons_of_mem _ kw_constantLong_RL_185)) dL_texts_333 ?_
  refine lv_lconst (v := 0) hx hb dL_texts_336 (by decide) ?_
  refine lv_bipush (v := (-100)) hx hb dL_texts_337 (by decide) ?_
  refine gm_ci (gm_callS (As := [.ref β, .long 44, .long 0, .int (-100)]) (rest := []) ⟨hx, hb, hml, hown, hts⟩ hK (c_L_isTold l D cy β X1_21 44 0 (-100) hE.iv) (va_cwS 4 hts (kIn ks_isTold) rfl rfl rfl (by decide +kernel) ⟨Nat.le_of_ble_eq_true rfl, Nat.le_of_ble_eq_true rfl⟩) hR rfl hl.1 rfl (Nat.le_of_ble_eq_true rfl) dL_texts_339 (Nat.le_of_ble_eq_true rfl) (Nat.le_of_ble_eq_true rfl)) hS TA_CA (fun H locs hR hz9 hfr hS => ?_)
  replace hzl := Nat.le_trans hzl hz9
  obtain ⟨a9, T1_22, hE, hk⟩ := eH_isTold hE hk
  rw [a9]
  generalize (p_L_isTold X1_21 44 0 (-100)).2 = X1_22 at hR hE
  clear hfr hz9 a9
  refine lv_if_ne (tgt := 347) hx hb dL_texts_342 (by decide) (fun _ => ?_) (fun c => absurd c (by decide))
  refine lv_aload_n hx hb dL_texts_347 rfl (lv_at hl 0 rfl) ?_
  refine lv_ldc2 (v := 3471203478669442609) hx hb hown (hts _ (List.mem_cons_of_mem _ kw_constantLong_RL_187)) dL_texts_348 ?_
  refine lv_ldc2 (v := 3222073) hx hb hown (hts _ (List.mem_cons_of_mem _ kw_constantLong_RL_189)) dL_texts_351 ?_
  refine lv_iconst (v := (-1)) hx hb dL_texts_354 (by decide) ?_
  refine gm_ci (gm_callS (As := [.ref β, .long 3471203478669442609, .long 3222073, .int (-1)]) (rest := []) ⟨hx, hb, hml, hown, hts⟩ hK (c_L_isTold l D cy β X1_22 3471203478669442609 3222073 (-1) hE.iv) (va_cwS 4 hts (kIn ks_isTold) rfl rfl rfl (by decide +kernel) ⟨Nat.le_of_ble_eq_true rfl, Nat.le_of_ble_eq_true rfl⟩) hR rfl hl.1 rfl (Nat.le_of_ble_eq_true rfl) dL_texts_355 (Nat.le_of_ble_eq_true rfl) (Nat.le_of_ble_eq_true rfl)) hS TA_CA (fun H locs hR hz9 hfr hS => ?_)
  replace hzl := Nat.le_trans hzl hz9
  obtain ⟨a9, T1_23, hE, hk⟩ := eH_isTold hE hk
  rw [a9]
  generalize (p_L_isTold X1_22 3471203478669442609 3222073 (-1)).2 = X1_23 at hR hE
  clear hfr hz9 a9
  refine lv_if_ne (tgt := 363) hx hb dL_texts_358 (by decide) (fun _ => ?_) (fun c => absurd c (by decide))
  refine lv_aload_n hx hb dL_texts_363 rfl (lv_at hl 0 rfl) ?_
  refine lv_ldc2 (v := 3975607736446500400) hx hb hown (hts _ (List.mem_cons_of_mem _ kw_constantLong_RL_191)) dL_texts_364 ?_
  refine lv_lconst (v := 0) hx hb dL_texts_367 (by decide) ?_
  refine lv_bipush (v := (-108)) hx hb dL_texts_368 (by decide) ?_
  refine gm_ci (gm_callS (As := [.ref β, .long 3975607736446500400, .long 0, .int (-108)]) (rest := []) ⟨hx, hb, hml, hown, hts⟩ hK (c_L_isTold l D cy β X1_23 3975607736446500400 0 (-108) hE.iv) (va_cwS 4 hts (kIn ks_isTold) rfl rfl rfl (by decide +kernel) ⟨Nat.le_of_ble_eq_true rfl, Nat.le_of_ble_eq_true rfl⟩) hR rfl hl.1 rfl (Nat.le_of_ble_eq_true rfl) dL_texts_370 (Nat.le_of_ble_eq_true rfl) (Nat.le_of_ble_eq_true rfl)) hS TA_CA (fun H locs hR hz9 hfr hS => ?_)
  replace hzl := Nat.le_trans hzl hz9
  obtain ⟨a9, T1_24, hE, hk⟩ := eH_isTold hE hk
  rw [a9]
  generalize (p_L_isTold X1_23 3975607736446500400 0 (-108)).2 = X1_24 at hR hE
  clear hfr hz9 a9
  refine lv_if_ne (tgt := 378) hx hb dL_texts_373 (by decide) (fun _ => ?_) (fun c => absurd c (by decide))
  refine lv_aload_n hx hb dL_texts_378 rfl (lv_at hl 0 rfl) ?_
  refine gm_ci (gm_call (As := []) (rest := []) (ci := 8) (q := (RX8, TX8, 8)) ⟨hx, hb, hml, hown, hts⟩ hK (c_X8_clearText l D cy β X1_24 ) (cwV 0 hts (kIn kv_clearText) rfl rfl rfl (by decide +kernel) ⟨Nat.le_of_ble_eq_true rfl, Nat.le_of_ble_eq_true rfl⟩) (TR.mk0 hR) rfl hR rfl hl.1 rfl (Nat.le_of_ble_eq_true rfl) dL_texts_379 (Nat.le_of_ble_eq_true rfl) (Nat.le_of_ble_eq_true rfl)) hS TA_CA (fun H locs hR hz9 hfr hS => ?_)
  replace hzl := Nat.le_trans hzl hz9
  obtain ⟨a9, T1_25, hE, hk⟩ := eH_clearText hE hk
  rw [a9]
  generalize (p_X8_clearText X1_24).2 = X1_25 at hR hE
  clear hfr hz9 a9
  refine lv_istore_n (lv' := [(1, .int 8), (0, .ref β)]) hx hb dL_texts_382 rfl hl (by decide) rfl (fun ls hl => ?_)
  refine lv_iconst (v := 1) hx hb dL_texts_383 (by decide) ?_
  refine lv_istore_n (lv' := [(2, .int 1), (1, .int 8), (0, .ref β)]) hx hb dL_texts_384 rfl hl (by decide) rfl (fun ls hl => ?_)
  refine lv_iload_n hx hb dL_texts_385 rfl (lv_at hl 0 rfl) ?_
  refine lv_bipush (v := 60) hx hb dL_texts_386 (by decide) ?_
  refine lv_icmp_gt (tgt := 409) hx hb dL_texts_388 (by decide) (fun c => absurd c (by decide)) (fun _ => ?_)
  refine lv_aload_n hx hb dL_texts_391 rfl (lv_at hl 2 rfl) ?_
  refine lv_bipush (v := 48) hx hb dL_texts_392 (by decide) ?_
  refine gm_ci (gm_call (As := [.int 48]) (rest := []) (ci := 8) (q := (RX8, TX8, 8)) ⟨hx, hb, hml, hown, hts⟩ hK (c_X8_type l D cy β X1_25 48 ) (cwV 1 hts (kIn kv_type) rfl rfl rfl (by decide +kernel) ⟨Nat.le_of_ble_eq_true rfl, Nat.le_of_ble_eq_true rfl⟩) (TR.mk0 hR) rfl hR rfl hl.1 rfl (Nat.le_of_ble_eq_true rfl) dL_texts_394 (Nat.le_of_ble_eq_true rfl) (Nat.le_of_ble_eq_true rfl)) hS TA_CA (fun H locs hR hz9 hfr hS => ?_)
  replace hzl := Nat.le_trans hzl hz9
  obtain ⟨a9, T1_26, hE, hk⟩ := eH_type hE hk
  rw [a9]
  generalize (p_X8_type X1_25 48).2 = X1_26 at hR hE
  clear hfr hz9 a9
  refine lv_iload_n hx hb dL_texts_397 rfl (lv_at hl 0 rfl) ?_
  refine lv_icmp_eq (tgt := 403) hx hb dL_texts_398 (by decide) (fun _ => ?_) (fun c => absurd c (by decide))
  refine lv_iinc (v := 2) (lv' := [(2, .int 2), (1, .int 8), (0, .ref β)]) hx hb dL_texts_403 hl (k := 0) rfl (by decide) (by decide) rfl (fun ls hl => ?_)
  refine lv_goto (tgt := 385) hx hb dL_texts_406 (by decide) ?_
  refine lv_iload_n hx hb dL_texts_385 rfl (lv_at hl 0 rfl) ?_
  refine lv_bipush (v := 60) hx hb dL_texts_386 (by decide) ?_
  refine lv_icmp_gt (tgt := 409) hx hb dL_texts_388 (by decide) (fun c => absurd c (by decide)) (fun _ => ?_)
  refine lv_aload_n hx hb dL_texts_391 rfl (lv_at hl 2 rfl) ?_
  refine lv_bipush (v := 48) hx hb dL_texts_392 (by decide) ?_
  refine gm_ci (gm_call (As := [.int 48]) (rest := []) (ci := 8) (q := (RX8, TX8, 8)) ⟨hx, hb, hml, hown, hts⟩ hK (c_X8_type l D cy β X1_26 48 ) (cwV 1 hts (kIn kv_type) rfl rfl rfl (by decide +kernel) ⟨Nat.le_of_ble_eq_true rfl, Nat.le_of_ble_eq_true rfl⟩) (TR.mk0 hR) rfl hR rfl hl.1 rfl (Nat.le_of_ble_eq_true rfl) dL_texts_394 (Nat.le_of_ble_eq_true rfl) (Nat.le_of_ble_eq_true rfl)) hS TA_CA (fun H locs hR hz9 hfr hS => ?_)
  replace hzl := Nat.le_trans hzl hz9
  obtain ⟨a9, T1_27, hE, hk⟩ := eH_type hE hk
  rw [a9]
  generalize (p_X8_type X1_26 48).2 = X1_27 at hR hE
  clear hfr hz9 a9
  refine lv_iload_n hx hb dL_texts_397 rfl (lv_at hl 0 rfl) ?_
  refine lv_icmp_eq (tgt := 403) hx hb dL_texts_398 (by decide) (fun _ => ?_) (fun c => absurd c (by decide))
  refine lv_iinc (v := 3) (lv' := [(2, .int 3), (1, .int 8), (0, .ref β)]) hx hb dL_texts_403 hl (k := 0) rfl (by decide) (by decide) rfl (fun ls hl => ?_)
  refine lv_goto (tgt := 385) hx hb dL_texts_406 (by decide) ?_
  refine lv_iload_n hx hb dL_texts_385 rfl (lv_at hl 0 rfl) ?_
  refine lv_bipush (v := 60) hx hb dL_texts_386 (by decide) ?_
  refine lv_icmp_gt (tgt := 409) hx hb dL_texts_388 (by decide) (fun c => absurd c (by decide)) (fun _ => ?_)
  refine lv_aload_n hx hb dL_texts_391 rfl (lv_at hl 2 rfl) ?_
  refine lv_bipush (v := 48) hx hb dL_texts_392 (by decide) ?_
  refine gm_ci (gm_call (As := [.int 48]) (rest := []) (ci := 8) (q := (RX8, TX8, 8)) ⟨hx, hb, hml, hown, hts⟩ hK (c_X8_type l D cy β X1_27 48 ) (cwV 1 hts (kIn kv_type) rfl rfl rfl (by decide +kernel) ⟨Nat.le_of_ble_eq_true rfl, Nat.le_of_ble_eq_true rfl⟩) (TR.mk0 hR) rfl hR rfl hl.1 rfl (Nat.le_of_ble_eq_true rfl) dL_texts_394 (Nat.le_of_ble_eq_true rfl) (Nat.le_of_ble_eq_true rfl)) hS TA_CA (fun H locs hR hz9 hfr hS => ?_)
  replace hzl := Nat.le_trans hzl hz9
  obtain ⟨a9, T1_28, hE, hk⟩ := eH_type hE hk
  rw [a9]
  generalize (p_X8_type X1_27 48).2 = X1_28 at hR hE
  clear hfr hz9 a9
  refine lv_iload_n hx hb dL_texts_397 rfl (lv_at hl 0 rfl) ?_
  refine lv_icmp_eq (tgt := 403) hx hb dL_texts_398 (by decide) (fun _ => ?_) (fun c => absurd c (by decide))
  refine lv_iinc (v := 4) (lv' := [(2, .int 4), (1, .int 8), (0, .ref β)]) hx hb dL_texts_403 hl (k := 0) rfl (by decide) (by decide) rfl (fun ls hl => ?_)
  refine lv_goto (tgt := 385) hx hb dL_texts_406 (by decide) ?_
  refine lv_iload_n hx hb dL_texts_385 rfl (lv_at hl 0 rfl) ?_
  refine lv_bipush (v := 60) hx hb dL_texts_386 (by decide) ?_
  refine lv_icmp_gt (tgt := 409) hx hb dL_texts_388 (by decide) (fun c => absurd c (by decide)) (fun _ => ?_)
  refine lv_aload_n hx hb dL_texts_391 rfl (lv_at hl 2 rfl) ?_
  refine lv_bipush (v := 48) hx hb dL_texts_392 (by decide) ?_
  refine gm_ci (gm_call (As := [.int 48]) (rest := []) (ci := 8) (q := (RX8, TX8, 8)) ⟨hx, hb, hml, hown, hts⟩ hK (c_X8_type l D cy β X1_28 48 ) (cwV 1 hts (kIn kv_type) rfl rfl rfl (by decide +kernel) ⟨Nat.le_of_ble_eq_true rfl, Nat.le_of_ble_eq_true rfl⟩) (TR.mk0 hR) rfl hR rfl hl.1 rfl (Nat.le_of_ble_eq_true rfl) dL_texts_394 (Nat.le_of_ble_eq_true rfl) (Nat.le_of_ble_eq_true rfl)) hS TA_CA (fun H locs hR hz9 hfr hS => ?_)
  replace hzl := Nat.le_trans hzl hz9
  obtain ⟨a9, T1_29, hE, hk⟩ := eH_type hE hk
  rw [a9]
  generalize (p_X8_type X1_28 48).2 = X1_29 at hR hE
  clear hfr hz9 a9
  refine lv_iload_n hx hb dL_texts_397 rfl (lv_at hl 0 rfl) ?_
  refine lv_icmp_eq (tgt := 403) hx hb dL_texts_398 (by decide) (fun _ => ?_) (fun c => absurd c (by decide))
  refine lv_iinc (v := 5) (lv' := [(2, .int 5), (1, .int 8), (0, .ref β)]) hx hb dL_texts_403 hl (k := 0) rfl (by decide) (by decide) rfl (fun ls hl => ?_)
  refine lv_goto (tgt := 385) hx hb dL_texts_406 (by decide) ?_
  refine lv_iload_n hx hb dL_texts_385 rfl (lv_at hl 0 rfl) ?_
  refine lv_bipush (v := 60) hx hb dL_texts_386 (by decide) ?_
  refine lv_icmp_gt (tgt := 409) hx hb dL_texts_388 (by decide) (fun c => absurd c (by decide)) (fun _ => ?_)
  refine lv_aload_n hx hb dL_texts_391 rfl (lv_at hl 2 rfl) ?_
  refine lv_bipush (v := 48) hx hb dL_texts_392 (by decide) ?_
  refine gm_ci (gm_call (As := [.int 48]) (rest := []) (ci := 8) (q := (RX8, TX8, 8)) ⟨hx, hb, hml, hown, hts⟩ hK (c_X8_type l D cy β X1_29 48 ) (cwV 1 hts (kIn kv_type) rfl rfl rfl (by decide +kernel) ⟨Nat.le_of_ble_eq_true rfl, Nat.le_of_ble_eq_true rfl⟩) (TR.mk0 hR) rfl hR rfl hl.1 rfl (Nat.le_of_ble_eq_true rfl) dL_texts_394 (Nat.le_of_ble_eq_true rfl) (Nat.le_of_ble_eq_true rfl)) hS TA_CA (fun H locs hR hz9 hfr hS => ?_)
  replace hzl := Nat.le_trans hzl hz9
  obtain ⟨a9, T1_30, hE, hk⟩ := eH_type hE hk
  rw [a9]
  generalize (p_X8_type X1_29 48).2 = X1_30 at hR hE
  clear hfr hz9 a9
  refine lv_iload_n hx hb dL_texts_397 rfl (lv_at hl 0 rfl) ?_
  refine lv_icmp_eq (tgt := 403) hx hb dL_texts_398 (by decide) (fun _ => ?_) (fun c => absurd c (by decide))
  refine lv_iinc (v := 6) (lv' := [(2, .int 6), (1, .int 8), (0, .ref β)]) hx hb dL_texts_403 hl (k := 0) rfl (by decide) (by decide) rfl (fun ls hl => ?_)
  refine lv_goto (tgt := 385) hx hb dL_texts_406 (by decide) ?_
  refine lv_iload_n hx hb dL_texts_385 rfl (lv_at hl 0 rfl) ?_
  refine lv_bipush (v := 60) hx hb dL_texts_386 (by decide) ?_
  refine lv_icmp_gt (tgt := 409) hx hb dL_texts_388 (by decide) (fun c => absurd c (by decide)) (fun _ => ?_)
  refine lv_aload_n hx hb dL_texts_391 rfl (lv_at hl 2 rfl) ?_
  refine lv_bipush (v := 48) hx hb dL_texts_392 (by decide) ?_
  refine gm_ci (gm_call (As := [.int 48]) (rest := []) (ci := 8) (q := (RX8, TX8, 8)) ⟨hx, hb, hml, hown, hts⟩ hK (c_X8_type l D cy β X1_30 48 ) (cwV 1 hts (kIn kv_type) rfl rfl rfl (by decide +kernel) ⟨Nat.le_of_ble_eq_true rfl, Nat.le_of_ble_eq_true rfl⟩) (TR.mk0 hR) rfl hR rfl hl.1 rfl (Nat.le_of_ble_eq_true rfl) dL_texts_394 (Nat.le_of_ble_eq_true rfl) (Nat.le_of_ble_eq_true rfl)) hS TA_CA (fun H locs hR hz9 hfr hS => ?_)
  replace hzl := Nat.le_trans hzl hz9
  obtain ⟨a9, T1_31, hE, hk⟩ := eH_type hE hk
  rw [a9]
  generalize (p_X8_type X1_30 48).2 = X1_31 at hR hE
  clear hfr hz9 a9
  refine lv_iload_n hx hb dL_texts_397 rfl (lv_at hl 0 rfl) ?_
  refine lv_icmp_eq (tgt := 403) hx hb dL_texts_398 (by decide) (fun _ => ?_) (fun c => absurd c (by decide))
  refine lv_iinc (v := 7) (lv' := [(2, .int 7), (1, .int 8), (0, .ref β)]) hx hb dL_texts_403 hl (k := 0) rfl (by decide) (by decide) rfl (fun ls hl => ?_)
  refine lv_goto (tgt := 385) hx hb dL_texts_406 (by decide) ?_
  refine lv_iload_n hx hb dL_texts_385 rfl (lv_at hl 0 rfl) ?_
  refine lv_bipush (v := 60) hx hb dL_texts_386 (by decide) ?_
  refine lv_icmp_gt (tgt := 409) hx hb dL_texts_388 (by decide) (fun c => absurd c (by decide)) (fun _ => ?_)
  refine lv_aload_n hx hb dL_texts_391 rfl (lv_at hl 2 rfl) ?_
  refine lv_bipush (v := 48) hx hb dL_texts_392 (by decide) ?_
  refine gm_ci (gm_call (As := [.int 48]) (rest := []) (ci := 8) (q := (RX8, TX8, 8)) ⟨hx, hb, hml, hown, hts⟩ hK (c_X8_type l D cy β X1_31 48 ) (cwV 1 hts (kIn kv_type) rfl rfl rfl (by decide +kernel) ⟨Nat.le_of_ble_eq_true rfl, Nat.le_of_ble_eq_true rfl⟩) (TR.mk0 hR) rfl hR rfl hl.1 rfl (Nat.le_of_ble_eq_true rfl) dL_texts_394 (Nat.le_of_ble_eq_true rfl) (Nat.le_of_ble_eq_true rfl)) hS TA_CA (fun H locs hR hz9 hfr hS => ?_)
  replace hzl := Nat.le_trans hzl hz9
  obtain ⟨a9, T1_32, hE, hk⟩ := eH_type hE hk
  rw [a9]
  generalize (p_X8_type X1_31 48).2 = X1_32 at hR hE
  clear hfr hz9 a9
  refine lv_iload_n hx hb dL_texts_397 rfl (lv_at hl 0 rfl) ?_
  refine lv_icmp_eq (tgt := 403) hx hb dL_texts_398 (by decide) (fun _ => ?_) (fun c => absurd c (by decide))
  refine lv_iinc (v := 8) (lv' := [(2, .int 8), (1, .int 8), (0, .ref β)]) hx hb dL_texts_403 hl (k := 0) rfl (by decide) (by decide) rfl (fun ls hl => ?_)
  refine lv_goto (tgt := 385) hx hb dL_texts_406 (by decide) ?_
  refine lv_iload_n hx hb dL_texts_385 rfl (lv_at hl 0 rfl) ?_
  refine lv_bipush (v := 60) hx hb dL_texts_386 (by decide) ?_
  refine lv_icmp_gt (tgt := 409) hx hb dL_texts_388 (by decide) (fun c => absurd c (by decide)) (fun _ => ?_)
  refine lv_aload_n hx hb dL_texts_391 rfl (lv_at hl 2 rfl) ?_
  refine lv_bipush (v := 48) hx hb dL_texts_392 (by decide) ?_
  refine gm_ci (gm_call (As := [.int 48]) (rest := []) (ci := 8) (q := (RX8, TX8, 8)) ⟨hx, hb, hml, hown, hts⟩ hK (c_X8_type l D cy β X1_32 48 ) (cwV 1 hts (kIn kv_type) rfl rfl rfl (by decide +kernel) ⟨Nat.le_of_ble_eq_true rfl, Nat.le_of_ble_eq_true rfl⟩) (TR.mk0 hR) rfl hR rfl hl.1 rfl (Nat.le_of_ble_eq_true rfl) dL_texts_394 (Nat.le_of_ble_eq_true rfl) (Nat.le_of_ble_eq_true rfl)) hS TA_CA (fun H locs hR hz9 hfr hS => ?_)
  replace hzl := Nat.le_trans hzl hz9
  obtain ⟨a9, T1_33, hE, hk⟩ := eH_type hE hk
  rw [a9]
  generalize (p_X8_type X1_32 48).2 = X1_33 at hR hE
  clear hfr hz9 a9
  refine lv_iload_n hx hb dL_texts_397 rfl (lv_at hl 0 rfl) ?_
  refine lv_icmp_eq (tgt := 403) hx hb dL_texts_398 (by decide) (fun _ => ?_) (fun c => absurd c (by decide))
  refine lv_iinc (v := 9) (lv' := [(2, .int 9), (1, .int 8), (0, .ref β)]) hx hb dL_texts_403 hl (k := 0) rfl (by decide) (by decide) rfl (fun ls hl => ?_)
  refine lv_goto (tgt := 385) hx hb dL_texts_406 (by decide) ?_
  refine lv_iload_n hx hb dL_texts_385 rfl (lv_at hl 0 rfl) ?_
  refine lv_bipush (v := 60) hx hb dL_texts_386 (by decide) ?_
  refine lv_icmp_gt (tgt := 409) hx hb dL_texts_388 (by decide) (fun c => absurd c (by decide)) (fun _ => ?_)
  refine lv_aload_n hx hb dL_texts_391 rfl (lv_at hl 2 rfl) ?_
  refine lv_bipush (v := 48) hx hb dL_texts_392 (by decide) ?_
  refine gm_ci (gm_call (As := [.int 48]) (rest := []) (ci := 8) (q := (RX8, TX8, 8)) ⟨hx, hb, hml, hown, hts⟩ hK (c_X8_type l D cy β X1_33 48 ) (cwV 1 hts (kIn kv_type) rfl rfl rfl (by decide +kernel) ⟨Nat.le_of_ble_eq_true rfl, Nat.le_of_ble_eq_true rfl⟩) (TR.mk0 hR) rfl hR rfl hl.1 rfl (Nat.le_of_ble_eq_true rfl) dL_texts_394 (Nat.le_of_ble_eq_true rfl) (Nat.le_of_ble_eq_true rfl)) hS TA_CA (fun H locs hR hz9 hfr hS => ?_)
  replace hzl := Nat.le_trans hzl hz9
  obtain ⟨a9, T1_34, hE, hk⟩ := eH_type hE hk
  rw [a9]
  generalize (p_X8_type X1_33 48).2 = X1_34 at hR hE
  clear hfr hz9 a9
  refine lv_iload_n hx hb dL_texts_397 rfl (lv_at hl 0 rfl) ?_
  refine lv_icmp_eq (tgt := 403) hx hb dL_texts_398 (by decide) (fun _ => ?_) (fun c => absurd c (by decide))
  refine lv_iinc (v := 10) (lv' := [(2, .int 10), (1, .int 8), (0, .ref β)]) hx hb dL_texts_403 hl (k := 0) rfl (by decide) (by decide) rfl (fun ls hl => ?_)
  refine lv_goto (tgt := 385) hx hb dL_texts_406 (by decide) ?_
  refine lv_iload_n hx hb dL_texts_385 rfl (lv_at hl 0 rfl) ?_
  refine lv_bipush (v := 60) hx hb dL_texts_386 (by decide) ?_
  refine lv_icmp_gt (tgt := 409) hx hb dL_texts_388 (by decide) (fun c => absurd c (by decide)) (fun _ => ?_)
  refine lv_aload_n hx hb dL_texts_391 rfl (lv_at hl 2 rfl) ?_
  refine lv_bipush (v := 48) hx hb dL_texts_392 (by decide) ?_
  refine gm_ci (gm_call (As := [.int 48]) (rest := []) (ci := 8) (q := (RX8, TX8, 8)) ⟨hx, hb, hml, hown, hts⟩ hK (c_X8_type l D cy β X1_34 48 ) (cwV 1 hts (kIn kv_type) rfl rfl rfl (by decide +kernel) ⟨Nat.le_of_ble_eq_true rfl, Nat.le_of_ble_eq_true rfl⟩) (TR.mk0 hR) rfl hR rfl hl.1 rfl (Nat.le_of_ble_eq_true rfl) dL_texts_394 (Nat.le_of_ble_eq_true rfl) (Nat.le_of_ble_eq_true rfl)) hS TA_CA (fun H locs hR hz9 hfr hS => ?_)
  replace hzl := Nat.le_trans hzl hz9
  obtain ⟨a9, T1_35, hE, hk⟩ := eH_type hE hk
  rw [a9]
  generalize (p_X8_type X1_34 48).2 = X1_35 at hR hE
  clear hfr hz9 a9
  refine lv_iload_n hx hb dL_texts_397 rfl (lv_at hl 0 rfl) ?_
  refine lv_icmp_eq (tgt := 403) hx hb dL_texts_398 (by decide) (fun _ => ?_) (fun c => absurd c (by decide))
  refine lv_iinc (v := 11) (lv' := [(2, .int 11), (1, .int 8), (0, .ref β)]) hx hb dL_texts_403 hl (k := 0) rfl (by decide) (by decide) rfl (fun ls hl => ?_)
  refine lv_goto (tgt := 385) hx hb dL_texts_406 (by decide) ?_
  refine lv_iload_n hx hb dL_texts_385 rfl (lv_at hl 0 rfl) ?_
  refine lv_bipush (v := 60) hx hb dL_texts_386 (by decide) ?_
  refine lv_icmp_gt (tgt := 409) hx hb dL_texts_388 (by decide) (fun c => absurd c (by decide)) (fun _ => ?_)
  refine lv_aload_n hx hb dL_texts_391 rfl (lv_at hl 2 rfl) ?_
  refine lv_bipush (v := 48) hx hb dL_texts_392 (by decide) ?_
  refine gm_ci (gm_call (As := [.int 48]) (rest := []) (ci := 8) (q := (RX8, TX8, 8)) ⟨hx, hb, hml, hown, hts⟩ hK (c_X8_type l D cy β X1_35 48 ) (cwV 1 hts (kIn kv_type) rfl rfl rfl (by decide +kernel) ⟨Nat.le_of_ble_eq_true rfl, Nat.le_of_ble_eq_true rfl⟩) (TR.mk0 hR) rfl hR rfl hl.1 rfl (Nat.le_of_ble_eq_true rfl) dL_texts_394 (Nat.le_of_ble_eq_true rfl) (Nat.le_of_ble_eq_true rfl)) hS TA_CA (fun H locs hR hz9 hfr hS => ?_)
  replace hzl := Nat.le_trans hzl hz9
  obtain ⟨a9, T1_36, hE, hk⟩ := eH_type hE hk
  rw [a9]
  generalize (p_X8_type X1_35 48).2 = X1_36 at hR hE
  clear hfr hz9 a9
  refine lv_iload_n hx hb dL_texts_397 rfl (lv_at hl 0 rfl) ?_
  refine lv_icmp_eq (tgt := 403) hx hb dL_texts_398 (by decide) (fun _ => ?_) (fun c => absurd c (by decide))
  refine lv_iinc (v := 12) (lv' := [(2, .int 12), (1, .int 8), (0, .ref β)]) hx hb dL_texts_403 hl (k := 0) rfl (by decide) (by decide) rfl (fun ls hl => ?_)
  refine lv_goto (tgt := 385) hx hb dL_texts_406 (by decide) ?_
  refine lv_iload_n hx hb dL_texts_385 rfl (lv_at hl 0 rfl) ?_
  refine lv_bipush (v := 60) hx hb dL_texts_386 (by decide) ?_
  refine lv_icmp_gt (tgt := 409) hx hb dL_texts_388 (by decide) (fun c => absurd c (by decide)) (fun _ => ?_)
  refine lv_aload_n hx hb dL_texts_391 rfl (lv_at hl 2 rfl) ?_
  refine lv_bipush (v := 48) hx hb dL_texts_392 (by decide) ?_
  refine gm_ci (gm_call (As := [.int 48]) (rest := []) (ci := 8) (q := (RX8, TX8, 8)) ⟨hx, hb, hml, hown, hts⟩ hK (c_X8_type l D cy β X1_36 48 ) (cwV 1 hts (kIn kv_type) rfl rfl rfl (by decide +kernel) ⟨Nat.le_of_ble_eq_true rfl, Nat.le_of_ble_eq_true rfl⟩) (TR.mk0 hR) rfl hR rfl hl.1 rfl (Nat.le_of_ble_eq_true rfl) dL_texts_394 (Nat.le_of_ble_eq_true rfl) (Nat.le_of_ble_eq_true rfl)) hS TA_CA (fun H locs hR hz9 hfr hS => ?_)
  replace hzl := Nat.le_trans hzl hz9
  obtain ⟨a9, T1_37, hE, hk⟩ := eH_type hE hk
  rw [a9]
  generalize (p_X8_type X1_36 48).2 = X1_37 at hR hE
  clear hfr hz9 a9
  refine lv_iload_n hx hb dL_texts_397 rfl (lv_at hl 0 rfl) ?_
  refine lv_icmp_eq (tgt := 403) hx hb dL_texts_398 (by decide) (fun _ => ?_) (fun c => absurd c (by decide))
  refine lv_iinc (v := 13) (lv' := [(2, .int 13), (1, .int 8), (0, .ref β)]) hx hb dL_texts_403 hl (k := 0) rfl (by decide) (by decide) rfl (fun ls hl => ?_)
  refine lv_goto (tgt := 385) hx hb dL_texts_406 (by decide) ?_
  refine lv_iload_n hx hb dL_texts_385 rfl (lv_at hl 0 rfl) ?_
  refine lv_bipush (v := 60) hx hb dL_texts_386 (by decide) ?_
  refine lv_icmp_gt (tgt := 409) hx hb dL_texts_388 (by decide) (fun c => absurd c (by decide)) (fun _ => ?_)
  refine lv_aload_n hx hb dL_texts_391 rfl (lv_at hl 2 rfl) ?_
  refine lv_bipush (v := 48) hx hb dL_texts_392 (by decide) ?_
  refine gm_ci (gm_call (As := [.int 48]) (rest := []) (ci := 8) (q := (RX8, TX8, 8)) ⟨hx, hb, hml, hown, hts⟩ hK (c_X8_type l D cy β X1_37 48 ) (cwV 1 hts (kIn kv_type) rfl rfl rfl (by decide +kernel) ⟨Nat.le_of_ble_eq_true rfl, Nat.le_of_ble_eq_true rfl⟩) (TR.mk0 hR) rfl hR rfl hl.1 rfl (Nat.le_of_ble_eq_true rfl) dL_texts_394 (Nat.le_of_ble_eq_true rfl) (Nat.le_of_ble_eq_true rfl)) hS TA_CA (fun H locs hR hz9 hfr hS => ?_)
  replace hzl := Nat.le_trans hzl hz9
  obtain ⟨a9, T1_38, hE, hk⟩ := eH_type hE hk
  rw [a9]
  generalize (p_X8_type X1_37 48).2 = X1_38 at hR hE
  clear hfr hz9 a9
  refine lv_iload_n hx hb dL_texts_397 rfl (lv_at hl 0 rfl) ?_
  refine lv_icmp_eq (tgt := 403) hx hb dL_texts_398 (by decide) (fun _ => ?_) (fun c => absurd c (by decide))
  refine lv_iinc (v := 14) (lv' := [(2, .int 14), (1, .int 8), (0, .ref β)]) hx hb dL_texts_403 hl (k := 0) rfl (by decide) (by decide) rfl (fun ls hl => ?_)
  refine lv_goto (tgt := 385) hx hb dL_texts_406 (by decide) ?_
  refine lv_iload_n hx hb dL_texts_385 rfl (lv_at hl 0 rfl) ?_
  refine lv_bipush (v := 60) hx hb dL_texts_386 (by decide) ?_
  refine lv_icmp_gt (tgt := 409) hx hb dL_texts_388 (by decide) (fun c => absurd c (by decide)) (fun _ => ?_)
  refine lv_aload_n hx hb dL_texts_391 rfl (lv_at hl 2 rfl) ?_
  refine lv_bipush (v := 48) hx hb dL_texts_392 (by decide) ?_
  refine gm_ci (gm_call (As := [.int 48]) (rest := []) (ci := 8) (q := (RX8, TX8, 8)) ⟨hx, hb, hml, hown, hts⟩ hK (c_X8_type l D cy β X1_38 48 ) (cwV 1 hts (kIn kv_type) rfl rfl rfl (by decide +kernel) ⟨Nat.le_of_ble_eq_true rfl, Nat.le_of_ble_eq_true rfl⟩) (TR.mk0 hR) rfl hR rfl hl.1 rfl (Nat.le_of_ble_eq_true rfl) dL_texts_394 (Nat.le_of_ble_eq_true rfl) (Nat.le_of_ble_eq_true rfl)) hS TA_CA (fun H locs hR hz9 hfr hS => ?_)
  replace hzl := Nat.le_trans hzl hz9
  obtain ⟨a9, T1_39, hE, hk⟩ := eH_type hE hk
  rw [a9]
  generalize (p_X8_type X1_38 48).2 = X1_39 at hR hE
  clear hfr hz9 a9
  refine lv_iload_n hx hb dL_texts_397 rfl (lv_at hl 0 rfl) ?_
  refine lv_icmp_eq (tgt := 403) hx hb dL_texts_398 (by decide) (fun _ => ?_) (fun c => absurd c (by decide))
  refine lv_iinc (v := 15) (lv' := [(2, .int 15), (1, .int 8), (0, .ref β)]) hx hb dL_texts_403 hl (k := 0) rfl (by decide) (by decide) rfl (fun ls hl => ?_)
  refine lv_goto (tgt := 385) hx hb dL_texts_406 (by decide) ?_
  refine lv_iload_n hx hb dL_texts_385 rfl (lv_at hl 0 rfl) ?_
  refine lv_bipush (v := 60) hx hb dL_texts_386 (by decide) ?_
  refine lv_icmp_gt (tgt := 409) hx hb dL_texts_388 (by decide) (fun c => absurd c (by decide)) (fun _ => ?_)
  refine lv_aload_n hx hb dL_texts_391 rfl (lv_at hl 2 rfl) ?_
  refine lv_bipush (v := 48) hx hb dL_texts_392 (by decide) ?_
  refine gm_ci (gm_call (As := [.int 48]) (rest := []) (ci := 8) (q := (RX8, TX8, 8)) ⟨hx, hb, hml, hown, hts⟩ hK (c_X8_type l D cy β X1_39 48 ) (cwV 1 hts (kIn kv_type) rfl rfl rfl (by decide +kernel) ⟨Nat.le_of_ble_eq_true rfl, Nat.le_of_ble_eq_true rfl⟩) (TR.mk0 hR) rfl hR rfl hl.1 rfl (Nat.le_of_ble_eq_true rfl) dL_texts_394 (Nat.le_of_ble_eq_true rfl) (Nat.le_of_ble_eq_true rfl)) hS TA_CA (fun H locs hR hz9 hfr hS => ?_)
  replace hzl := Nat.le_trans hzl hz9
  obtain ⟨a9, T1_40, hE, hk⟩ := eH_type hE hk
  rw [a9]
  generalize (p_X8_type X1_39 48).2 = X1_40 at hR hE
  clear hfr hz9 a9
  refine lv_iload_n hx hb dL_texts_397 rfl (lv_at hl 0 rfl) ?_
  refine lv_icmp_eq (tgt := 403) hx hb dL_texts_398 (by decide) (fun _ => ?_) (fun c => absurd c (by decide))
  refine lv_iinc (v := 16) (lv' := [(2, .int 16), (1, .int 8), (0, .ref β)]) hx hb dL_texts_403 hl (k := 0) rfl (by decide) (by decide) rfl (fun ls hl => ?_)
  refine lv_goto (tgt := 385) hx hb dL_texts_406 (by decide) ?_
  refine lv_iload_n hx hb dL_texts_385 rfl (lv_at hl 0 rfl) ?_
  refine lv_bipush (v := 60) hx hb dL_texts_386 (by decide) ?_
  refine lv_icmp_gt (tgt := 409) hx hb dL_texts_388 (by decide) (fun c => absurd c (by decide)) (fun _ => ?_)
  refine lv_aload_n hx hb dL_texts_391 rfl (lv_at hl 2 rfl) ?_
  refine lv_bipush (v := 48) hx hb dL_texts_392 (by decide) ?_
  refine gm_ci (gm_call (As := [.int 48]) (rest := []) (ci := 8) (q := (RX8, TX8, 8)) ⟨hx, hb, hml, hown, hts⟩ hK (c_X8_type l D cy β X1_40 48 ) (cwV 1 hts (kIn kv_type) rfl rfl rfl (by decide +kernel) ⟨Nat.le_of_ble_eq_true rfl, Nat.le_of_ble_eq_true rfl⟩) (TR.mk0 hR) rfl hR rfl hl.1 rfl (Nat.le_of_ble_eq_true rfl) dL_texts_394 (Nat.le_of_ble_eq_true rfl) (Nat.le_of_ble_eq_true rfl)) hS TA_CA (fun H locs hR hz9 hfr hS => ?_)
  replace hzl := Nat.le_trans hzl hz9
  obtain ⟨a9, T1_41, hE, hk⟩ := eH_type hE hk
  rw [a9]
  generalize (p_X8_type X1_40 48).2 = X1_41 at hR hE
  clear hfr hz9 a9
  refine lv_iload_n hx hb dL_texts_397 rfl (lv_at hl 0 rfl) ?_
  refine lv_icmp_eq (tgt := 403) hx hb dL_texts_398 (by decide) (fun _ => ?_) (fun c => absurd c (by decide))
  refine lv_iinc (v := 17) (lv' := [(2, .int 17), (1, .int 8), (0, .ref β)]) hx hb dL_texts_403 hl (k := 0) rfl (by decide) (by decide) rfl (fun ls hl => ?_)
  refine lv_goto (tgt := 385) hx hb dL_texts_406 (by decide) ?_
  refine lv_iload_n hx hb dL_texts_385 rfl (lv_at hl 0 rfl) ?_
  refine lv_bipush (v := 60) hx hb dL_texts_386 (by decide) ?_
  refine lv_icmp_gt (tgt := 409) hx hb dL_texts_388 (by decide) (fun c => absurd c (by decide)) (fun _ => ?_)
  refine lv_aload_n hx hb dL_texts_391 rfl (lv_at hl 2 rfl) ?_
  refine lv_bipush (v := 48) hx hb dL_texts_392 (by decide) ?_
  refine gm_ci (gm_call (As := [.int 48]) (rest := []) (ci := 8) (q := (RX8, TX8, 8)) ⟨hx, hb, hml, hown, hts⟩ hK (c_X8_type l D cy β X1_41 48 ) (cwV 1 hts (kIn kv_type) rfl rfl rfl (by decide +kernel) ⟨Nat.le_of_ble_eq_true rfl, Nat.le_of_ble_eq_true rfl⟩) (TR.mk0 hR) rfl hR rfl hl.1 rfl (Nat.le_of_ble_eq_true rfl) dL_texts_394 (Nat.le_of_ble_eq_true rfl) (Nat.le_of_ble_eq_true rfl)) hS TA_CA (fun H locs hR hz9 hfr hS => ?_)
  replace hzl := Nat.le_trans hzl hz9
  obtain ⟨a9, T1_42, hE, hk⟩ := eH_type hE hk
  rw [a9]
  generalize (p_X8_type X1_41 48).2 = X1_42 at hR hE
  clear hfr hz9 a9
  refine lv_iload_n hx hb dL_texts_397 rfl (lv_at hl 0 rfl) ?_
  refine lv_icmp_eq (tgt := 403) hx hb dL_texts_398 (by decide) (fun _ => ?_) (fun c => absurd c (by decide))
  refine lv_iinc (v := 18) (lv' := [(2, .int 18), (1, .int 8), (0, .ref β)]) hx hb dL_texts_403 hl (k := 0) rfl (by decide) (by decide) rfl (fun ls hl => ?_)
  refine lv_goto (tgt := 385) hx hb dL_texts_406 (by decide) ?_
  refine lv_iload_n hx hb dL_texts_385 rfl (lv_at hl 0 rfl) ?_
  refine lv_bipush (v := 60) hx hb dL_texts_386 (by decide) ?_
  refine lv_icmp_gt (tgt := 409) hx hb dL_texts_388 (by decide) (fun c => absurd c (by decide)) (fun _ => ?_)
  refine lv_aload_n hx hb dL_texts_391 rfl (lv_at hl 2 rfl) ?_
  refine lv_bipush (v := 48) hx hb dL_texts_392 (by decide) ?_
  refine gm_ci (gm_call (As := [.int 48]) (rest := []) (ci := 8) (q := (RX8, TX8, 8)) ⟨hx, hb, hml, hown, hts⟩ hK (c_X8_type l D cy β X1_42 48 ) (cwV 1 hts (kIn kv_type) rfl rfl rfl (by decide +kernel) ⟨Nat.le_of_ble_eq_true rfl, Nat.le_of_ble_eq_true rfl⟩) (TR.mk0 hR) rfl hR rfl hl.1 rfl (Nat.le_of_ble_eq_true rfl) dL_texts_394 (Nat.le_of_ble_eq_true rfl) (Nat.le_of_ble_eq_true rfl)) hS TA_CA (fun H locs hR hz9 hfr hS => ?_)
  replace hzl := Nat.le_trans hzl hz9
  obtain ⟨a9, T1_43, hE, hk⟩ := eH_type hE hk
  rw [a9]
  generalize (p_X8_type X1_42 48).2 = X1_43 at hR hE
  clear hfr hz9 a9
  refine lv_iload_n hx hb dL_texts_397 rfl (lv_at hl 0 rfl) ?_
  refine lv_icmp_eq (tgt := 403) hx hb dL_texts_398 (by decide) (fun _ => ?_) (fun c => absurd c (by decide))
  refine lv_iinc (v := 19) (lv' := [(2, .int 19), (1, .int 8), (0, .ref β)]) hx hb dL_texts_403 hl (k := 0) rfl (by decide) (by decide) rfl (fun ls hl => ?_)
  refine lv_goto (tgt := 385) hx hb dL_texts_406 (by decide) ?_
  refine lv_iload_n hx hb dL_texts_385 rfl (lv_at hl 0 rfl) ?_
  refine lv_bipush (v := 60) hx hb dL_texts_386 (by decide) ?_
  refine lv_icmp_gt (tgt := 409) hx hb dL_texts_388 (by decide) (fun c => absurd c (by decide)) (fun _ => ?_)
  refine lv_aload_n hx hb dL_texts_391 rfl (lv_at hl 2 rfl) ?_
  refine lv_bipush (v := 48) hx hb dL_texts_392 (by decide) ?_
  refine gm_ci (gm_call (As := [.int 48]) (rest := []) (ci := 8) (q := (RX8, TX8, 8)) ⟨hx, hb, hml, hown, hts⟩ hK (c_X8_type l D cy β X1_43 48 ) (cwV 1 hts (kIn kv_type) rfl rfl rfl (by decide +kernel) ⟨Nat.le_of_ble_eq_true rfl, Nat.le_of_ble_eq_true rfl⟩) (TR.mk0 hR) rfl hR rfl hl.1 rfl (Nat.le_of_ble_eq_true rfl) dL_texts_394 (Nat.le_of_ble_eq_true rfl) (Nat.le_of_ble_eq_true rfl)) hS TA_CA (fun H locs hR hz9 hfr hS => ?_)
  replace hzl := Nat.le_trans hzl hz9
  obtain ⟨a9, T1_44, hE, hk⟩ := eH_type hE hk
  rw [a9]
  generalize (p_X8_type X1_43 48).2 = X1_44 at hR hE
  clear hfr hz9 a9
  refine lv_iload_n hx hb dL_texts_397 rfl (lv_at hl 0 rfl) ?_
  refine lv_icmp_eq (tgt := 403) hx hb dL_texts_398 (by decide) (fun _ => ?_) (fun c => absurd c (by decide))
  refine lv_iinc (v := 20) (lv' := [(2, .int 20), (1, .int 8), (0, .ref β)]) hx hb dL_texts_403 hl (k := 0) rfl (by decide) (by decide) rfl (fun ls hl => ?_)
  refine lv_goto (tgt := 385) hx hb dL_texts_406 (by decide) ?_
  refine lv_iload_n hx hb dL_texts_385 rfl (lv_at hl 0 rfl) ?_
  refine lv_bipush (v := 60) hx hb dL_texts_386 (by decide) ?_
  refine lv_icmp_gt (tgt := 409) hx hb dL_texts_388 (by decide) (fun c => absurd c (by decide)) (fun _ => ?_)
  refine lv_aload_n hx hb dL_texts_391 rfl (lv_at hl 2 rfl) ?_
  refine lv_bipush (v := 48) hx hb dL_texts_392 (by decide) ?_
  refine gm_ci (gm_call (As := [.int 48]) (rest := []) (ci := 8) (q := (RX8, TX8, 8)) ⟨hx, hb, hml, hown, hts⟩ hK (c_X8_type l D cy β X1_44 48 ) (cwV 1 hts (kIn kv_type) rfl rfl rfl (by decide +kernel) ⟨Nat.le_of_ble_eq_true rfl, Nat.le_of_ble_eq_true rfl⟩) (TR.mk0 hR) rfl hR rfl hl.1 rfl (Nat.le_of_ble_eq_true rfl) dL_texts_394 (Nat.le_of_ble_eq_true rfl) (Nat.le_of_ble_eq_true rfl)) hS TA_CA (fun H locs hR hz9 hfr hS => ?_)
  replace hzl := Nat.le_trans hzl hz9
  obtain ⟨a9, T1_45, hE, hk⟩ := eH_type hE hk
  rw [a9]
  generalize (p_X8_type X1_44 48).2 = X1_45 at hR hE
  clear hfr hz9 a9
  refine lv_iload_n hx hb dL_texts_397 rfl (lv_at hl 0 rfl) ?_
  refine lv_icmp_eq (tgt := 403) hx hb dL_texts_398 (by decide) (fun _ => ?_) (fun c => absurd c (by decide))
  refine lv_iinc (v := 21) (lv' := [(2, .int 21), (1, .int 8), (0, .ref β)]) hx hb dL_texts_403 hl (k := 0) rfl (by decide) (by decide) rfl (fun ls hl => ?_)
  refine lv_goto (tgt := 385) hx hb dL_texts_406 (by decide) ?_
  refine lv_iload_n hx hb dL_texts_385 rfl (lv_at hl 0 rfl) ?_
  refine lv_bipush (v := 60) hx hb dL_texts_386 (by decide) ?_
  refine lv_icmp_gt (tgt := 409) hx hb dL_texts_388 (by decide) (fun c => absurd c (by decide)) (fun _ => ?_)
  refine lv_aload_n hx hb dL_texts_391 rfl (lv_at hl 2 rfl) ?_
  refine lv_bipush (v := 48) hx hb dL_texts_392 (by decide) ?_
  refine gm_ci (gm_call (As := [.int 48]) (rest := []) (ci := 8) (q := (RX8, TX8, 8)) ⟨hx, hb, hml, hown, hts⟩ hK (c_X8_type l D cy β X1_45 48 ) (cwV 1 hts (kIn kv_type) rfl rfl rfl (by decide +kernel) ⟨Nat.le_of_ble_eq_true rfl, Nat.le_of_ble_eq_true rfl⟩) (TR.mk0 hR) rfl hR rfl hl.1 rfl (Nat.le_of_ble_eq_true rfl) dL_texts_394 (Nat.le_of_ble_eq_true rfl) (Nat.le_of_ble_eq_true rfl)) hS TA_CA (fun H locs hR hz9 hfr hS => ?_)
  replace hzl := Nat.le_trans hzl hz9
  obtain ⟨a9, T1_46, hE, hk⟩ := eH_type hE hk
  rw [a9]
  generalize (p_X8_type X1_45 48).2 = X1_46 at hR hE
  clear hfr hz9 a9
  refine lv_iload_n hx hb dL_texts_397 rfl (lv_at hl 0 rfl) ?_
  refine lv_icmp_eq (tgt := 403) hx hb dL_texts_398 (by decide) (fun _ => ?_) (fun c => absurd c (by decide))
  refine lv_iinc (v := 22) (lv' := [(2, .int 22), (1, .int 8), (0, .ref β)]) hx hb dL_texts_403 hl (k := 0) rfl (by decide) (by decide) rfl (fun ls hl => ?_)
  refine lv_goto (tgt := 385) hx hb dL_texts_406 (by decide) ?_
  refine lv_iload_n hx hb dL_texts_385 rfl (lv_at hl 0 rfl) ?_
  refine lv_bipush (v := 60) hx hb dL_texts_386 (by decide) ?_
  refine lv_icmp_gt (tgt := 409) hx hb dL_texts_388 (by decide) (fun c => absurd c (by decide)) (fun _ => ?_)
  refine lv_aload_n hx hb dL_texts_391 rfl (lv_at hl 2 rfl) ?_
  refine lv_bipush (v := 48) hx hb dL_texts_392 (by decide) ?_
  refine gm_ci (gm_call (As := [.int 48]) (rest := []) (ci := 8) (q := (RX8, TX8, 8)) ⟨hx, hb, hml, hown, hts⟩ hK (c_X8_type l D cy β X1_46 48 ) (cwV 1 hts (kIn kv_type) rfl rfl rfl (by decide +kernel) ⟨Nat.le_of_ble_eq_true rfl, Nat.le_of_ble_eq_true rfl⟩) (TR.mk0 hR) rfl hR rfl hl.1 rfl (Nat.le_of_ble_eq_true rfl) dL_texts_394 (Nat.le_of_ble_eq_true rfl) (Nat.le_of_ble_eq_true rfl)) hS TA_CA (fun H locs hR hz9 hfr hS => ?_)
  replace hzl := Nat.le_trans hzl hz9
  obtain ⟨a9, T1_47, hE, hk⟩ := eH_type hE hk
  rw [a9]
  generalize (p_X8_type X1_46 48).2 = X1_47 at hR hE
  clear hfr hz9 a9
  refine lv_iload_n hx hb dL_texts_397 rfl (lv_at hl 0 rfl) ?_
  refine lv_icmp_eq (tgt := 403) hx hb dL_texts_398 (by decide) (fun _ => ?_) (fun c => absurd c (by decide))
  refine lv_iinc (v := 23) (lv' := [(2, .int 23), (1, .int 8), (0, .ref β)]) hx hb dL_texts_403 hl (k := 0) rfl (by decide) (by decide) rfl (fun ls hl => ?_)
  refine lv_goto (tgt := 385) hx hb dL_texts_406 (by decide) ?_
  refine lv_iload_n hx hb dL_texts_385 rfl (lv_at hl 0 rfl) ?_
  refine lv_bipush (v := 60) hx hb dL_texts_386 (by decide) ?_
  refine lv_icmp_gt (tgt := 409) hx hb dL_texts_388 (by decide) (fun c => absurd c (by decide)) (fun _ => ?_)
  refine lv_aload_n hx hb dL_texts_391 rfl (lv_at hl 2 rfl) ?_
  refine lv_bipush (v := 48) hx hb dL_texts_392 (by decide) ?_
  refine gm_ci (gm_call (As := [.int 48]) (rest := []) (ci := 8) (q := (RX8, TX8, 8)) ⟨hx, hb, hml, hown, hts⟩ hK (c_X8_type l D cy β X1_47 48 ) (cwV 1 hts (kIn kv_type) rfl rfl rfl (by decide +kernel) ⟨Nat.le_of_ble_eq_true rfl, Nat.le_of_ble_eq_true rfl⟩) (TR.mk0 hR) rfl hR rfl hl.1 rfl (Nat.le_of_ble_eq_true rfl) dL_texts_394 (Nat.le_of_ble_eq_true rfl) (Nat.le_of_ble_eq_true rfl)) hS TA_CA (fun H locs hR hz9 hfr hS => ?_)
  replace hzl := Nat.le_trans hzl hz9
  obtain ⟨a9, T1_48, hE, hk⟩ := eH_type hE hk
  rw [a9]
  generalize (p_X8_type X1_47 48).2 = X1_48 at hR hE
  clear hfr hz9 a9
  refine lv_iload_n hx hb dL_texts_397 rfl (lv_at hl 0 rfl) ?_
  refine lv_icmp_eq (tgt := 403) hx hb dL_texts_398 (by decide) (fun _ => ?_) (fun c => absurd c (by decide))
  refine lv_iinc (v := 24) (lv' := [(2, .int 24), (1, .int 8), (0, .ref β)]) hx hb dL_texts_403 hl (k := 0) rfl (by decide) (by decide) rfl (fun ls hl => ?_)
  refine lv_goto (tgt := 385) hx hb dL_texts_406 (by decide) ?_
  refine lv_iload_n hx hb dL_texts_385 rfl (lv_at hl 0 rfl) ?_
  refine lv_bipush (v := 60) hx hb dL_texts_386 (by decide) ?_
  refine lv_icmp_gt (tgt := 409) hx hb dL_texts_388 (by decide) (fun c => absurd c (by decide)) (fun _ => ?_)
  refine lv_aload_n hx hb dL_texts_391 rfl (lv_at hl 2 rfl) ?_
  refine lv_bipush (v := 48) hx hb dL_texts_392 (by decide) ?_
  refine gm_ci (gm_call (As := [.int 48]) (rest := []) (ci := 8) (q := (RX8, TX8, 8)) ⟨hx, hb, hml, hown, hts⟩ hK (c_X8_type l D cy β X1_48 48 ) (cwV 1 hts (kIn kv_type) rfl rfl rfl (by decide +kernel) ⟨Nat.le_of_ble_eq_true rfl, Nat.le_of_ble_eq_true rfl⟩) (TR.mk0 hR) rfl hR rfl hl.1 rfl (Nat.le_of_ble_eq_true rfl) dL_texts_394 (Nat.le_of_ble_eq_true rfl) (Nat.le_of_ble_eq_true rfl)) hS TA_CA (fun H locs hR hz9 hfr hS => ?_)
  replace hzl := Nat.le_trans hzl hz9
  obtain ⟨a9, T1_49, hE, hk⟩ := eH_type hE hk
  rw [a9]
  generalize (p_X8_type X1_48 48).2 = X1_49 at hR hE
  clear hfr hz9 a9
  refine lv_iload_n hx hb dL_texts_397 rfl (lv_at hl 0 rfl) ?_
  refine lv_icmp_eq (tgt := 403) hx hb dL_texts_398 (by decide) (fun _ => ?_) (fun c => absurd c (by decide))
  refine lv_iinc (v := 25) (lv' := [(2, .int 25), (1, .int 8), (0, .ref β)]) hx hb dL_texts_403 hl (k := 0) rfl (by decide) (by decide) rfl (fun ls hl => ?_)
  refine lv_goto (tgt := 385) hx hb dL_texts_406 (by decide) ?_
  refine lv_iload_n hx hb dL_texts_385 rfl (lv_at hl 0 rfl) ?_
  refine lv_bipush (v := 60) hx hb dL_texts_386 (by decide) ?_
  refine lv_icmp_gt (tgt := 409) hx hb dL_texts_388 (by decide) (fun c => absurd c (by decide)) (fun _ => ?_)
  refine lv_aload_n hx hb dL_texts_391 rfl (lv_at hl 2 rfl) ?_
  refine lv_bipush (v := 48) hx hb dL_texts_392 (by decide) ?_
  refine gm_ci (gm_call (As := [.int 48]) (rest := []) (ci := 8) (q := (RX8, TX8, 8)) ⟨hx, hb, hml, hown, hts⟩ hK (c_X8_type l D cy β X1_49 48 ) (cwV 1 hts (kIn kv_type) rfl rfl rfl (by decide +kernel) ⟨Nat.le_of_ble_eq_true rfl, Nat.le_of_ble_eq_true rfl⟩) (TR.mk0 hR) rfl hR rfl hl.1 rfl (Nat.le_of_ble_eq_true rfl) dL_texts_394 (Nat.le_of_ble_eq_true rfl) (Nat.le_of_ble_eq_true rfl)) hS TA_CA (fun H locs hR hz9 hfr hS => ?_)
  replace hzl := Nat.le_trans hzl hz9
  obtain ⟨a9, T1_50, hE, hk⟩ := eH_type hE hk
  rw [a9]
  generalize (p_X8_type X1_49 48).2 = X1_50 at hR hE
  clear hfr hz9 a9
  refine lv_iload_n hx hb dL_texts_397 rfl (lv_at hl 0 rfl) ?_
  refine lv_icmp_eq (tgt := 403) hx hb dL_texts_398 (by decide) (fun _ => ?_) (fun c => absurd c (by decide))
  refine lv_iinc (v := 26) (lv' := [(2, .int 26), (1, .int 8), (0, .ref β)]) hx hb dL_texts_403 hl (k := 0) rfl (by decide) (by decide) rfl (fun ls hl => ?_)
  refine lv_goto (tgt := 385) hx hb dL_texts_406 (by decide) ?_
  refine lv_iload_n hx hb dL_texts_385 rfl (lv_at hl 0 rfl) ?_
  refine lv_bipush (v := 60) hx hb dL_texts_386 (by decide) ?_
  refine lv_icmp_gt (tgt := 409) hx hb dL_texts_388 (by decide) (fun c => absurd c (by decide)) (fun _ => ?_)
  refine lv_aload_n hx hb dL_texts_391 rfl (lv_at hl 2 rfl) ?_
  refine lv_bipush (v := 48) hx hb dL_texts_392 (by decide) ?_
  refine gm_ci (gm_call (As := [.int 48]) (rest := []) (ci := 8) (q := (RX8, TX8, 8)) ⟨hx, hb, hml, hown, hts⟩ hK (c_X8_type l D cy β X1_50 48 ) (cwV 1 hts (kIn kv_type) rfl rfl rfl (by decide +kernel) ⟨Nat.le_of_ble_eq_true rfl, Nat.le_of_ble_eq_true rfl⟩) (TR.mk0 hR) rfl hR rfl hl.1 rfl (Nat.le_of_ble_eq_true rfl) dL_texts_394 (Nat.le_of_ble_eq_true rfl) (Nat.le_of_ble_eq_true rfl)) hS TA_CA (fun H locs hR hz9 hfr hS => ?_)
  replace hzl := Nat.le_trans hzl hz9
  obtain ⟨a9, T1_51, hE, hk⟩ := eH_type hE hk
  rw [a9]
  generalize (p_X8_type X1_50 48).2 = X1_51 at hR hE
  clear hfr hz9 a9
  refine lv_iload_n hx hb dL_texts_397 rfl (lv_at hl 0 rfl) ?_
  refine lv_icmp_eq (tgt := 403) hx hb dL_texts_398 (by decide) (fun _ => ?_) (fun c => absurd c (by decide))
  refine lv_iinc (v := 27) (lv' := [(2, .int 27), (1, .int 8), (0, .ref β)]) hx hb dL_texts_403 hl (k := 0) rfl (by decide) (by decide) rfl (fun ls hl => ?_)
  refine lv_goto (tgt := 385) hx hb dL_texts_406 (by decide) ?_
  refine lv_iload_n hx hb dL_texts_385 rfl (lv_at hl 0 rfl) ?_
  refine lv_bipush (v := 60) hx hb dL_texts_386 (by decide) ?_
  refine lv_icmp_gt (tgt := 409) hx hb dL_texts_388 (by decide) (fun c => absurd c (by decide)) (fun _ => ?_)
  refine lv_aload_n hx hb dL_texts_391 rfl (lv_at hl 2 rfl) ?_
  refine lv_bipush (v := 48) hx hb dL_texts_392 (by decide) ?_
  refine gm_ci (gm_call (As := [.int 48]) (rest := []) (ci := 8) (q := (RX8, TX8, 8)) ⟨hx, hb, hml, hown, hts⟩ hK (c_X8_type l D cy β X1_51 48 ) (cwV 1 hts (kIn kv_type) rfl rfl rfl (by decide +kernel) ⟨Nat.le_of_ble_eq_true rfl, Nat.le_of_ble_eq_true rfl⟩) (TR.mk0 hR) rfl hR rfl hl.1 rfl (Nat.le_of_ble_eq_true rfl) dL_texts_394 (Nat.le_of_ble_eq_true rfl) (Nat.le_of_ble_eq_true rfl)) hS TA_CA (fun H locs hR hz9 hfr hS => ?_)
  replace hzl := Nat.le_trans hzl hz9
  obtain ⟨a9, T1_52, hE, hk⟩ := eH_type hE hk
  rw [a9]
  generalize (p_X8_type X1_51 48).2 = X1_52 at hR hE
  clear hfr hz9 a9
  refine lv_iload_n hx hb dL_texts_397 rfl (lv_at hl 0 rfl) ?_
  refine lv_icmp_eq (tgt := 403) hx hb dL_texts_398 (by decide) (fun _ => ?_) (fun c => absurd c (by decide))
  refine lv_iinc (v := 28) (lv' := [(2, .int 28), (1, .int 8), (0, .ref β)]) hx hb dL_texts_403 hl (k := 0) rfl (by decide) (by decide) rfl (fun ls hl => ?_)
  refine lv_goto (tgt := 385) hx hb dL_texts_406 (by decide) ?_
  refine lv_iload_n hx hb dL_texts_385 rfl (lv_at hl 0 rfl) ?_
  refine lv_bipush (v := 60) hx hb dL_texts_386 (by decide) ?_
  refine lv_icmp_gt (tgt := 409) hx hb dL_texts_388 (by decide) (fun c => absurd c (by decide)) (fun _ => ?_)
  refine lv_aload_n hx hb dL_texts_391 rfl (lv_at hl 2 rfl) ?_
  refine lv_bipush (v := 48) hx hb dL_texts_392 (by decide) ?_
  refine gm_ci (gm_call (As := [.int 48]) (rest := []) (ci := 8) (q := (RX8, TX8, 8)) ⟨hx, hb, hml, hown, hts⟩ hK (c_X8_type l D cy β X1_52 48 ) (cwV 1 hts (kIn kv_type) rfl rfl rfl (by decide +kernel) ⟨Nat.le_of_ble_eq_true rfl, Nat.le_of_ble_eq_true rfl⟩) (TR.mk0 hR) rfl hR rfl hl.1 rfl (Nat.le_of_ble_eq_true rfl) dL_texts_394 (Nat.le_of_ble_eq_true rfl) (Nat.le_of_ble_eq_true rfl)) hS TA_CA (fun H locs hR hz9 hfr hS => ?_)
  replace hzl := Nat.le_trans hzl hz9
  obtain ⟨a9, T1_53, hE, hk⟩ := eH_type hE hk
  rw [a9]
  generalize (p_X8_type X1_52 48).2 = X1_53 at hR hE
  clear hfr hz9 a9
  refine lv_iload_n hx hb dL_texts_397 rfl (lv_at hl 0 rfl) ?_
  refine lv_icmp_eq (tgt := 403) hx hb dL_texts_398 (by decide) (fun _ => ?_) (fun c => absurd c (by decide))
  refine lv_iinc (v := 29) (lv' := [(2, .int 29), (1, .int 8), (0, .ref β)]) hx hb dL_texts_403 hl (k := 0) rfl (by decide) (by decide) rfl (fun ls hl => ?_)
  refine lv_goto (tgt := 385) hx hb dL_texts_406 (by decide) ?_
  refine lv_iload_n hx hb dL_texts_385 rfl (lv_at hl 0 rfl) ?_
  refine lv_bipush (v := 60) hx hb dL_texts_386 (by decide) ?_
  refine lv_icmp_gt (tgt := 409) hx hb dL_texts_388 (by decide) (fun c => absurd c (by decide)) (fun _ => ?_)
  refine lv_aload_n hx hb dL_texts_391 rfl (lv_at hl 2 rfl) ?_
  refine lv_bipush (v := 48) hx hb dL_texts_392 (by decide) ?_
  refine gm_ci (gm_call (As := [.int 48]) (rest := []) (ci := 8) (q := (RX8, TX8, 8)) ⟨hx, hb, hml, hown, hts⟩ hK (c_X8_type l D cy β X1_53 48 ) (cwV 1 hts (kIn kv_type) rfl rfl rfl (by decide +kernel) ⟨Nat.le_of_ble_eq_true rfl, Nat.le_of_ble_eq_true rfl⟩) (TR.mk0 hR) rfl hR rfl hl.1 rfl (Nat.le_of_ble_eq_true rfl) dL_texts_394 (Nat.le_of_ble_eq_true rfl) (Nat.le_of_ble_eq_true rfl)) hS TA_CA (fun H locs hR hz9 hfr hS => ?_)
  replace hzl := Nat.le_trans hzl hz9
  obtain ⟨a9, T1_54, hE, hk⟩ := eH_type hE hk
  rw [a9]
  generalize (p_X8_type X1_53 48).2 = X1_54 at hR hE
  clear hfr hz9 a9
  refine lv_iload_n hx hb dL_texts_397 rfl (lv_at hl 0 rfl) ?_
  refine lv_icmp_eq (tgt := 403) hx hb dL_texts_398 (by decide) (fun _ => ?_) (fun c => absurd c (by decide))
  refine lv_iinc (v := 30) (lv' := [(2, .int 30), (1, .int 8), (0, .ref β)]) hx hb dL_texts_403 hl (k := 0) rfl (by decide) (by decide) rfl (fun ls hl => ?_)
  refine lv_goto (tgt := 385) hx hb dL_texts_406 (by decide) ?_
  refine lv_iload_n hx hb dL_texts_385 rfl (lv_at hl 0 rfl) ?_
  refine lv_bipush (v := 60) hx hb dL_texts_386 (by decide) ?_
  refine lv_icmp_gt (tgt := 409) hx hb dL_texts_388 (by decide) (fun c => absurd c (by decide)) (fun _ => ?_)
  refine lv_aload_n hx hb dL_texts_391 rfl (lv_at hl 2 rfl) ?_
  refine lv_bipush (v := 48) hx hb dL_texts_392 (by decide) ?_
  refine gm_ci (gm_call (As := [.int 48]) (rest := []) (ci := 8) (q := (RX8, TX8, 8)) ⟨hx, hb, hml, hown, hts⟩ hK (c_X8_type l D cy β X1_54 48 ) (cwV 1 hts (kIn kv_type) rfl rfl rfl (by decide +kernel) ⟨Nat.le_of_ble_eq_true rfl, Nat.le_of_ble_eq_true rfl⟩) (TR.mk0 hR) rfl hR rfl hl.1 rfl (Nat.le_of_ble_eq_true rfl) dL_texts_394 (Nat.le_of_ble_eq_true rfl) (Nat.le_of_ble_eq_true rfl)) hS TA_CA (fun H locs hR hz9 hfr hS => ?_)
  replace hzl := Nat.le_trans hzl hz9
  obtain ⟨a9, T1_55, hE, hk⟩ := eH_type hE hk
  rw [a9]
  generalize (p_X8_type X1_54 48).2 = X1_55 at hR hE
  clear hfr hz9 a9
  refine lv_iload_n hx hb dL_texts_397 rfl (lv_at hl 0 rfl) ?_
  refine lv_icmp_eq (tgt := 403) hx hb dL_texts_398 (by decide) (fun _ => ?_) (fun c => absurd c (by decide))
  refine lv_iinc (v := 31) (lv' := [(2, .int 31), (1, .int 8), (0, .ref β)]) hx hb dL_texts_403 hl (k := 0) rfl (by decide) (by decide) rfl (fun ls hl => ?_)
  refine lv_goto (tgt := 385) hx hb dL_texts_406 (by decide) ?_
  refine lv_iload_n hx hb dL_texts_385 rfl (lv_at hl 0 rfl) ?_
  refine lv_bipush (v := 60) hx hb dL_texts_386 (by decide) ?_
  refine lv_icmp_gt (tgt := 409) hx hb dL_texts_388 (by decide) (fun c => absurd c (by decide)) (fun _ => ?_)
  refine lv_aload_n hx hb dL_texts_391 rfl (lv_at hl 2 rfl) ?_
  refine lv_bipush (v := 48) hx hb dL_texts_392 (by decide) ?_
  refine gm_ci (gm_call (As := [.int 48]) (rest := []) (ci := 8) (q := (RX8, TX8, 8)) ⟨hx, hb, hml, hown, hts⟩ hK (c_X8_type l D cy β X1_55 48 ) (cwV 1 hts (kIn kv_type) rfl rfl rfl (by decide +kernel) ⟨Nat.le_of_ble_eq_true rfl, Nat.le_of_ble_eq_true rfl⟩) (TR.mk0 hR) rfl hR rfl hl.1 rfl (Nat.le_of_ble_eq_true rfl) dL_texts_394 (Nat.le_of_ble_eq_true rfl) (Nat.le_of_ble_eq_true rfl)) hS TA_CA (fun H locs hR hz9 hfr hS => ?_)
  replace hzl := Nat.le_trans hzl hz9
  obtain ⟨a9, T1_56, hE, hk⟩ := eH_type hE hk
  rw [a9]
  generalize (p_X8_type X1_55 48).2 = X1_56 at hR hE
  clear hfr hz9 a9
  refine lv_iload_n hx hb dL_texts_397 rfl (lv_at hl 0 rfl) ?_
  refine lv_icmp_eq (tgt := 403) hx hb dL_texts_398 (by decide) (fun _ => ?_) (fun c => absurd c (by decide))
  refine lv_iinc (v := 32) (lv' := [(2, .int 32), (1, .int 8), (0, .ref β)]) hx hb dL_texts_403 hl (k := 0) rfl (by decide) (by decide) rfl (fun ls hl => ?_)
  refine lv_goto (tgt := 385) hx hb dL_texts_406 (by decide) ?_
  refine lv_iload_n hx hb dL_texts_385 rfl (lv_at hl 0 rfl) ?_
  refine lv_bipush (v := 60) hx hb dL_texts_386 (by decide) ?_
  refine lv_icmp_gt (tgt := 409) hx hb dL_texts_388 (by decide) (fun c => absurd c (by decide)) (fun _ => ?_)
  refine lv_aload_n hx hb dL_texts_391 rfl (lv_at hl 2 rfl) ?_
  refine lv_bipush (v := 48) hx hb dL_texts_392 (by decide) ?_
  refine gm_ci (gm_call (As := [.int 48]) (rest := []) (ci := 8) (q := (RX8, TX8, 8)) ⟨hx, hb, hml, hown, hts⟩ hK (c_X8_type l D cy β X1_56 48 ) (cwV 1 hts (kIn kv_type) rfl rfl rfl (by decide +kernel) ⟨Nat.le_of_ble_eq_true rfl, Nat.le_of_ble_eq_true rfl⟩) (TR.mk0 hR) rfl hR rfl hl.1 rfl (Nat.le_of_ble_eq_true rfl) dL_texts_394 (Nat.le_of_ble_eq_true rfl) (Nat.le_of_ble_eq_true rfl)) hS TA_CA (fun H locs hR hz9 hfr hS => ?_)
  replace hzl := Nat.le_trans hzl hz9
  obtain ⟨a9, T1_57, hE, hk⟩ := eH_type hE hk
  rw [a9]
  generalize (p_X8_type X1_56 48).2 = X1_57 at hR hE
  clear hfr hz9 a9
  refine lv_iload_n hx hb dL_texts_397 rfl (lv_at hl 0 rfl) ?_
  refine lv_icmp_eq (tgt := 403) hx hb dL_texts_398 (by decide) (fun _ => ?_) (fun c => absurd c (by decide))
  refine lv_iinc (v := 33) (lv' := [(2, .int 33), (1, .int 8), (0, .ref β)]) hx hb dL_texts_403 hl (k := 0) rfl (by decide) (by decide) rfl (fun ls hl => ?_)
  refine lv_goto (tgt := 385) hx hb dL_texts_406 (by decide) ?_
  refine lv_iload_n hx hb dL_texts_385 rfl (lv_at hl 0 rfl) ?_
  refine lv_bipush (v := 60) hx hb dL_texts_386 (by decide) ?_
  refine lv_icmp_gt (tgt := 409) hx hb dL_texts_388 (by decide) (fun c => absurd c (by decide)) (fun _ => ?_)
  refine lv_aload_n hx hb dL_texts_391 rfl (lv_at hl 2 rfl) ?_
  refine lv_bipush (v := 48) hx hb dL_texts_392 (by decide) ?_
  refine gm_ci (gm_call (As := [.int 48]) (rest := []) (ci := 8) (q := (RX8, TX8, 8)) ⟨hx, hb, hml, hown, hts⟩ hK (c_X8_type l D cy β X1_57 48 ) (cwV 1 hts (kIn kv_type) rfl rfl rfl (by decide +kernel) ⟨Nat.le_of_ble_eq_true rfl, Nat.le_of_ble_eq_true rfl⟩) (TR.mk0 hR) rfl hR rfl hl.1 rfl (Nat.le_of_ble_eq_true rfl) dL_texts_394 (Nat.le_of_ble_eq_true rfl) (Nat.le_of_ble_eq_true rfl)) hS TA_CA (fun H locs hR hz9 hfr hS => ?_)
  replace hzl := Nat.le_trans hzl hz9
  obtain ⟨a9, T1_58, hE, hk⟩ := eH_type hE hk
  rw [a9]
  generalize (p_X8_type X1_57 48).2 = X1_58 at hR hE
  clear hfr hz9 a9
  refine lv_iload_n hx hb dL_texts_397 rfl (lv_at hl 0 rfl) ?_
  refine lv_icmp_eq (tgt := 403) hx hb dL_texts_398 (by decide) (fun _ => ?_) (fun c => absurd c (by decide))
  refine lv_iinc (v := 34) (lv' := [(2, .int 34), (1, .int 8), (0, .ref β)]) hx hb dL_texts_403 hl (k := 0) rfl (by decide) (by decide) rfl (fun ls hl => ?_)
  refine lv_goto (tgt := 385) hx hb dL_texts_406 (by decide) ?_
  refine lv_iload_n hx hb dL_texts_385 rfl (lv_at hl 0 rfl) ?_
  refine lv_bipush (v := 60) hx hb dL_texts_386 (by decide) ?_
  refine lv_icmp_gt (tgt := 409) hx hb dL_texts_388 (by decide) (fun c => absurd c (by decide)) (fun _ => ?_)
  refine lv_aload_n hx hb dL_texts_391 rfl (lv_at hl 2 rfl) ?_
  refine lv_bipush (v := 48) hx hb dL_texts_392 (by decide) ?_
  refine gm_ci (gm_call (As := [.int 48]) (rest := []) (ci := 8) (q := (RX8, TX8, 8)) ⟨hx, hb, hml, hown, hts⟩ hK (c_X8_type l D cy β X1_58 48 ) (cwV 1 hts (kIn kv_type) rfl rfl rfl (by decide +kernel) ⟨Nat.le_of_ble_eq_true rfl, Nat.le_of_ble_eq_true rfl⟩) (TR.mk0 hR) rfl hR rfl hl.1 rfl (Nat.le_of_ble_eq_true rfl) dL_texts_394 (Nat.le_of_ble_eq_true rfl) (Nat.le_of_ble_eq_true rfl)) hS TA_CA (fun H locs hR hz9 hfr hS => ?_)
  replace hzl := Nat.le_trans hzl hz9
  obtain ⟨a9, T1_59, hE, hk⟩ := eH_type hE hk
  rw [a9]
  generalize (p_X8_type X1_58 48).2 = X1_59 at hR hE
  clear hfr hz9 a9
  refine lv_iload_n hx hb dL_texts_397 rfl (lv_at hl 0 rfl) ?_
  refine lv_icmp_eq (tgt := 403) hx hb dL_texts_398 (by decide) (fun _ => ?_) (fun c => absurd c (by decide))
  refine lv_iinc (v := 35) (lv' := [(2, .int 35), (1, .int 8), (0, .ref β)]) hx hb dL_texts_403 hl (k := 0) rfl (by decide) (by decide) rfl (fun ls hl => ?_)
  refine lv_goto (tgt := 385) hx hb dL_texts_406 (by decide) ?_
  refine lv_iload_n hx hb dL_texts_385 rfl (lv_at hl 0 rfl) ?_
  refine lv_bipush (v := 60) hx hb dL_texts_386 (by decide) ?_
  refine lv_icmp_gt (tgt := 409) hx hb dL_texts_388 (by decide) (fun c => absurd c (by decide)) (fun _ => ?_)
  refine lv_aload_n hx hb dL_texts_391 rfl (lv_at hl 2 rfl) ?_
  refine lv_bipush (v := 48) hx hb dL_texts_392 (by decide) ?_
  refine gm_ci (gm_call (As := [.int 48]) (rest := []) (ci := 8) (q := (RX8, TX8, 8)) ⟨hx, hb, hml, hown, hts⟩ hK (c_X8_type l D cy β X1_59 48 ) (cwV 1 hts (kIn kv_type) rfl rfl rfl (by decide +kernel) ⟨Nat.le_of_ble_eq_true rfl, Nat.le_of_ble_eq_true rfl⟩) (TR.mk0 hR) rfl hR rfl hl.1 rfl (Nat.le_of_ble_eq_true rfl) dL_texts_394 (Nat.le_of_ble_eq_true rfl) (Nat.le_of_ble_eq_true rfl)) hS TA_CA (fun H locs hR hz9 hfr hS => ?_)
  replace hzl := Nat.le_trans hzl hz9
  obtain ⟨a9, T1_60, hE, hk⟩ := eH_type hE hk
  rw [a9]
  generalize (p_X8_type X1_59 48).2 = X1_60 at hR hE
  clear hfr hz9 a9
  refine lv_iload_n hx hb dL_texts_397 rfl (lv_at hl 0 rfl) ?_
  refine lv_icmp_eq (tgt := 403) hx hb dL_texts_398 (by decide) (fun _ => ?_) (fun c => absurd c (by decide))
  refine lv_iinc (v := 36) (lv' := [(2, .int 36), (1, .int 8), (0, .ref β)]) hx hb dL_texts_403 hl (k := 0) rfl (by decide) (by decide) rfl (fun ls hl => ?_)
  refine lv_goto (tgt := 385) hx hb dL_texts_406 (by decide) ?_
  refine lv_iload_n hx hb dL_texts_385 rfl (lv_at hl 0 rfl) ?_
  refine lv_bipush (v := 60) hx hb dL_texts_386 (by decide) ?_
  refine lv_icmp_gt (tgt := 409) hx hb dL_texts_388 (by decide) (fun c => absurd c (by decide)) (fun _ => ?_)
  refine lv_aload_n hx hb dL_texts_391 rfl (lv_at hl 2 rfl) ?_
  refine lv_bipush (v := 48) hx hb dL_texts_392 (by decide) ?_
  refine gm_ci (gm_call (As := [.int 48]) (rest := []) (ci := 8) (q := (RX8, TX8, 8)) ⟨hx, hb, hml, hown, hts⟩ hK (c_X8_type l D cy β X1_60 48 ) (cwV 1 hts (kIn kv_type) rfl rfl rfl (by decide +kernel) ⟨Nat.le_of_ble_eq_true rfl, Nat.le_of_ble_eq_true rfl⟩) (TR.mk0 hR) rfl hR rfl hl.1 rfl (Nat.le_of_ble_eq_true rfl) dL_texts_394 (Nat.le_of_ble_eq_true rfl) (Nat.le_of_ble_eq_true rfl)) hS TA_CA (fun H locs hR hz9 hfr hS => ?_)
  replace hzl := Nat.le_trans hzl hz9
  obtain ⟨a9, T1_61, hE, hk⟩ := eH_type hE hk
  rw [a9]
  generalize (p_X8_type X1_60 48).2 = X1_61 at hR hE
  clear hfr hz9 a9
  refine lv_iload_n hx hb dL_texts_397 rfl (lv_at hl 0 rfl) ?_
  refine lv_icmp_eq (tgt := 403) hx hb dL_texts_398 (by decide) (fun _ => ?_) (fun c => absurd c (by decide))
  refine lv_iinc (v := 37) (lv' := [(2, .int 37), (1, .int 8), (0, .ref β)]) hx hb dL_texts_403 hl (k := 0) rfl (by decide) (by decide) rfl (fun ls hl => ?_)
  refine lv_goto (tgt := 385) hx hb dL_texts_406 (by decide) ?_
  refine lv_iload_n hx hb dL_texts_385 rfl (lv_at hl 0 rfl) ?_
  refine lv_bipush (v := 60) hx hb dL_texts_386 (by decide) ?_
  refine lv_icmp_gt (tgt := 409) hx hb dL_texts_388 (by decide) (fun c => absurd c (by decide)) (fun _ => ?_)
  refine lv_aload_n hx hb dL_texts_391 rfl (lv_at hl 2 rfl) ?_
  refine lv_bipush (v := 48) hx hb dL_texts_392 (by decide) ?_
  refine gm_ci (gm_call (As := [.int 48]) (rest := []) (ci := 8) (q := (RX8, TX8, 8)) ⟨hx, hb, hml, hown, hts⟩ hK (c_X8_type l D cy β X1_61 48 ) (cwV 1 hts (kIn kv_type) rfl rfl rfl (by decide +kernel) ⟨Nat.le_of_ble_eq_true rfl, Nat.le_of_ble_eq_true rfl⟩) (TR.mk0 hR) rfl hR rfl hl.1 rfl (Nat.le_of_ble_eq_true rfl) dL_texts_394 (Nat.le_of_ble_eq_true rfl) (Nat.le_of_ble_eq_true rfl)) hS TA_CA (fun H locs hR hz9 hfr hS => ?_)
  replace hzl := Nat.le_trans hzl hz9
  obtain ⟨a9, T1_62, hE, hk⟩ := eH_type hE hk
  rw [a9]
  generalize (p_X8_type X1_61 48).2 = X1_62 at hR hE
  clear hfr hz9 a9
  refine lv_iload_n hx hb dL_texts_397 rfl (lv_at hl 0 rfl) ?_
  refine lv_icmp_eq (tgt := 403) hx hb dL_texts_398 (by decide) (fun _ => ?_) (fun c => absurd c (by decide))
  refine lv_iinc (v := 38) (lv' := [(2, .int 38), (1, .int 8), (0, .ref β)]) hx hb dL_texts_403 hl (k := 0) rfl (by decide) (by decide) rfl (fun ls hl => ?_)
  refine lv_goto (tgt := 385) hx hb dL_texts_406 (by decide) ?_
  refine lv_iload_n hx hb dL_texts_385 rfl (lv_at hl 0 rfl) ?_
  refine lv_bipush (v := 60) hx hb dL_texts_386 (by decide) ?_
  refine lv_icmp_gt (tgt := 409) hx hb dL_texts_388 (by decide) (fun c => absurd c (by decide)) (fun _ => ?_)
  refine lv_aload_n hx hb dL_texts_391 rfl (lv_at hl 2 rfl) ?_
  refine lv_bipush (v := 48) hx hb dL_texts_392 (by decide) ?_
  refine gm_ci (gm_call (As := [.int 48]) (rest := []) (ci := 8) (q := (RX8, TX8, 8)) ⟨hx, hb, hml, hown, hts⟩ hK (c_X8_type l D cy β X1_62 48 ) (cwV 1 hts (kIn kv_type) rfl rfl rfl (by decide +kernel) ⟨Nat.le_of_ble_eq_true rfl, Nat.le_of_ble_eq_true rfl⟩) (TR.mk0 hR) rfl hR rfl hl.1 rfl (Nat.le_of_ble_eq_true rfl) dL_texts_394 (Nat.le_of_ble_eq_true rfl) (Nat.le_of_ble_eq_true rfl)) hS TA_CA (fun H locs hR hz9 hfr hS => ?_)
  replace hzl := Nat.le_trans hzl hz9
  obtain ⟨a9, T1_63, hE, hk⟩ := eH_type hE hk
  rw [a9]
  generalize (p_X8_type X1_62 48).2 = X1_63 at hR hE
  clear hfr hz9 a9
  refine lv_iload_n hx hb dL_texts_397 rfl (lv_at hl 0 rfl) ?_
  refine lv_icmp_eq (tgt := 403) hx hb dL_texts_398 (by decide) (fun _ => ?_) (fun c => absurd c (by decide))
  refine lv_iinc (v := 39) (lv' := [(2, .int 39), (1, .int 8), (0, .ref β)]) hx hb dL_texts_403 hl (k := 0) rfl (by decide) (by decide) rfl (fun ls hl => ?_)
  refine lv_goto (tgt := 385) hx hb dL_texts_406 (by decide) ?_
  refine lv_iload_n hx hb dL_texts_385 rfl (lv_at hl 0 rfl) ?_
  refine lv_bipush (v := 60) hx hb dL_texts_386 (by decide) ?_
  refine lv_icmp_gt (tgt := 409) hx hb dL_texts_388 (by decide) (fun c => absurd c (by decide)) (fun _ => ?_)
  refine lv_aload_n hx hb dL_texts_391 rfl (lv_at hl 2 rfl) ?_
  refine lv_bipush (v := 48) hx hb dL_texts_392 (by decide) ?_
  refine gm_ci (gm_call (As := [.int 48]) (rest := []) (ci := 8) (q := (RX8, TX8, 8)) ⟨hx, hb, hml, hown, hts⟩ hK (c_X8_type l D cy β X1_63 48 ) (cwV 1 hts (kIn kv_type) rfl rfl rfl (by decide +kernel) ⟨Nat.le_of_ble_eq_true rfl, Nat.le_of_ble_eq_true rfl⟩) (TR.mk0 hR) rfl hR rfl hl.1 rfl (Nat.le_of_ble_eq_true rfl) dL_texts_394 (Nat.le_of_ble_eq_true rfl) (Nat.le_of_ble_eq_true rfl)) hS TA_CA (fun H locs hR hz9 hfr hS => ?_)
  replace hzl := Nat.le_trans hzl hz9
  obtain ⟨a9, T1_64, hE, hk⟩ := eH_type hE hk
  rw [a9]
  generalize (p_X8_type X1_63 48).2 = X1_64 at hR hE
  clear hfr hz9 a9
  refine lv_iload_n hx hb dL_texts_397 rfl (lv_at hl 0 rfl) ?_
  refine lv_icmp_eq (tgt := 403) hx hb dL_texts_398 (by decide) (fun _ => ?_) (fun c => absurd c (by decide))
  refine lv_iinc (v := 40) (lv' := [(2, .int 40), (1, .int 8), (0, .ref β)]) hx hb dL_texts_403 hl (k := 0) rfl (by decide) (by decide) rfl (fun ls hl => ?_)
  refine lv_goto (tgt := 385) hx hb dL_texts_406 (by decide) ?_
  refine lv_iload_n hx hb dL_texts_385 rfl (lv_at hl 0 rfl) ?_
  refine lv_bipush (v := 60) hx hb dL_texts_386 (by decide) ?_
  refine lv_icmp_gt (tgt := 409) hx hb dL_texts_388 (by decide) (fun c => absurd c (by decide)) (fun _ => ?_)
  refine lv_aload_n hx hb dL_texts_391 rfl (lv_at hl 2 rfl) ?_
  refine lv_bipush (v := 48) hx hb dL_texts_392 (by decide) ?_
  refine gm_ci (gm_call (As := [.int 48]) (rest := []) (ci := 8) (q := (RX8, TX8, 8)) ⟨hx, hb, hml, hown, hts⟩ hK (c_X8_type l D cy β X1_64 48 ) (cwV 1 hts (kIn kv_type) rfl rfl rfl (by decide +kernel) ⟨Nat.le_of_ble_eq_true rfl, Nat.le_of_ble_eq_true rfl⟩) (TR.mk0 hR) rfl hR rfl hl.1 rfl (Nat.le_of_ble_eq_true rfl) dL_texts_394 (Nat.le_of_ble_eq_true rfl) (Nat.le_of_ble_eq_true rfl)) hS TA_CA (fun H locs hR hz9 hfr hS => ?_)
  replace hzl := Nat.le_trans hzl hz9
  obtain ⟨a9, T1_65, hE, hk⟩ := eH_type hE hk
  rw [a9]
  generalize (p_X8_type X1_64 48).2 = X1_65 at hR hE
  clear hfr hz9 a9
  refine lv_iload_n hx hb dL_texts_397 rfl (lv_at hl 0 rfl) ?_
  refine lv_icmp_eq (tgt := 403) hx hb dL_texts_398 (by decide) (fun _ => ?_) (fun c => absurd c (by decide))
  refine lv_iinc (v := 41) (lv' := [(2, .int 41), (1, .int 8), (0, .ref β)]) hx hb dL_texts_403 hl (k := 0) rfl (by decide) (by decide) rfl (fun ls hl => ?_)
  refine lv_goto (tgt := 385) hx hb dL_texts_406 (by decide) ?_
  refine lv_iload_n hx hb dL_texts_385 rfl (lv_at hl 0 rfl) ?_
  refine lv_bipush (v := 60) hx hb dL_texts_386 (by decide) ?_
  refine lv_icmp_gt (tgt := 409) hx hb dL_texts_388 (by decide) (fun c => absurd c (by decide)) (fun _ => ?_)
  refine lv_aload_n hx hb dL_texts_391 rfl (lv_at hl 2 rfl) ?_
  refine lv_bipush (v := 48) hx hb dL_texts_392 (by decide) ?_
  refine gm_ci (gm_call (As := [.int 48]) (rest := []) (ci := 8) (q := (RX8, TX8, 8)) ⟨hx, hb, hml, hown, hts⟩ hK (c_X8_type l D cy β X1_65 48 ) (cwV 1 hts (kIn kv_type) rfl rfl rfl (by decide +kernel) ⟨Nat.le_of_ble_eq_true rfl, Nat.le_of_ble_eq_true rfl⟩) (TR.mk0 hR) rfl hR rfl hl.1 rfl (Nat.le_of_ble_eq_true rfl) dL_texts_394 (Nat.le_of_ble_eq_true rfl) (Nat.le_of_ble_eq_true rfl)) hS TA_CA (fun H locs hR hz9 hfr hS => ?_)
  replace hzl := Nat.le_trans hzl hz9
  obtain ⟨a9, T1_66, hE, hk⟩ := eH_type hE hk
  rw [a9]
  generalize (p_X8_type X1_65 48).2 = X1_66 at hR hE
  clear hfr hz9 a9
  refine lv_iload_n hx hb dL_texts_397 rfl (lv_at hl 0 rfl) ?_
  refine lv_icmp_eq (tgt := 403) hx hb dL_texts_398 (by decide) (fun _ => ?_) (fun c => absurd c (by decide))
  refine lv_iinc (v := 42) (lv' := [(2, .int 42), (1, .int 8), (0, .ref β)]) hx hb dL_texts_403 hl (k := 0) rfl (by decide) (by decide) rfl (fun ls hl => ?_)
  refine lv_goto (tgt := 385) hx hb dL_texts_406 (by decide) ?_
  refine lv_iload_n hx hb dL_texts_385 rfl (lv_at hl 0 rfl) ?_
  refine lv_bipush (v := 60) hx hb dL_texts_386 (by decide) ?_
  refine lv_icmp_gt (tgt := 409) hx hb dL_texts_388 (by decide) (fun c => absurd c (by decide)) (fun _ => ?_)
  refine lv_aload_n hx hb dL_texts_391 rfl (lv_at hl 2 rfl) ?_
  refine lv_bipush (v := 48) hx hb dL_texts_392 (by decide) ?_
  refine gm_ci (gm_call (As := [.int 48]) (rest := []) (ci := 8) (q := (RX8, TX8, 8)) ⟨hx, hb, hml, hown, hts⟩ hK (c_X8_type l D cy β X1_66 48 ) (cwV 1 hts (kIn kv_type) rfl rfl rfl (by decide +kernel) ⟨Nat.le_of_ble_eq_true rfl, Nat.le_of_ble_eq_true rfl⟩) (TR.mk0 hR) rfl hR rfl hl.1 rfl (Nat.le_of_ble_eq_true rfl) dL_texts_394 (Nat.le_of_ble_eq_true rfl) (Nat.le_of_ble_eq_true rfl)) hS TA_CA (fun H locs hR hz9 hfr hS => ?_)
  replace hzl := Nat.le_trans hzl hz9
  obtain ⟨a9, T1_67, hE, hk⟩ := eH_type hE hk
  rw [a9]
  generalize (p_X8_type X1_66 48).2 = X1_67 at hR hE
  clear hfr hz9 a9
  refine lv_iload_n hx hb dL_texts_397 rfl (lv_at hl 0 rfl) ?_
  refine lv_icmp_eq (tgt := 403) hx hb dL_texts_398 (by decide) (fun _ => ?_) (fun c => absurd c (by decide))
  refine lv_iinc (v := 43) (lv' := [(2, .int 43), (1, .int 8), (0, .ref β)]) hx hb dL_texts_403 hl (k := 0) rfl (by decide) (by decide) rfl (fun ls hl => ?_)
  refine lv_goto (tgt := 385) hx hb dL_texts_406 (by decide) ?_
  refine lv_iload_n hx hb dL_texts_385 rfl (lv_at hl 0 rfl) ?_
  refine lv_bipush (v := 60) hx hb dL_texts_386 (by decide) ?_
  refine lv_icmp_gt (tgt := 409) hx hb dL_texts_388 (by decide) (fun c => absurd c (by decide)) (fun _ => ?_)
  refine lv_aload_n hx hb dL_texts_391 rfl (lv_at hl 2 rfl) ?_
  refine lv_bipush (v := 48) hx hb dL_texts_392 (by decide) ?_
  refine gm_ci (gm_call (As := [.int 48]) (rest := []) (ci := 8) (q := (RX8, TX8, 8)) ⟨hx, hb, hml, hown, hts⟩ hK (c_X8_type l D cy β X1_67 48 ) (cwV 1 hts (kIn kv_type) rfl rfl rfl (by decide +kernel) ⟨Nat.le_of_ble_eq_true rfl, Nat.le_of_ble_eq_true rfl⟩) (TR.mk0 hR) rfl hR rfl hl.1 rfl (Nat.le_of_ble_eq_true rfl) dL_texts_394 (Nat.le_of_ble_eq_true rfl) (Nat.le_of_ble_eq_true rfl)) hS TA_CA (fun H locs hR hz9 hfr hS => ?_)
  replace hzl := Nat.le_trans hzl hz9
  obtain ⟨a9, T1_68, hE, hk⟩ := eH_type hE hk
  rw [a9]
  generalize (p_X8_type X1_67 48).2 = X1_68 at hR hE
  clear hfr hz9 a9
  refine lv_iload_n hx hb dL_texts_397 rfl (lv_at hl 0 rfl) ?_
  refine lv_icmp_eq (tgt := 403) hx hb dL_texts_398 (by decide) (fun _ => ?_) (fun c => absurd c (by decide))
  refine lv_iinc (v := 44) (lv' := [(2, .int 44), (1, .int 8), (0, .ref β)]) hx hb dL_texts_403 hl (k := 0) rfl (by decide) (by decide) rfl (fun ls hl => ?_)
  refine lv_goto (tgt := 385) hx hb dL_texts_406 (by decide) ?_
  refine lv_iload_n hx hb dL_texts_385 rfl (lv_at hl 0 rfl) ?_
  refine lv_bipush (v := 60) hx hb dL_texts_386 (by decide) ?_
  refine lv_icmp_gt (tgt := 409) hx hb dL_texts_388 (by decide) (fun c => absurd c (by decide)) (fun _ => ?_)
  refine lv_aload_n hx hb dL_texts_391 rfl (lv_at hl 2 rfl) ?_
  refine lv_bipush (v := 48) hx hb dL_texts_392 (by decide) ?_
  refine gm_ci (gm_call (As := [.int 48]) (rest := []) (ci := 8) (q := (RX8, TX8, 8)) ⟨hx, hb, hml, hown, hts⟩ hK (c_X8_type l D cy β X1_68 48 ) (cwV 1 hts (kIn kv_type) rfl rfl rfl (by decide +kernel) ⟨Nat.le_of_ble_eq_true rfl, Nat.le_of_ble_eq_true rfl⟩) (TR.mk0 hR) rfl hR rfl hl.1 rfl (Nat.le_of_ble_eq_true rfl) dL_texts_394 (Nat.le_of_ble_eq_true rfl) (Nat.le_of_ble_eq_true rfl)) hS TA_CA (fun H locs hR hz9 hfr hS => ?_)
  replace hzl := Nat.le_trans hzl hz9
  obtain ⟨a9, T1_69, hE, hk⟩ := eH_type hE hk
  rw [a9]
  generalize (p_X8_type X1_68 48).2 = X1_69 at hR hE
  clear hfr hz9 a9
  refine lv_iload_n hx hb dL_texts_397 rfl (lv_at hl 0 rfl) ?_
  refine lv_icmp_eq (tgt := 403) hx hb dL_texts_398 (by decide) (fun _ => ?_) (fun c => absurd c (by decide))
  refine lv_iinc (v := 45) (lv' := [(2, .int 45), (1, .int 8), (0, .ref β)]) hx hb dL_texts_403 hl (k := 0) rfl (by decide) (by decide) rfl (fun ls hl => ?_)
  refine lv_goto (tgt := 385) hx hb dL_texts_406 (by decide) ?_
  refine lv_iload_n hx hb dL_texts_385 rfl (lv_at hl 0 rfl) ?_
  refine lv_bipush (v := 60) hx hb dL_texts_386 (by decide) ?_
  refine lv_icmp_gt (tgt := 409) hx hb dL_texts_388 (by decide) (fun c => absurd c (by decide)) (fun _ => ?_)
  refine lv_aload_n hx hb dL_texts_391 rfl (lv_at hl 2 rfl) ?_
  refine lv_bipush (v := 48) hx hb dL_texts_392 (by decide) ?_
  refine gm_ci (gm_call (As := [.int 48]) (rest := []) (ci := 8) (q := (RX8, TX8, 8)) ⟨hx, hb, hml, hown, hts⟩ hK (c_X8_type l D cy β X1_69 48 ) (cwV 1 hts (kIn kv_type) rfl rfl rfl (by decide +kernel) ⟨Nat.le_of_ble_eq_true rfl, Nat.le_of_ble_eq_true rfl⟩) (TR.mk0 hR) rfl hR rfl hl.1 rfl (Nat.le_of_ble_eq_true rfl) dL_texts_394 (Nat.le_of_ble_eq_true rfl) (Nat.le_of_ble_eq_true rfl)) hS TA_CA (fun H locs hR hz9 hfr hS => ?_)
  replace hzl := Nat.le_trans hzl hz9
  obtain ⟨a9, T1_70, hE, hk⟩ := eH_type hE hk
  rw [a9]
  generalize (p_X8_type X1_69 48).2 = X1_70 at hR hE
  clear hfr hz9 a9
  refine lv_iload_n hx hb dL_texts_397 rfl (lv_at hl 0 rfl) ?_
  refine lv_icmp_eq (tgt := 403) hx hb dL_texts_398 (by decide) (fun _ => ?_) (fun c => absurd c (by decide))
  refine lv_iinc (v := 46) (lv' := [(2, .int 46), (1, .int 8), (0, .ref β)]) hx hb dL_texts_403 hl (k := 0) rfl (by decide) (by decide) rfl (fun ls hl => ?_)
  refine lv_goto (tgt := 385) hx hb dL_texts_406 (by decide) ?_
  refine lv_iload_n hx hb dL_texts_385 rfl (lv_at hl 0 rfl) ?_
  refine lv_bipush (v := 60) hx hb dL_texts_386 (by decide) ?_
  refine lv_icmp_gt (tgt := 409) hx hb dL_texts_388 (by decide) (fun c => absurd c (by decide)) (fun _ => ?_)
  refine lv_aload_n hx hb dL_texts_391 rfl (lv_at hl 2 rfl) ?_
  refine lv_bipush (v := 48) hx hb dL_texts_392 (by decide) ?_
  refine gm_ci (gm_call (As := [.int 48]) (rest := []) (ci := 8) (q := (RX8, TX8, 8)) ⟨hx, hb, hml, hown, hts⟩ hK (c_X8_type l D cy β X1_70 48 ) (cwV 1 hts (kIn kv_type) rfl rfl rfl (by decide +kernel) ⟨Nat.le_of_ble_eq_true rfl, Nat.le_of_ble_eq_true rfl⟩) (TR.mk0 hR) rfl hR rfl hl.1 rfl (Nat.le_of_ble_eq_true rfl) dL_texts_394 (Nat.le_of_ble_eq_true rfl) (Nat.le_of_ble_eq_true rfl)) hS TA_CA (fun H locs hR hz9 hfr hS => ?_)
  replace hzl := Nat.le_trans hzl hz9
  obtain ⟨a9, T1_71, hE, hk⟩ := eH_type hE hk
  rw [a9]
  generalize (p_X8_type X1_70 48).2 = X1_71 at hR hE
  clear hfr hz9 a9
  refine lv_iload_n hx hb dL_texts_397 rfl (lv_at hl 0 rfl) ?_
  refine lv_icmp_eq (tgt := 403) hx hb dL_texts_398 (by decide) (fun _ => ?_) (fun c => absurd c (by decide))
  refine lv_iinc (v := 47) (lv' := [(2, .int 47), (1, .int 8), (0, .ref β)]) hx hb dL_texts_403 hl (k := 0) rfl (by decide) (by decide) rfl (fun ls hl => ?_)
  refine lv_goto (tgt := 385) hx hb dL_texts_406 (by decide) ?_
  refine lv_iload_n hx hb dL_texts_385 rfl (lv_at hl 0 rfl) ?_
  refine lv_bipush (v := 60) hx hb dL_texts_386 (by decide) ?_
  refine lv_icmp_gt (tgt := 409) hx hb dL_texts_388 (by decide) (fun c => absurd c (by decide)) (fun _ => ?_)
  refine lv_aload_n hx hb dL_texts_391 rfl (lv_at hl 2 rfl) ?_
  refine lv_bipush (v := 48) hx hb dL_texts_392 (by decide) ?_
  refine gm_ci (gm_call (As := [.int 48]) (rest := []) (ci := 8) (q := (RX8, TX8, 8)) ⟨hx, hb, hml, hown, hts⟩ hK (c_X8_type l D cy β X1_71 48 ) (cwV 1 hts (kIn kv_type) rfl rfl rfl (by decide +kernel) ⟨Nat.le_of_ble_eq_true rfl, Nat.le_of_ble_eq_true rfl⟩) (TR.mk0 hR) rfl hR rfl hl.1 rfl (Nat.le_of_ble_eq_true rfl) dL_texts_394 (Nat.le_of_ble_eq_true rfl) (Nat.le_of_ble_eq_true rfl)) hS TA_CA (fun H locs hR hz9 hfr hS => ?_)
  replace hzl := Nat.le_trans hzl hz9
  obtain ⟨a9, T1_72, hE, hk⟩ := eH_type hE hk
  rw [a9]
  generalize (p_X8_type X1_71 48).2 = X1_72 at hR hE
  clear hfr hz9 a9
  refine lv_iload_n hx hb dL_texts_397 rfl (lv_at hl 0 rfl) ?_
  refine lv_icmp_eq (tgt := 403) hx hb dL_texts_398 (by decide) (fun _ => ?_) (fun c => absurd c (by decide))
  refine lv_iinc (v := 48) (lv' := [(2, .int 48), (1, .int 8), (0, .ref β)]) hx hb dL_texts_403 hl (k := 0) rfl (by decide) (by decide) rfl (fun ls hl => ?_)
  refine lv_goto (tgt := 385) hx hb dL_texts_406 (by decide) ?_
  refine lv_iload_n hx hb dL_texts_385 rfl (lv_at hl 0 rfl) ?_
  refine lv_bipush (v := 60) hx hb dL_texts_386 (by decide) ?_
  refine lv_icmp_gt (tgt := 409) hx hb dL_texts_388 (by decide) (fun c => absurd c (by decide)) (fun _ => ?_)
  refine lv_aload_n hx hb dL_texts_391 rfl (lv_at hl 2 rfl) ?_
  refine lv_bipush (v := 48) hx hb dL_texts_392 (by decide) ?_
  refine gm_ci (gm_call (As := [.int 48]) (rest := []) (ci := 8) (q := (RX8, TX8, 8)) ⟨hx, hb, hml, hown, hts⟩ hK (c_X8_type l D cy β X1_72 48 ) (cwV 1 hts (kIn kv_type) rfl rfl rfl (by decide +kernel) ⟨Nat.le_of_ble_eq_true rfl, Nat.le_of_ble_eq_true rfl⟩) (TR.mk0 hR) rfl hR rfl hl.1 rfl (Nat.le_of_ble_eq_true rfl) dL_texts_394 (Nat.le_of_ble_eq_true rfl) (Nat.le_of_ble_eq_true rfl)) hS TA_CA (fun H locs hR hz9 hfr hS => ?_)
  replace hzl := Nat.le_trans hzl hz9
  obtain ⟨a9, T1_73, hE, hk⟩ := eH_type hE hk
  rw [a9]
  generalize (p_X8_type X1_72 48).2 = X1_73 at hR hE
  clear hfr hz9 a9
  refine lv_iload_n hx hb dL_texts_397 rfl (lv_at hl 0 rfl) ?_
  refine lv_icmp_eq (tgt := 403) hx hb dL_texts_398 (by decide) (fun _ => ?_) (fun c => absurd c (by decide))
  refine lv_iinc (v := 49) (lv' := [(2, .int 49), (1, .int 8), (0, .ref β)]) hx hb dL_texts_403 hl (k := 0) rfl (by decide) (by decide) rfl (fun ls hl => ?_)
  refine lv_goto (tgt := 385) hx hb dL_texts_406 (by decide) ?_
  refine lv_iload_n hx hb dL_texts_385 rfl (lv_at hl 0 rfl) ?_
  refine lv_bipush (v := 60) hx hb dL_texts_386 (by decide) ?_
  refine lv_icmp_gt (tgt := 409) hx hb dL_texts_388 (by decide) (fun c => absurd c (by decide)) (fun _ => ?_)
  refine lv_aload_n hx hb dL_texts_391 rfl (lv_at hl 2 rfl) ?_
  refine lv_bipush (v := 48) hx hb dL_texts_392 (by decide) ?_
  refine gm_ci (gm_call (As := [.int 48]) (rest := []) (ci := 8) (q := (RX8, TX8, 8)) ⟨hx, hb, hml, hown, hts⟩ hK (c_X8_type l D cy β X1_73 48 ) (cwV 1 hts (kIn kv_type) rfl rfl rfl (by decide +kernel) ⟨Nat.le_of_ble_eq_true rfl, Nat.le_of_ble_eq_true rfl⟩) (TR.mk0 hR) rfl hR rfl hl.1 rfl (Nat.le_of_ble_eq_true rfl) dL_texts_394 (Nat.le_of_ble_eq_true rfl) (Nat.le_of_ble_eq_true rfl)) hS TA_CA (fun H locs hR hz9 hfr hS => ?_)
  replace hzl := Nat.le_trans hzl hz9
  obtain ⟨a9, T1_74, hE, hk⟩ := eH_type hE hk
  rw [a9]
  generalize (p_X8_type X1_73 48).2 = X1_74 at hR hE
  clear hfr hz9 a9
  refine lv_iload_n hx hb dL_texts_397 rfl (lv_at hl 0 rfl) ?_
  refine lv_icmp_eq (tgt := 403) hx hb dL_texts_398 (by decide) (fun _ => ?_) (fun c => absurd c (by decide))
  refine lv_iinc (v := 50) (lv' := [(2, .int 50), (1, .int 8), (0, .ref β)]) hx hb dL_texts_403 hl (k := 0) rfl (by decide) (by decide) rfl (fun ls hl => ?_)
  refine lv_goto (tgt := 385) hx hb dL_texts_406 (by decide) ?_
  refine lv_iload_n hx hb dL_texts_385 rfl (lv_at hl 0 rfl) ?_
  refine lv_bipush (v := 60) hx hb dL_texts_386 (by decide) ?_
  refine lv_icmp_gt (tgt := 409) hx hb dL_texts_388 (by decide) (fun c => absurd c (by decide)) (fun _ => ?_)
  refine lv_aload_n hx hb dL_texts_391 rfl (lv_at hl 2 rfl) ?_
  refine lv_bipush (v := 48) hx hb dL_texts_392 (by decide) ?_
  refine gm_ci (gm_call (As := [.int 48]) (rest := []) (ci := 8) (q := (RX8, TX8, 8)) ⟨hx, hb, hml, hown, hts⟩ hK (c_X8_type l D cy β X1_74 48 ) (cwV 1 hts (kIn kv_type) rfl rfl rfl (by decide +kernel) ⟨Nat.le_of_ble_eq_true rfl, Nat.le_of_ble_eq_true rfl⟩) (TR.mk0 hR) rfl hR rfl hl.1 rfl (Nat.le_of_ble_eq_true rfl) dL_texts_394 (Nat.le_of_ble_eq_true rfl) (Nat.le_of_ble_eq_true rfl)) hS TA_CA (fun H locs hR hz9 hfr hS => ?_)
  replace hzl := Nat.le_trans hzl hz9
  obtain ⟨a9, T1_75, hE, hk⟩ := eH_type hE hk
  rw [a9]
  generalize (p_X8_type X1_74 48).2 = X1_75 at hR hE
  clear hfr hz9 a9
  refine lv_iload_n hx hb dL_texts_397 rfl (lv_at hl 0 rfl) ?_
  refine lv_icmp_eq (tgt := 403) hx hb dL_texts_398 (by decide) (fun _ => ?_) (fun c => absurd c (by decide))
  refine lv_iinc (v := 51) (lv' := [(2, .int 51), (1, .int 8), (0, .ref β)]) hx hb dL_texts_403 hl (k := 0) rfl (by decide) (by decide) rfl (fun ls hl => ?_)
  refine lv_goto (tgt := 385) hx hb dL_texts_406 (by decide) ?_
  refine lv_iload_n hx hb dL_texts_385 rfl (lv_at hl 0 rfl) ?_
  refine lv_bipush (v := 60) hx hb dL_texts_386 (by decide) ?_
  refine lv_icmp_gt (tgt := 409) hx hb dL_texts_388 (by decide) (fun c => absurd c (by decide)) (fun _ => ?_)
  refine lv_aload_n hx hb dL_texts_391 rfl (lv_at hl 2 rfl) ?_
  refine lv_bipush (v := 48) hx hb dL_texts_392 (by decide) ?_
  refine gm_ci (gm_call (As := [.int 48]) (rest := []) (ci := 8) (q := (RX8, TX8, 8)) ⟨hx, hb, hml, hown, hts⟩ hK (c_X8_type l D cy β X1_75 48 ) (cwV 1 hts (kIn kv_type) rfl rfl rfl (by decide +kernel) ⟨Nat.le_of_ble_eq_true rfl, Nat.le_of_ble_eq_true rfl⟩) (TR.mk0 hR) rfl hR rfl hl.1 rfl (Nat.le_of_ble_eq_true rfl) dL_texts_394 (Nat.le_of_ble_eq_true rfl) (Nat.le_of_ble_eq_true rfl)) hS TA_CA (fun H locs hR hz9 hfr hS => ?_)
  replace hzl := Nat.le_trans hzl hz9
  obtain ⟨a9, T1_76, hE, hk⟩ := eH_type hE hk
  rw [a9]
  generalize (p_X8_type X1_75 48).2 = X1_76 at hR hE
  clear hfr hz9 a9
  refine lv_iload_n hx hb dL_texts_397 rfl (lv_at hl 0 rfl) ?_
  refine lv_icmp_eq (tgt := 403) hx hb dL_texts_398 (by decide) (fun _ => ?_) (fun c => absurd c (by decide))
  refine lv_iinc (v := 52) (lv' := [(2, .int 52), (1, .int 8), (0, .ref β)]) hx hb dL_texts_403 hl (k := 0) rfl (by decide) (by decide) rfl (fun ls hl => ?_)
  refine lv_goto (tgt := 385) hx hb dL_texts_406 (by decide) ?_
  refine lv_iload_n hx hb dL_texts_385 rfl (lv_at hl 0 rfl) ?_
  refine lv_bipush (v := 60) hx hb dL_texts_386 (by decide) ?_
  refine lv_icmp_gt (tgt := 409) hx hb dL_texts_388 (by decide) (fun c => absurd c (by decide)) (fun _ => ?_)
  refine lv_aload_n hx hb dL_texts_391 rfl (lv_at hl 2 rfl) ?_
  refine lv_bipush (v := 48) hx hb dL_texts_392 (by decide) ?_
  refine gm_ci (gm_call (As := [.int 48]) (rest := []) (ci := 8) (q := (RX8, TX8, 8)) ⟨hx, hb, hml, hown, hts⟩ hK (c_X8_type l D cy β X1_76 48 ) (cwV 1 hts (kIn kv_type) rfl rfl rfl (by decide +kernel) ⟨Nat.le_of_ble_eq_true rfl, Nat.le_of_ble_eq_true rfl⟩) (TR.mk0 hR) rfl hR rfl hl.1 rfl (Nat.le_of_ble_eq_true rfl) dL_texts_394 (Nat.le_of_ble_eq_true rfl) (Nat.le_of_ble_eq_true rfl)) hS TA_CA (fun H locs hR hz9 hfr hS => ?_)
  replace hzl := Nat.le_trans hzl hz9
  obtain ⟨a9, T1_77, hE, hk⟩ := eH_type hE hk
  rw [a9]
  generalize (p_X8_type X1_76 48).2 = X1_77 at hR hE
  clear hfr hz9 a9
  refine lv_iload_n hx hb dL_texts_397 rfl (lv_at hl 0 rfl) ?_
  refine lv_icmp_eq (tgt := 403) hx hb dL_texts_398 (by decide) (fun _ => ?_) (fun c => absurd c (by decide))
  refine lv_iinc (v := 53) (lv' := [(2, .int 53), (1, .int 8), (0, .ref β)]) hx hb dL_texts_403 hl (k := 0) rfl (by decide) (by decide) rfl (fun ls hl => ?_)
  refine lv_goto (tgt := 385) hx hb dL_texts_406 (by decide) ?_
  refine lv_iload_n hx hb dL_texts_385 rfl (lv_at hl 0 rfl) ?_
  refine lv_bipush (v := 60) hx hb dL_texts_386 (by decide) ?_
  refine lv_icmp_gt (tgt := 409) hx hb dL_texts_388 (by decide) (fun c => absurd c (by decide)) (fun _ => ?_)
  refine lv_aload_n hx hb dL_texts_391 rfl (lv_at hl 2 rfl) ?_
  refine lv_bipush (v := 48) hx hb dL_texts_392 (by decide) ?_
  refine gm_ci (gm_call (As := [.int 48]) (rest := []) (ci := 8) (q := (RX8, TX8, 8)) ⟨hx, hb, hml, hown, hts⟩ hK (c_X8_type l D cy β X1_77 48 ) (cwV 1 hts (kIn kv_type) rfl rfl rfl (by decide +kernel) ⟨Nat.le_of_ble_eq_true rfl, Nat.le_of_ble_eq_true rfl⟩) (TR.mk0 hR) rfl hR rfl hl.1 rfl (Nat.le_of_ble_eq_true rfl) dL_texts_394 (Nat.le_of_ble_eq_true rfl) (Nat.le_of_ble_eq_true rfl)) hS TA_CA (fun H locs hR hz9 hfr hS => ?_)
  replace hzl := Nat.le_trans hzl hz9
  obtain ⟨a9, T1_78, hE, hk⟩ := eH_type hE hk
  rw [a9]
  generalize (p_X8_type X1_77 48).2 = X1_78 at hR hE
  clear hfr hz9 a9
  refine lv_iload_n hx hb dL_texts_397 rfl (lv_at hl 0 rfl) ?_
  refine lv_icmp_eq (tgt := 403) hx hb dL_texts_398 (by decide) (fun _ => ?_) (fun c => absurd c (by decide))
  refine lv_iinc (v := 54) (lv' := [(2, .int 54), (1, .int 8), (0, .ref β)]) hx hb dL_texts_403 hl (k := 0) rfl (by decide) (by decide) rfl (fun ls hl => ?_)
  refine lv_goto (tgt := 385) hx hb dL_texts_406 (by decide) ?_
  refine lv_iload_n hx hb dL_texts_385 rfl (lv_at hl 0 rfl) ?_
  refine lv_bipush (v := 60) hx hb dL_texts_386 (by decide) ?_
  refine lv_icmp_gt (tgt := 409) hx hb dL_texts_388 (by decide) (fun c => absurd c (by decide)) (fun _ => ?_)
  refine lv_aload_n hx hb dL_texts_391 rfl (lv_at hl 2 rfl) ?_
  refine lv_bipush (v := 48) hx hb dL_texts_392 (by decide) ?_
  refine gm_ci (gm_call (As := [.int 48]) (rest := []) (ci := 8) (q := (RX8, TX8, 8)) ⟨hx, hb, hml, hown, hts⟩ hK (c_X8_type l D cy β X1_78 48 ) (cwV 1 hts (kIn kv_type) rfl rfl rfl (by decide +kernel) ⟨Nat.le_of_ble_eq_true rfl, Nat.le_of_ble_eq_true rfl⟩) (TR.mk0 hR) rfl hR rfl hl.1 rfl (Nat.le_of_ble_eq_true rfl) dL_texts_394 (Nat.le_of_ble_eq_true rfl) (Nat.le_of_ble_eq_true rfl)) hS TA_CA (fun H locs hR hz9 hfr hS => ?_)
  replace hzl := Nat.le_trans hzl hz9
  obtain ⟨a9, T1_79, hE, hk⟩ := eH_type hE hk
  rw [a9]
  generalize (p_X8_type X1_78 48).2 = X1_79 at hR hE
  clear hfr hz9 a9
  refine lv_iload_n hx hb dL_texts_397 rfl (lv_at hl 0 rfl) ?_
  refine lv_icmp_eq (tgt := 403) hx hb dL_texts_398 (by decide) (fun _ => ?_) (fun c => absurd c (by decide))
  refine lv_iinc (v := 55) (lv' := [(2, .int 55), (1, .int 8), (0, .ref β)]) hx hb dL_texts_403 hl (k := 0) rfl (by decide) (by decide) rfl (fun ls hl => ?_)
  refine lv_goto (tgt := 385) hx hb dL_texts_406 (by decide) ?_
  refine lv_iload_n hx hb dL_texts_385 rfl (lv_at hl 0 rfl) ?_
  refine lv_bipush (v := 60) hx hb dL_texts_386 (by decide) ?_
  refine lv_icmp_gt (tgt := 409) hx hb dL_texts_388 (by decide) (fun c => absurd c (by decide)) (fun _ => ?_)
  refine lv_aload_n hx hb dL_texts_391 rfl (lv_at hl 2 rfl) ?_
  refine lv_bipush (v := 48) hx hb dL_texts_392 (by decide) ?_
  refine gm_ci (gm_call (As := [.int 48]) (rest := []) (ci := 8) (q := (RX8, TX8, 8)) ⟨hx, hb, hml, hown, hts⟩ hK (c_X8_type l D cy β X1_79 48 ) (cwV 1 hts (kIn kv_type) rfl rfl rfl (by decide +kernel) ⟨Nat.le_of_ble_eq_true rfl, Nat.le_of_ble_eq_true rfl⟩) (TR.mk0 hR) rfl hR rfl hl.1 rfl (Nat.le_of_ble_eq_true rfl) dL_texts_394 (Nat.le_of_ble_eq_true rfl) (Nat.le_of_ble_eq_true rfl)) hS TA_CA (fun H locs hR hz9 hfr hS => ?_)
  replace hzl := Nat.le_trans hzl hz9
  obtain ⟨a9, T1_80, hE, hk⟩ := eH_type hE hk
  rw [a9]
  generalize (p_X8_type X1_79 48).2 = X1_80 at hR hE
  clear hfr hz9 a9
  refine lv_iload_n hx hb dL_texts_397 rfl (lv_at hl 0 rfl) ?_
  refine lv_icmp_eq (tgt := 403) hx hb dL_texts_398 (by decide) (fun _ => ?_) (fun c => absurd c (by decide))
  refine lv_iinc (v := 56) (lv' := [(2, .int 56), (1, .int 8), (0, .ref β)]) hx hb dL_texts_403 hl (k := 0) rfl (by decide) (by decide) rfl (fun ls hl => ?_)
  refine lv_goto (tgt := 385) hx hb dL_texts_406 (by decide) ?_
  refine lv_iload_n hx hb dL_texts_385 rfl (lv_at hl 0 rfl) ?_
  refine lv_bipush (v := 60) hx hb dL_texts_386 (by decide) ?_
  refine lv_icmp_gt (tgt := 409) hx hb dL_texts_388 (by decide) (fun c => absurd c (by decide)) (fun _ => ?_)
  refine lv_aload_n hx hb dL_texts_391 rfl (lv_at hl 2 rfl) ?_
  refine lv_bipush (v := 48) hx hb dL_texts_392 (by decide) ?_
  refine gm_ci (gm_call (As := [.int 48]) (rest := []) (ci := 8) (q := (RX8, TX8, 8)) ⟨hx, hb, hml, hown, hts⟩ hK (c_X8_type l D cy β X1_80 48 ) (cwV 1 hts (kIn kv_type) rfl rfl rfl (by decide +kernel) ⟨Nat.le_of_ble_eq_true rfl, Nat.le_of_ble_eq_true rfl⟩) (TR.mk0 hR) rfl hR rfl hl.1 rfl (Nat.le_of_ble_eq_true rfl) dL_texts_394 (Nat.le_of_ble_eq_true rfl) (Nat.le_of_ble_eq_true rfl)) hS TA_CA (fun H locs hR hz9 hfr hS => ?_)
  replace hzl := Nat.le_trans hzl hz9
  obtain ⟨a9, T1_81, hE, hk⟩ := eH_type hE hk
  rw [a9]
  generalize (p_X8_type X1_80 48).2 = X1_81 at hR hE
  clear hfr hz9 a9
  refine lv_iload_n hx hb dL_texts_397 rfl (lv_at hl 0 rfl) ?_
  refine lv_icmp_eq (tgt := 403) hx hb dL_texts_398 (by decide) (fun _ => ?_) (fun c => absurd c (by decide))
  refine lv_iinc (v := 57) (lv' := [(2, .int 57), (1, .int 8), (0, .ref β)]) hx hb dL_texts_403 hl (k := 0) rfl (by decide) (by decide) rfl (fun ls hl => ?_)
  refine lv_goto (tgt := 385) hx hb dL_texts_406 (by decide) ?_
  refine lv_iload_n hx hb dL_texts_385 rfl (lv_at hl 0 rfl) ?_
  refine lv_bipush (v := 60) hx hb dL_texts_386 (by decide) ?_
  refine lv_icmp_gt (tgt := 409) hx hb dL_texts_388 (by decide) (fun c => absurd c (by decide)) (fun _ => ?_)
  refine lv_aload_n hx hb dL_texts_391 rfl (lv_at hl 2 rfl) ?_
  refine lv_bipush (v := 48) hx hb dL_texts_392 (by decide) ?_
  refine gm_ci (gm_call (As := [.int 48]) (rest := []) (ci := 8) (q := (RX8, TX8, 8)) ⟨hx, hb, hml, hown, hts⟩ hK (c_X8_type l D cy β X1_81 48 ) (cwV 1 hts (kIn kv_type) rfl rfl rfl (by decide +kernel) ⟨Nat.le_of_ble_eq_true rfl, Nat.le_of_ble_eq_true rfl⟩) (TR.mk0 hR) rfl hR rfl hl.1 rfl (Nat.le_of_ble_eq_true rfl) dL_texts_394 (Nat.le_of_ble_eq_true rfl) (Nat.le_of_ble_eq_true rfl)) hS TA_CA (fun H locs hR hz9 hfr hS => ?_)
  replace hzl := Nat.le_trans hzl hz9
  obtain ⟨a9, T1_82, hE, hk⟩ := eH_type hE hk
  rw [a9]
  generalize (p_X8_type X1_81 48).2 = X1_82 at hR hE
  clear hfr hz9 a9
  refine lv_iload_n hx hb dL_texts_397 rfl (lv_at hl 0 rfl) ?_
  refine lv_icmp_eq (tgt := 403) hx hb dL_texts_398 (by decide) (fun _ => ?_) (fun c => absurd c (by decide))
  refine lv_iinc (v := 58) (lv' := [(2, .int 58), (1, .int 8), (0, .ref β)]) hx hb dL_texts_403 hl (k := 0) rfl (by decide) (by decide) rfl (fun ls hl => ?_)
  refine lv_goto (tgt := 385) hx hb dL_texts_406 (by decide) ?_
  refine lv_iload_n hx hb dL_texts_385 rfl (lv_at hl 0 rfl) ?_
  refine lv_bipush (v := 60) hx hb dL_texts_386 (by decide) ?_
  refine lv_icmp_gt (tgt := 409) hx hb dL_texts_388 (by decide) (fun c => absurd c (by decide)) (fun _ => ?_)
  refine lv_aload_n hx hb dL_texts_391 rfl (lv_at hl 2 rfl) ?_
  refine lv_bipush (v := 48) hx hb dL_texts_392 (by decide) ?_
  refine gm_ci (gm_call (As := [.int 48]) (rest := []) (ci := 8) (q := (RX8, TX8, 8)) ⟨hx, hb, hml, hown, hts⟩ hK (c_X8_type l D cy β X1_82 48 ) (cwV 1 hts (kIn kv_type) rfl rfl rfl (by decide +kernel) ⟨Nat.le_of_ble_eq_true rfl, Nat.le_of_ble_eq_true rfl⟩) (TR.mk0 hR) rfl hR rfl hl.1 rfl (Nat.le_of_ble_eq_true rfl) dL_texts_394 (Nat.le_of_ble_eq_true rfl) (Nat.le_of_ble_eq_true rfl)) hS TA_CA (fun H locs hR hz9 hfr hS => ?_)
  replace hzl := Nat.le_trans hzl hz9
  obtain ⟨a9, T1_83, hE, hk⟩ := eH_type hE hk
  rw [a9]
  generalize (p_X8_type X1_82 48).2 = X1_83 at hR hE
  clear hfr hz9 a9
  refine lv_iload_n hx hb dL_texts_397 rfl (lv_at hl 0 rfl) ?_
  refine lv_icmp_eq (tgt := 403) hx hb dL_texts_398 (by decide) (fun _ => ?_) (fun c => absurd c (by decide))
  refine lv_iinc (v := 59) (lv' := [(2, .int 59), (1, .int 8), (0, .ref β)]) hx hb dL_texts_403 hl (k := 0) rfl (by decide) (by decide) rfl (fun ls hl => ?_)
  refine lv_goto (tgt := 385) hx hb dL_texts_406 (by decide) ?_
  refine lv_iload_n hx hb dL_texts_385 rfl (lv_at hl 0 rfl) ?_
  refine lv_bipush (v := 60) hx hb dL_texts_386 (by decide) ?_
  refine lv_icmp_gt (tgt := 409) hx hb dL_texts_388 (by decide) (fun c => absurd c (by decide)) (fun _ => ?_)
  refine lv_aload_n hx hb dL_texts_391 rfl (lv_at hl 2 rfl) ?_
  refine lv_bipush (v := 48) hx hb dL_texts_392 (by decide) ?_
  refine gm_ci (gm_call (As := [.int 48]) (rest := []) (ci := 8) (q := (RX8, TX8, 8)) ⟨hx, hb, hml, hown, hts⟩ hK (c_X8_type l D cy β X1_83 48 ) (cwV 1 hts (kIn kv_type) rfl rfl rfl (by decide +kernel) ⟨Nat.le_of_ble_eq_true rfl, Nat.le_of_ble_eq_true rfl⟩) (TR.mk0 hR) rfl hR rfl hl.1 rfl (Nat.le_of_ble_eq_true rfl) dL_texts_394 (Nat.le_of_ble_eq_true rfl) (Nat.le_of_ble_eq_true rfl)) hS TA_CA (fun H locs hR hz9 hfr hS => ?_)
  replace hzl := Nat.le_trans hzl hz9
  obtain ⟨a9, T1_84, hE, hk⟩ := eH_type hE hk
  rw [a9]
  generalize (p_X8_type X1_83 48).2 = X1_84 at hR hE
  clear hfr hz9 a9
  refine lv_iload_n hx hb dL_texts_397 rfl (lv_at hl 0 rfl) ?_
  refine lv_icmp_eq (tgt := 403) hx hb dL_texts_398 (by decide) (fun _ => ?_) (fun c => absurd c (by decide))
  refine lv_iinc (v := 60) (lv' := [(2, .int 60), (1, .int 8), (0, .ref β)]) hx hb dL_texts_403 hl (k := 0) rfl (by decide) (by decide) rfl (fun ls hl => ?_)
  refine lv_goto (tgt := 385) hx hb dL_texts_406 (by decide) ?_
  refine lv_iload_n hx hb dL_texts_385 rfl (lv_at hl 0 rfl) ?_
  refine lv_bipush (v := 60) hx hb dL_texts_386 (by decide) ?_
  refine lv_icmp_gt (tgt := 409) hx hb dL_texts_388 (by decide) (fun c => absurd c (by decide)) (fun _ => ?_)
  refine lv_aload_n hx hb dL_texts_391 rfl (lv_at hl 2 rfl) ?_
  refine lv_bipush (v := 48) hx hb dL_texts_392 (by decide) ?_
  refine gm_ci (gm_call (As := [.int 48]) (rest := []) (ci := 8) (q := (RX8, TX8, 8)) ⟨hx, hb, hml, hown, hts⟩ hK (c_X8_type l D cy β X1_84 48 ) (cwV 1 hts (kIn kv_type) rfl rfl rfl (by decide +kernel) ⟨Nat.le_of_ble_eq_true rfl, Nat.le_of_ble_eq_true rfl⟩) (TR.mk0 hR) rfl hR rfl hl.1 rfl (Nat.le_of_ble_eq_true rfl) dL_texts_394 (Nat.le_of_ble_eq_true rfl) (Nat.le_of_ble_eq_true rfl)) hS TA_CA (fun H locs hR hz9 hfr hS => ?_)
  replace hzl := Nat.le_trans hzl hz9
  obtain ⟨a9, T1_85, hE, hk⟩ := eH_type hE hk
  rw [a9]
  generalize (p_X8_type X1_84 48).2 = X1_85 at hR hE
  clear hfr hz9 a9
  refine lv_iload_n hx hb dL_texts_397 rfl (lv_at hl 0 rfl) ?_
  refine lv_icmp_eq (tgt := 403) hx hb dL_texts_398 (by decide) (fun _ => ?_) (fun c => absurd c (by decide))
  refine lv_iinc (v := 61) (lv' := [(2, .int 61), (1, .int 8), (0, .ref β)]) hx hb dL_texts_403 hl (k := 0) rfl (by decide) (by decide) rfl (fun ls hl => ?_)
  refine lv_goto (tgt := 385) hx hb dL_texts_406 (by decide) ?_
  refine lv_iload_n hx hb dL_texts_385 rfl (lv_at hl 0 rfl) ?_
  refine lv_bipush (v := 60) hx hb dL_texts_386 (by decide) ?_
  refine lv_icmp_gt (tgt := 409) hx hb dL_texts_388 (by decide) (fun _ => ?_) (fun c => absurd c (by decide))
  refine lv_iload_n hx hb dL_texts_409 rfl (lv_at hl 1 rfl) ?_
  refine lv_bipush (v := 8) hx hb dL_texts_410 (by decide) ?_
  refine lv_icmp_ne (tgt := 468) hx hb dL_texts_412 (by decide) (fun c => absurd c (by decide)) (fun _ => ?_)
  refine lv_aload_n hx hb dL_texts_415 rfl (lv_at hl 2 rfl) ?_
  refine lv_bipush (v := 48) hx hb dL_texts_416 (by decide) ?_
  refine gm_ci (gm_call (As := [.int 48]) (rest := []) (ci := 8) (q := (RX8, TX8, 8)) ⟨hx, hb, hml, hown, hts⟩ hK (c_X8_type l D cy β X1_85 48 ) (cwV 1 hts (kIn kv_type) rfl rfl rfl (by decide +kernel) ⟨Nat.le_of_ble_eq_true rfl, Nat.le_of_ble_eq_true rfl⟩) (TR.mk0 hR) rfl hR rfl hl.1 rfl (Nat.le_of_ble_eq_true rfl) dL_texts_418 (Nat.le_of_ble_eq_true rfl) (Nat.le_of_ble_eq_true rfl)) hS TA_CA (fun H locs hR hz9 hfr hS => ?_)
  replace hzl := Nat.le_trans hzl hz9
  obtain ⟨a9, T1_86, hE, hk⟩ := eH_type hE hk
  rw [a9]
  generalize (p_X8_type X1_85 48).2 = X1_86 at hR hE
  clear hfr hz9 a9
  refine lv_bipush (v := (-3)) hx hb dL_texts_421 (by decide) ?_
  refine lv_icmp_ne (tgt := 468) hx hb dL_texts_423 (by decide) (fun c => absurd c (by decide)) (fun _ => ?_)
  refine lv_aload_n hx hb dL_texts_426 rfl (lv_at hl 2 rfl) ?_
  refine gm_ci (gm_call (As := []) (rest := []) (ci := 8) (q := (RX8, TX8, 8)) ⟨hx, hb, hml, hown, hts⟩ hK (c_X8_readTickets l D cy β X1_86 hE.ok) (cwV 0 hts (kIn kv_readTickets) rfl rfl rfl (by decide +kernel) ⟨Nat.le_of_ble_eq_true rfl, Nat.le_of_ble_eq_true rfl⟩) (TR.mk0 hR) rfl hR rfl hl.1 rfl (Nat.le_of_ble_eq_true rfl) dL_texts_427 (Nat.le_of_ble_eq_true rfl) (Nat.le_of_ble_eq_true rfl)) hS TA_CA (fun H locs hR hz9 hfr hS => ?_)
  replace hzl := Nat.le_trans hzl hz9
  obtain ⟨a9, T1_87, hE, hk⟩ := eH_readTickets hE hk
  rw [a9]
  generalize (p_X8_readTickets X1_86).2 = X1_87 at hR hE
  clear hfr hz9 a9
  refine lv_bipush (v := (-101)) hx hb dL_texts_430 (by decide) ?_
  refine lv_icmp_ne (tgt := 468) hx hb dL_texts_432 (by decide) (fun c => absurd c (by decide)) (fun _ => ?_)
  refine lv_aload_n hx hb dL_texts_435 rfl (lv_at hl 2 rfl) ?_
  refine lv_bipush (v := 20) hx hb dL_texts_436 (by decide) ?_
  refine gm_ci (gm_call (As := [.int 20]) (rest := []) (ci := 8) (q := (RX8, TX8, 8)) ⟨hx, hb, hml, hown, hts⟩ hK (c_X8_count l D cy β X1_87 20 ) (cwV 1 hts (kIn kv_count) rfl rfl rfl (by decide +kernel) ⟨Nat.le_of_ble_eq_true rfl, Nat.le_of_ble_eq_true rfl⟩) (TR.mk0 hR) rfl hR rfl hl.1 rfl (Nat.le_of_ble_eq_true rfl) dL_texts_438 (Nat.le_of_ble_eq_true rfl) (Nat.le_of_ble_eq_true rfl)) hS (fun _ h => h.elim) (fun H locs _ hz9 hfr hS => ?_)
  have hR := gRep.keep hR hfr (fun _ _ h => h)
  replace hzl := Nat.le_trans hzl hz9
  obtain ⟨a9, hk⟩ := e_count hE hk
  rw [a9]
  clear hfr hz9 a9
  refine lv_bipush (v := 60) hx hb dL_texts_441 (by decide) ?_
  refine lv_icmp_ne (tgt := 468) hx hb dL_texts_443 (by decide) (fun c => absurd c (by decide)) (fun _ => ?_)
  refine lv_aload_n hx hb dL_texts_446 rfl (lv_at hl 2 rfl) ?_
  refine gm_ci (gm_call (As := []) (rest := []) (ci := 8) (q := (RX8, TX8, 8)) ⟨hx, hb, hml, hown, hts⟩ hK (c_X8_clearText l D cy β X1_87 ) (cwV 0 hts (kIn kv_clearText) rfl rfl rfl (by decide +kernel) ⟨Nat.le_of_ble_eq_true rfl, Nat.le_of_ble_eq_true rfl⟩) (TR.mk0 hR) rfl hR rfl hl.1 rfl (Nat.le_of_ble_eq_true rfl) dL_texts_447 (Nat.le_of_ble_eq_true rfl) (Nat.le_of_ble_eq_true rfl)) hS TA_CA (fun H locs hR hz9 hfr hS => ?_)
  replace hzl := Nat.le_trans hzl hz9
  obtain ⟨a9, T1_88, hE, hk⟩ := eH_clearText hE hk
  rw [a9]
  generalize (p_X8_clearText X1_87).2 = X1_88 at hR hE
  clear hfr hz9 a9
  refine lv_bipush (v := 60) hx hb dL_texts_450 (by decide) ?_
  refine lv_icmp_ne (tgt := 468) hx hb dL_texts_452 (by decide) (fun c => absurd c (by decide)) (fun _ => ?_)
  refine lv_aload_n hx hb dL_texts_455 rfl (lv_at hl 2 rfl) ?_
  refine lv_bipush (v := 19) hx hb dL_texts_456 (by decide) ?_
  refine gm_ci (gm_call (As := [.int 19]) (rest := []) (ci := 8) (q := (RX8, TX8, 8)) ⟨hx, hb, hml, hown, hts⟩ hK (c_X8_count l D cy β X1_88 19 ) (cwV 1 hts (kIn kv_count) rfl rfl rfl (by decide +kernel) ⟨Nat.le_of_ble_eq_true rfl, Nat.le_of_ble_eq_true rfl⟩) (TR.mk0 hR) rfl hR rfl hl.1 rfl (Nat.le_of_ble_eq_true rfl) dL_texts_458 (Nat.le_of_ble_eq_true rfl) (Nat.le_of_ble_eq_true rfl)) hS (fun _ h => h.elim) (fun H locs _ hz9 hfr hS => ?_)
  have hR := gRep.keep hR hfr (fun _ _ h => h)
  replace hzl := Nat.le_trans hzl hz9
  obtain ⟨a9, hk⟩ := e_count hE hk
  rw [a9]
  clear hfr hz9 a9
  refine lv_if_ne (tgt := 468) hx hb dL_texts_461 (by decide) (fun c => absurd c (by decide)) (fun _ => ?_)
  refine lv_iconst (v := 1) hx hb dL_texts_464 (by decide) ?_
  refine lv_goto (tgt := 469) hx hb dL_texts_465 (by decide) ?_
  exact gm_zret hx hb hr hlocks rfl hS rfl trivial dL_texts_469
