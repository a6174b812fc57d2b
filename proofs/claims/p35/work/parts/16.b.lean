/-! built() -/
set_option maxHeartbeats 8000000 in
set_option maxRecDepth 100000 in
theorem c_L_built (l : Launch) (D : va_G) (cy : Nat → ClassId) (β : Nat) (k : gM → Bool) (hk : evB k = true) : Met l yL_built wsK_built ({ frames := 6, cells := 872, slots := 8239, locals := 134 }) (gP [] D cy (fun H => H.size = β)) (gQq (some β) (fun H => ∃ X U, TR D cy β X H ∧ β + 872 ≤ H.size ∧ Ev X U ∧ k U = true) (CA β)) 872 8239 (CA β) := by
  refine gm_metC (cc := cL_built) (maxL := 2) (ret := (some (.object "MercuryLine"))) [] (by decide) rfl (Nat.le_of_ble_eq_true rfl) ?_
  intro p e s m args below meth c0 ls C hin hz hl
  obtain ⟨hx, hb, hr, hts, hown, hlocks, hml, hK⟩ := C
  have hl : lv_has ls 2 [] := hl
  have hS : va_S (CA β) s.heap s.heap [] := va_S.rf
  unfold evB at hk
  refine gm_new (ci := 8) (fs := [.null, .null, .null, .null, .null, .null, .int 0, .int 0]) (C := RX8) (T := TX8) (N := 8) hx hb hts (fun w h => List.mem_cons_of_mem _ (inlX8 w h)) tyX8 tyX8_ok hown (hts _ (List.mem_cons_of_mem _ kw_classLink_RL_14_RX8)) (hts _ (List.mem_cons_of_mem _ kw_instantiable_RX8_8)) (hts _ (List.mem_cons_of_mem _ kw_initialized_RX8)) hK.1 rfl (fun j hj => by rcases (show j = 0 ∨ j = 1 ∨ j = 2 ∨ j = 3 ∨ j = 4 ∨ j = 5 ∨ j = 6 ∨ j = 7 by omega) with rfl | rfl | rfl | rfl | rfl | rfl | rfl | rfl <;> rfl) (Nat.le_of_ble_eq_true rfl) (Nat.le_of_ble_eq_true rfl) dL_built_0 hz (fun H h2 z1 o1 => ?_)
  have hS := g_Sm hS hz z1 o1
  refine lv_dup hx hb dL_built_3 rfl ?_
  refine gm_cvC (mc := 871) (ms := 8231) (va_runI (As := []) (rest := [.ref β]) ⟨hx, hb, hml, hown, hts⟩ (c_X8_init l D cy β) ⟨callB_of 0 hts (kIn kg_init) rfl rfl rfl (hts _ (List.mem_cons_of_mem _ kw_initialized_RX8)) (hts _ (List.mem_cons_of_mem _ kw_methodLink_RL_134_yX8_init)) (by decide +kernel) ⟨Nat.le_of_ble_eq_true rfl, Nat.le_of_ble_eq_true rfl⟩, rfl, hts _ (List.mem_cons_of_mem _ kw_instanceMethod_yX8_init)⟩ (gPreS hK (lw_new8 h2 z1)) rfl rfl hl.1 rfl (lv_room (Nat.le_of_ble_eq_true rfl)) dL_built_4 ⟨Nat.le_of_ble_eq_true rfl, Nat.le_of_ble_eq_true rfl⟩) hS (fun _ h => h) (fun H locs hU _ hfr hS => ?_)
  clear hfr h2 z1 o1
  have hR := hU.TR
  have hzl : β + 872 ≤ H.size := Nat.le_of_eq hU.2.symm
  clear hU
  have hE : Ev U0 B0 := Ev_new
  have hk := hk
  refine lv_astore_n (lv' := [(0, .ref β)]) hx hb dL_built_7 rfl hl (by decide) rfl (fun ls hl => ?_)
  refine lv_aload_n hx hb dL_built_8 rfl (lv_at hl 0 rfl) ?_
  refine lv_iconst (v := 0) hx hb dL_built_9 (by decide) ?_
  refine lv_iconst (v := 0) hx hb dL_built_10 (by decide) ?_
  refine gm_ci (gm_call (As := [.int 0, .int 0]) (rest := []) (ci := 8) (q := (RX8, TX8, 8)) ⟨hx, hb, hml, hown, hts⟩ hK (c_X8_addStation l D cy β U0 0 0 hE.ok) (cwV 2 hts (kIn kv_addStation) rfl rfl rfl (by decide +kernel) ⟨Nat.le_of_ble_eq_true rfl, Nat.le_of_ble_eq_true rfl⟩) (TR.mk0 hR) rfl hR rfl hl.1 rfl (Nat.le_of_ble_eq_true rfl) dL_built_11 (Nat.le_of_ble_eq_true rfl) (Nat.le_of_ble_eq_true rfl)) hS TA_CA (fun H locs hR hz9 hfr hS => ?_)
  replace hzl := Nat.le_trans hzl hz9
  obtain ⟨a9, T1_1, hE, hk⟩ := eH_addStation hE hk
  rw [a9]
  generalize (p_X8_addStation U0 0 0).2 = X1_1 at hR hE
  clear hfr hz9 a9
  refine lv_aload_n hx hb dL_built_14 rfl (lv_at hl 0 rfl) ?_
  refine lv_iconst (v := 0) hx hb dL_built_15 (by decide) ?_
  refine lv_iconst (v := 3) hx hb dL_built_16 (by decide) ?_
  refine gm_ci (gm_call (As := [.int 0, .int 3]) (rest := [.int 0]) (ci := 8) (q := (RX8, TX8, 8)) ⟨hx, hb, hml, hown, hts⟩ hK (c_X8_addStation l D cy β X1_1 0 3 hE.ok) (cwV 2 hts (kIn kv_addStation) rfl rfl rfl (by decide +kernel) ⟨Nat.le_of_ble_eq_true rfl, Nat.le_of_ble_eq_true rfl⟩) (TR.mk0 hR) rfl hR rfl hl.1 rfl (Nat.le_of_ble_eq_true rfl) dL_built_17 (Nat.le_of_ble_eq_true rfl) (Nat.le_of_ble_eq_true rfl)) hS TA_CA (fun H locs hR hz9 hfr hS => ?_)
  replace hzl := Nat.le_trans hzl hz9
  obtain ⟨a9, T1_2, hE, hk⟩ := eH_addStation hE hk
  rw [a9]
  generalize (p_X8_addStation X1_1 0 3).2 = X1_2 at hR hE
  clear hfr hz9 a9
  refine lv_iadd hx hb dL_built_20 ?_
  rw [show (0 + 1 : Int32) = 1 from by decide]
  refine lv_aload_n hx hb dL_built_21 rfl (lv_at hl 0 rfl) ?_
  refine lv_iconst (v := 1) hx hb dL_built_22 (by decide) ?_
  refine lv_iconst (v := 0) hx hb dL_built_23 (by decide) ?_
  refine gm_ci (gm_call (As := [.int 1, .int 0]) (rest := [.int 1]) (ci := 8) (q := (RX8, TX8, 8)) ⟨hx, hb, hml, hown, hts⟩ hK (c_X8_addStation l D cy β X1_2 1 0 hE.ok) (cwV 2 hts (kIn kv_addStation) rfl rfl rfl (by decide +kernel) ⟨Nat.le_of_ble_eq_true rfl, Nat.le_of_ble_eq_true rfl⟩) (TR.mk0 hR) rfl hR rfl hl.1 rfl (Nat.le_of_ble_eq_true rfl) dL_built_24 (Nat.le_of_ble_eq_true rfl) (Nat.le_of_ble_eq_true rfl)) hS TA_CA (fun H locs hR hz9 hfr hS => ?_)
  replace hzl := Nat.le_trans hzl hz9
  obtain ⟨a9, T1_3, hE, hk⟩ := eH_addStation hE hk
  rw [a9]
  generalize (p_X8_addStation X1_2 1 0).2 = X1_3 at hR hE
  clear hfr hz9 a9
  refine lv_iadd hx hb dL_built_27 ?_
  rw [show (1 + 0 : Int32) = 1 from by decide]
  refine lv_aload_n hx hb dL_built_28 rfl (lv_at hl 0 rfl) ?_
  refine lv_iconst (v := 1) hx hb dL_built_29 (by decide) ?_
  refine lv_iconst (v := 2) hx hb dL_built_30 (by decide) ?_
  refine gm_ci (gm_call (As := [.int 1, .int 2]) (rest := [.int 1]) (ci := 8) (q := (RX8, TX8, 8)) ⟨hx, hb, hml, hown, hts⟩ hK (c_X8_addStation l D cy β X1_3 1 2 hE.ok) (cwV 2 hts (kIn kv_addStation) rfl rfl rfl (by decide +kernel) ⟨Nat.le_of_ble_eq_true rfl, Nat.le_of_ble_eq_true rfl⟩) (TR.mk0 hR) rfl hR rfl hl.1 rfl (Nat.le_of_ble_eq_true rfl) dL_built_31 (Nat.le_of_ble_eq_true rfl) (Nat.le_of_ble_eq_true rfl)) hS TA_CA (fun H locs hR hz9 hfr hS => ?_)
  replace hzl := Nat.le_trans hzl hz9
  obtain ⟨a9, T1_4, hE, hk⟩ := eH_addStation hE hk
  rw [a9]
  generalize (p_X8_addStation X1_3 1 2).2 = X1_4 at hR hE
  clear hfr hz9 a9
  refine lv_iadd hx hb dL_built_34 ?_
  rw [show (1 + 1 : Int32) = 2 from by decide]
  refine lv_istore_n (lv' := [(1, .int 2), (0, .ref β)]) hx hb dL_built_35 rfl hl (by decide) rfl (fun ls hl => ?_)
  refine lv_iload_n hx hb dL_built_36 rfl (lv_at hl 0 rfl) ?_
  refine lv_iconst (v := 2) hx hb dL_built_37 (by decide) ?_
  refine lv_icmp_ne (tgt := 45) hx hb dL_built_38 (by decide) (fun c => absurd c (by decide)) (fun _ => ?_)
  refine lv_aload_n hx hb dL_built_41 rfl (lv_at hl 1 rfl) ?_
  refine lv_goto (tgt := 52) hx hb dL_built_42 (by decide) ?_
  exact gm_aret (o := some β) hx hb hr hlocks hS rfl ⟨X1_4, T1_4, hR, hzl, hE, hk⟩ dL_built_52
