/-! refused, walked -/
set_option maxHeartbeats 8000000 in
set_option maxRecDepth 100000 in
theorem c_L_refused (l : Launch) (D : va_G) (cy : Nat → ClassId) (β : Nat) (X U : gM) (hE : Ev X U) (hk : refB U = true) : Met l yL_refused wsK_refused ({ frames := 7, cells := 0, slots := 0, locals := 164 }) (gP [.ref β] D cy (TR D cy β X)) (gQi 1 (fun H => ∃ X9, TR D cy β X9 H ∧ Sm X X9) (TA β)) 0 0 (TA β) := by
  refine gm_met (cc := cL_refused) (maxL := 8) (ret := (some .boolean)) [.ref β] (by decide) rfl (Nat.le_of_ble_eq_true rfl) ?_
  intro p e s m args below meth c0 ls C hR hl
  have C2 := C
  obtain ⟨hx, hb, hr, hts, hown, hlocks, hml, hK⟩ := C
  have hl : lv_has ls 8 [(0, .ref β)] := hl
  have hS : va_S (TA β) s.heap s.heap [] := va_S.rf
  have hI := hE.iv
  unfold refB at hk
  rw [Bool.and_eq_true, decide_eq_true_eq] at hk
  obtain ⟨hK0, hk⟩ := hk
  obtain ⟨n1, en1⟩ : ∃ v, f_X8_count U 1 = v := ⟨_, rfl⟩
  obtain ⟨m0, em0⟩ : ∃ v, f_X8_line U 0 4 = v := ⟨_, rfl⟩
  obtain ⟨s0, es0⟩ : ∃ v, f_X8_line U 0 0 = v := ⟨_, rfl⟩
  obtain ⟨n17, en17⟩ : ∃ v, f_X8_count U 17 = v := ⟨_, rfl⟩
  obtain ⟨c15, ec15⟩ : ∃ v, f_X8_count U 15 = v := ⟨_, rfl⟩
  obtain ⟨c16, ec16⟩ : ∃ v, f_X8_count U 16 = v := ⟨_, rfl⟩
  obtain ⟨h3, eh3⟩ : ∃ v, f_X8_line U 0 3 = v := ⟨_, rfl⟩
  rw [en1, em0, es0, en17, ec15, ec16, eh3] at hk
  unfold refC at hk
  simp only [Bool.and_eq_true] at hk
  obtain ⟨⟨⟨⟨⟨⟨⟨⟨⟨⟨⟨⟨⟨⟨hk0a, hk0b⟩, hk0c⟩, hk0d⟩, hk0e⟩, hk0f⟩, hk0g⟩, hk1a⟩, hk1b⟩, hk1c⟩, hk1d⟩, hk1e⟩, hk1f⟩, hk1g⟩, hkz⟩ := hk
  refine lv_aload_n hx hb dL_refused_0 rfl (lv_at hl 0 rfl) ?_
  refine gm_cl (gm_callS (As := [.ref β]) (rest := []) ⟨hx, hb, hml, hown, hts⟩ hK (c_L_state l D cy β X hE.iv) (va_cwS 1 hts (kIn ks_state) rfl rfl rfl (by decide +kernel) ⟨Nat.le_of_ble_eq_true rfl, Nat.le_of_ble_eq_true rfl⟩) hR rfl hl.1 rfl (Nat.le_of_ble_eq_true rfl) dL_refused_1 (Nat.zero_le _) (Nat.zero_le _)) hS (fun _ h => h.elim) (fun H locs _ _ hfr hS => ?_)
  have hR := gRep.keep hR hfr (fun _ _ h => h)
  clear hfr
  refine lv_aload_n hx hb dL_refused_4 rfl (lv_at hl 0 rfl) ?_
  refine lv_bipush (v := 19) hx hb dL_refused_5 (by decide) ?_
  refine gm_ci (gm_call (As := [.int 19]) (rest := [.long (f_L_state X)]) (ci := 8) (q := (RX8, TX8, 8)) ⟨hx, hb, hml, hown, hts⟩ hK (c_X8_count l D cy β X 19 ) (cwV 1 hts (kIn kv_count) rfl rfl rfl (by decide +kernel) ⟨Nat.le_of_ble_eq_true rfl, Nat.le_of_ble_eq_true rfl⟩) (TR.mk0 hR) rfl hR rfl hl.1 rfl (Nat.le_of_ble_eq_true rfl) dL_refused_7 (Nat.zero_le _) (Nat.zero_le _)) hS (fun _ h => h.elim) (fun H locs _ _ hfr hS => ?_)
  have hR := gRep.keep hR hfr (fun _ _ h => h)
  clear hfr
  refine lv_i2l (v := Int32.toInt64 (f_X8_count X 19)) hx hb dL_refused_10 rfl ?_
  refine gm_cl (gm_callS (As := [.long (f_L_state X), .long (Int32.toInt64 (f_X8_count X 19))]) (rest := []) ⟨hx, hb, hml, hown, hts⟩ hK (c_L_mixed l D cy (f_L_state X) (Int32.toInt64 (f_X8_count X 19))) (va_cwS 2 hts (kIn ks_mixed) rfl rfl rfl (by decide +kernel) ⟨Nat.le_of_ble_eq_true rfl, Nat.le_of_ble_eq_true rfl⟩) trivial rfl hl.1 rfl (Nat.le_of_ble_eq_true rfl) dL_refused_11 (Nat.zero_le _) (Nat.zero_le _)) hS (fun _ h => h.elim) (fun H locs _ _ hfr hS => ?_)
  have hR := gRep.keep hR hfr (fun _ _ h => h)
  clear hfr
  refine lv_aload_n hx hb dL_refused_14 rfl (lv_at hl 0 rfl) ?_
  refine lv_bipush (v := 20) hx hb dL_refused_15 (by decide) ?_
  refine gm_ci (gm_call (As := [.int 20]) (rest := [.long (f_L_mixed (f_L_state X) (Int32.toInt64 (f_X8_count X 19)))]) (ci := 8) (q := (RX8, TX8, 8)) ⟨hx, hb, hml, hown, hts⟩ hK (c_X8_count l D cy β X 20 ) (cwV 1 hts (kIn kv_count) rfl rfl rfl (by decide +kernel) ⟨Nat.le_of_ble_eq_true rfl, Nat.le_of_ble_eq_true rfl⟩) (TR.mk0 hR) rfl hR rfl hl.1 rfl (Nat.le_of_ble_eq_true rfl) dL_refused_17 (Nat.zero_le _) (Nat.zero_le _)) hS (fun _ h => h.elim) (fun H locs _ _ hfr hS => ?_)
  have hR := gRep.keep hR hfr (fun _ _ h => h)
  clear hfr
  refine lv_i2l (v := Int32.toInt64 (f_X8_count X 20)) hx hb dL_refused_20 rfl ?_
  refine gm_cl (gm_callS (As := [.long (f_L_mixed (f_L_state X) (Int32.toInt64 (f_X8_count X 19))), .long (Int32.toInt64 (f_X8_count X 20))]) (rest := []) ⟨hx, hb, hml, hown, hts⟩ hK (c_L_mixed l D cy (f_L_mixed (f_L_state X) (Int32.toInt64 (f_X8_count X 19))) (Int32.toInt64 (f_X8_count X 20))) (va_cwS 2 hts (kIn ks_mixed) rfl rfl rfl (by decide +kernel) ⟨Nat.le_of_ble_eq_true rfl, Nat.le_of_ble_eq_true rfl⟩) trivial rfl hl.1 rfl (Nat.le_of_ble_eq_true rfl) dL_refused_21 (Nat.zero_le _) (Nat.zero_le _)) hS (fun _ h => h.elim) (fun H locs _ _ hfr hS => ?_)
  have hR := gRep.keep hR hfr (fun _ _ h => h)
  clear hfr
  refine lv_lstore_n (lv' := [(1, .long (f_L_mixed (f_L_mixed (f_L_state X) (Int32.toInt64 (f_X8_count X 19))) (Int32.toInt64 (f_X8_count X 20)))), (0, .ref β)]) hx hb dL_refused_24 rfl hl (by decide) rfl (fun ls hl => ?_)
  refine lv_iconst (v := 0) hx hb dL_refused_25 (by decide) ?_
  refine lv_istore_n (lv' := [(3, .int 0), (1, .long (f_L_mixed (f_L_mixed (f_L_state X) (Int32.toInt64 (f_X8_count X 19))) (Int32.toInt64 (f_X8_count X 20)))), (0, .ref β)]) hx hb dL_refused_26 rfl hl (by decide) rfl (fun ls hl => ?_)
  obtain ⟨w0, hw⟩ : ∃ v, v = rfW X := ⟨_, rfl⟩
  have hl : lv_has ls 8 [(3, .int 0), (1, .long (f_L_mixed (f_L_mixed (f_L_state X) (Int32.toInt64 (f_X8_count X 19))) (Int32.toInt64 (f_X8_count X 20)))), (0, .ref β)] := hl
  rw [show f_L_mixed (f_L_mixed (f_L_state X) (Int32.toInt64 (f_X8_count X 19))) (Int32.toInt64 (f_X8_count X 20)) = w0 from hw.symm] at hl
  have hm : Sm X X := Sm.rf
  refine rp_0a C2 β w0 (hm.ev hE) hK0 en1 em0 es0 en17 ec15 ec16 eh3 hk0a hR hS (lv_sub hl [2, 1, 0] rfl) (fun X1 H locs ls g9 hR hS hl => ?_)
  replace hm := hm.tr g9
  clear g9
  refine rp_0b C2 β w0 (hm.ev hE) hK0 en1 em0 es0 en17 ec15 ec16 eh3 hk0b hR hS (lv_sub hl [0, 1, 2, 3, 4, 5] rfl) (fun X2 H locs ls g9 hR hS hl => ?_)
  replace hm := hm.tr g9
  clear g9
  refine rp_0c C2 β w0 (hm.ev hE) hK0 en1 em0 es0 en17 ec15 ec16 eh3 hk0c hR hS (lv_sub hl [0, 1, 2, 3, 4, 5] rfl) (fun X3 H locs ls g9 hR hS hl => ?_)
  replace hm := hm.tr g9
  clear g9
  refine rp_0d C2 β w0 (hm.ev hE) hK0 en1 em0 es0 en17 ec15 ec16 eh3 hk0d hR hS (lv_sub hl [0, 1, 2, 3, 4, 5] rfl) (fun X4 H locs ls g9 hR hS hl => ?_)
  replace hm := hm.tr g9
  clear g9
  refine rp_0e C2 β w0 (hm.ev hE) hK0 en1 em0 es0 en17 ec15 ec16 eh3 hk0e hR hS (lv_sub hl [0, 1, 2, 3, 4, 5, 6] rfl) (fun X5 H locs ls g9 hR hS hl => ?_)
  replace hm := hm.tr g9
  clear g9
  refine rp_0f C2 β w0 (hm.ev hE) hK0 en1 em0 es0 en17 ec15 ec16 eh3 hk0f hR hS (lv_sub hl [0, 1, 2, 3, 4, 5, 6] rfl) (fun X6 H locs ls g9 hR hS hl => ?_)
  replace hm := hm.tr g9
  clear g9
  refine rp_0g C2 β w0 (hm.ev hE) hK0 en1 em0 es0 en17 ec15 ec16 eh3 hk0g hR hS (lv_sub hl [0, 1, 2, 3, 4, 5, 6] rfl) (fun X7 H locs ls g9 hR hS hl => ?_)
  replace hm := hm.tr g9
  clear g9
  refine lv_iinc (v := 1) (lv' := [(3, .int 1), (0, .ref β), (1, .long w0), (4, .int 2), (5, .int n1), (6, .int m0), (7, .int n17)]) hx hb dL_refused_814 hl (k := 2) rfl (by decide) (by decide) rfl (fun ls hl => ?_)
  refine lv_goto (tgt := 27) hx hb dL_refused_817 (by decide) ?_
  refine rp_1a C2 β w0 (hm.ev hE) hK0 en1 em0 es0 en17 ec15 ec16 eh3 hk1a hR hS (lv_sub hl [1, 2, 0] rfl) (fun X8 H locs ls g9 hR hS hl => ?_)
  replace hm := hm.tr g9
  clear g9
  refine rp_1b C2 β w0 (hm.ev hE) hK0 en1 em0 es0 en17 ec15 ec16 eh3 hk1b hR hS (lv_sub hl [0, 1, 2, 3, 4, 5] rfl) (fun X9 H locs ls g9 hR hS hl => ?_)
  replace hm := hm.tr g9
  clear g9
  refine rp_1c C2 β w0 (hm.ev hE) hK0 en1 em0 es0 en17 ec15 ec16 eh3 hk1c hR hS (lv_sub hl [0, 1, 2, 3, 4, 5] rfl) (fun X10 H locs ls g9 hR hS hl => ?_)
  replace hm := hm.tr g9
  clear g9
  refine rp_1d C2 β w0 (hm.ev hE) hK0 en1 em0 es0 en17 ec15 ec16 eh3 hk1d hR hS (lv_sub hl [0, 1, 2, 3, 4, 5] rfl) (fun X11 H locs ls g9 hR hS hl => ?_)
  replace hm := hm.tr g9
  clear g9
  refine rp_1e C2 β w0 (hm.ev hE) hK0 en1 em0 es0 en17 ec15 ec16 eh3 hk1e hR hS (lv_sub hl [0, 1, 2, 3, 4, 5, 6] rfl) (fun X12 H locs ls g9 hR hS hl => ?_)
  replace hm := hm.tr g9
  clear g9
  refine rp_1f C2 β w0 (hm.ev hE) hK0 en1 em0 es0 en17 ec15 ec16 eh3 hk1f hR hS (lv_sub hl [0, 1, 2, 3, 4, 5, 6] rfl) (fun X13 H locs ls g9 hR hS hl => ?_)
  replace hm := hm.tr g9
  clear g9
  refine rp_1g C2 β w0 (hm.ev hE) hK0 en1 em0 es0 en17 ec15 ec16 eh3 hk1g hR hS (lv_sub hl [0, 1, 2, 3, 4, 5, 6] rfl) (fun X14 H locs ls g9 hR hS hl => ?_)
  replace hm := hm.tr g9
  clear g9
  refine lv_iinc (v := 2) (lv' := [(3, .int 2), (0, .ref β), (1, .long w0), (4, .int (-1)), (5, .int (-1)), (6, .int (-1)), (7, .int (-1))]) hx hb dL_refused_814 hl (k := 2) rfl (by decide) (by decide) rfl (fun ls hl => ?_)
  refine lv_goto (tgt := 27) hx hb dL_refused_817 (by decide) ?_
  refine lv_iload_n hx hb dL_refused_27 rfl (lv_at hl 0 rfl) ?_
  refine lv_iconst (v := 2) hx hb dL_refused_28 (by decide) ?_
  refine lv_icmp_ge (tgt := 820) hx hb dL_refused_29 (by decide) (fun _ => ?_) (fun c => absurd c (by decide))
  have hk := hkz
  unfold refS_z at hk
  replace hE := hm.ev hE
  refine lv_aload_n hx hb dL_refused_820 rfl (lv_at hl 1 rfl) ?_
  refine lv_aload_n hx hb dL_refused_821 rfl (lv_at hl 1 rfl) ?_
  refine lv_bipush (v := 15) hx hb dL_refused_822 (by decide) ?_
  refine gm_ci (gm_call (As := [.int 15]) (rest := [.ref β]) (ci := 8) (q := (RX8, TX8, 8)) ⟨hx, hb, hml, hown, hts⟩ hK (c_X8_count l D cy β X14 15 ) (cwV 1 hts (kIn kv_count) rfl rfl rfl (by decide +kernel) ⟨Nat.le_of_ble_eq_true rfl, Nat.le_of_ble_eq_true rfl⟩) (TR.mk0 hR) rfl hR rfl hl.1 rfl (Nat.le_of_ble_eq_true rfl) dL_refused_824 (Nat.zero_le _) (Nat.zero_le _)) hS (fun _ h => h.elim) (fun H locs _ _ hfr hS => ?_)
  have hR := gRep.keep hR hfr (fun _ _ h => h)
  rw [show f_X8_count X14 15 = c15 from ((sq_count 15).e hE).trans ec15]
  clear hfr
  refine gm_ci (gm_call (As := [.int c15]) (rest := []) (ci := 8) (q := (RX8, TX8, 8)) ⟨hx, hb, hml, hown, hts⟩ hK (c_X8_setFare l D cy β X14 c15 hE.ok) (cwV 1 hts (kIn kv_setFare) rfl rfl rfl (by decide +kernel) ⟨Nat.le_of_ble_eq_true rfl, Nat.le_of_ble_eq_true rfl⟩) (TR.mk0 hR) rfl hR rfl hl.1 rfl (Nat.le_of_ble_eq_true rfl) dL_refused_827 (Nat.zero_le _) (Nat.zero_le _)) hS (fun _ h => h) (fun H locs hR _ _ hS => ?_)
  obtain ⟨a9, g9, hk⟩ := r_setFare hE hK0 (by decide) hk
  rw [a9]
  replace hE := g9.ev hE
  replace hm := hm.tr g9
  generalize (p_X8_setFare X14 c15).2 = X21 at hR hE hm
  clear a9 g9
  refine lv_bipush (v := (-5)) hx hb dL_refused_830 (by decide) ?_
  refine lv_icmp_ne (tgt := 902) hx hb dL_refused_832 (by decide) (fun c => absurd c (by decide)) (fun _ => ?_)
  refine lv_aload_n hx hb dL_refused_835 rfl (lv_at hl 1 rfl) ?_
  refine lv_aload_n hx hb dL_refused_836 rfl (lv_at hl 1 rfl) ?_
  refine lv_bipush (v := 16) hx hb dL_refused_837 (by decide) ?_
  refine gm_ci (gm_call (As := [.int 16]) (rest := [.ref β]) (ci := 8) (q := (RX8, TX8, 8)) ⟨hx, hb, hml, hown, hts⟩ hK (c_X8_count l D cy β X21 16 ) (cwV 1 hts (kIn kv_count) rfl rfl rfl (by decide +kernel) ⟨Nat.le_of_ble_eq_true rfl, Nat.le_of_ble_eq_true rfl⟩) (TR.mk0 hR) rfl hR rfl hl.1 rfl (Nat.le_of_ble_eq_true rfl) dL_refused_839 (Nat.zero_le _) (Nat.zero_le _)) hS (fun _ h => h.elim) (fun H locs _ _ hfr hS => ?_)
  have hR := gRep.keep hR hfr (fun _ _ h => h)
  rw [show f_X8_count X21 16 = c16 from ((sq_count 16).e hE).trans ec16]
  clear hfr
  refine gm_ci (gm_call (As := [.int c16]) (rest := []) (ci := 8) (q := (RX8, TX8, 8)) ⟨hx, hb, hml, hown, hts⟩ hK (c_X8_setPatience l D cy β X21 c16 hE.ok) (cwV 1 hts (kIn kv_setPatience) rfl rfl rfl (by decide +kernel) ⟨Nat.le_of_ble_eq_true rfl, Nat.le_of_ble_eq_true rfl⟩) (TR.mk0 hR) rfl hR rfl hl.1 rfl (Nat.le_of_ble_eq_true rfl) dL_refused_842 (Nat.zero_le _) (Nat.zero_le _)) hS (fun _ h => h) (fun H locs hR _ _ hS => ?_)
  obtain ⟨a9, g9, hk⟩ := r_setPatience hE hK0 (by decide) hk
  rw [a9]
  replace hE := g9.ev hE
  replace hm := hm.tr g9
  generalize (p_X8_setPatience X21 c16).2 = X22 at hR hE hm
  clear a9 g9
  refine lv_bipush (v := (-5)) hx hb dL_refused_845 (by decide) ?_
  refine lv_icmp_ne (tgt := 902) hx hb dL_refused_847 (by decide) (fun c => absurd c (by decide)) (fun _ => ?_)
  refine lv_aload_n hx hb dL_refused_850 rfl (lv_at hl 1 rfl) ?_
  refine lv_iconst (v := 0) hx hb dL_refused_851 (by decide) ?_
  refine lv_aload_n hx hb dL_refused_852 rfl (lv_at hl 1 rfl) ?_
  refine lv_iconst (v := 0) hx hb dL_refused_853 (by decide) ?_
  refine lv_iconst (v := 3) hx hb dL_refused_854 (by decide) ?_
  refine gm_ci (gm_call (As := [.int 0, .int 3]) (rest := [.int 0, .ref β]) (ci := 8) (q := (RX8, TX8, 8)) ⟨hx, hb, hml, hown, hts⟩ hK (c_X8_line l D cy β X22 0 3 ) (cwV 2 hts (kIn kv_line) rfl rfl rfl (by decide +kernel) ⟨Nat.le_of_ble_eq_true rfl, Nat.le_of_ble_eq_true rfl⟩) (TR.mk0 hR) rfl hR rfl hl.1 rfl (Nat.le_of_ble_eq_true rfl) dL_refused_855 (Nat.zero_le _) (Nat.zero_le _)) hS (fun _ h => h.elim) (fun H locs _ _ hfr hS => ?_)
  have hR := gRep.keep hR hfr (fun _ _ h => h)
  rw [show f_X8_line X22 0 3 = h3 from ((sq_line 0 3).e hE).trans eh3]
  clear hfr
  refine lv_bipush (v := 100) hx hb dL_refused_858 (by decide) ?_
  refine lv_isub hx hb dL_refused_860 ?_
  refine gm_ci (gm_call (As := [.int 0, .int (h3 - 100)]) (rest := []) (ci := 8) (q := (RX8, TX8, 8)) ⟨hx, hb, hml, hown, hts⟩ hK (c_X8_setHeat l D cy β X22 0 ((h3 - 100)) hE.ok) (cwV 2 hts (kIn kv_setHeat) rfl rfl rfl (by decide +kernel) ⟨Nat.le_of_ble_eq_true rfl, Nat.le_of_ble_eq_true rfl⟩) (TR.mk0 hR) rfl hR rfl hl.1 rfl (Nat.le_of_ble_eq_true rfl) dL_refused_861 (Nat.zero_le _) (Nat.zero_le _)) hS (fun _ h => h) (fun H locs hR _ _ hS => ?_)
  obtain ⟨a9, g9, hk⟩ := r_setHeat hE hK0 (by decide) hk
  rw [a9]
  replace hE := g9.ev hE
  replace hm := hm.tr g9
  generalize (p_X8_setHeat X22 0 ((h3 - 100))).2 = X23 at hR hE hm
  clear a9 g9
  refine lv_bipush (v := (-5)) hx hb dL_refused_864 (by decide) ?_
  refine lv_icmp_ne (tgt := 902) hx hb dL_refused_866 (by decide) (fun c => absurd c (by decide)) (fun _ => ?_)
  refine lv_aload_n hx hb dL_refused_869 rfl (lv_at hl 1 rfl) ?_
  refine gm_cl (gm_callS (As := [.ref β]) (rest := []) ⟨hx, hb, hml, hown, hts⟩ hK (c_L_state l D cy β X23 hE.iv) (va_cwS 1 hts (kIn ks_state) rfl rfl rfl (by decide +kernel) ⟨Nat.le_of_ble_eq_true rfl, Nat.le_of_ble_eq_true rfl⟩) hR rfl hl.1 rfl (Nat.le_of_ble_eq_true rfl) dL_refused_870 (Nat.zero_le _) (Nat.zero_le _)) hS (fun _ h => h.elim) (fun H locs _ _ hfr hS => ?_)
  have hR := gRep.keep hR hfr (fun _ _ h => h)
  clear hfr
  refine lv_aload_n hx hb dL_refused_873 rfl (lv_at hl 1 rfl) ?_
  refine lv_bipush (v := 19) hx hb dL_refused_874 (by decide) ?_
  refine gm_ci (gm_call (As := [.int 19]) (rest := [.long (f_L_state X23)]) (ci := 8) (q := (RX8, TX8, 8)) ⟨hx, hb, hml, hown, hts⟩ hK (c_X8_count l D cy β X23 19 ) (cwV 1 hts (kIn kv_count) rfl rfl rfl (by decide +kernel) ⟨Nat.le_of_ble_eq_true rfl, Nat.le_of_ble_eq_true rfl⟩) (TR.mk0 hR) rfl hR rfl hl.1 rfl (Nat.le_of_ble_eq_true rfl) dL_refused_876 (Nat.zero_le _) (Nat.zero_le _)) hS (fun _ h => h.elim) (fun H locs _ _ hfr hS => ?_)
  have hR := gRep.keep hR hfr (fun _ _ h => h)
  clear hfr
  refine lv_i2l (v := Int32.toInt64 (f_X8_count X23 19)) hx hb dL_refused_879 rfl ?_
  refine gm_cl (gm_callS (As := [.long (f_L_state X23), .long (Int32.toInt64 (f_X8_count X23 19))]) (rest := []) ⟨hx, hb, hml, hown, hts⟩ hK (c_L_mixed l D cy (f_L_state X23) (Int32.toInt64 (f_X8_count X23 19))) (va_cwS 2 hts (kIn ks_mixed) rfl rfl rfl (by decide +kernel) ⟨Nat.le_of_ble_eq_true rfl, Nat.le_of_ble_eq_true rfl⟩) trivial rfl hl.1 rfl (Nat.le_of_ble_eq_true rfl) dL_refused_880 (Nat.zero_le _) (Nat.zero_le _)) hS (fun _ h => h.elim) (fun H locs _ _ hfr hS => ?_)
  have hR := gRep.keep hR hfr (fun _ _ h => h)
  clear hfr
  refine lv_aload_n hx hb dL_refused_883 rfl (lv_at hl 1 rfl) ?_
  refine lv_bipush (v := 20) hx hb dL_refused_884 (by decide) ?_
  refine gm_ci (gm_call (As := [.int 20]) (rest := [.long (f_L_mixed (f_L_state X23) (Int32.toInt64 (f_X8_count X23 19)))]) (ci := 8) (q := (RX8, TX8, 8)) ⟨hx, hb, hml, hown, hts⟩ hK (c_X8_count l D cy β X23 20 ) (cwV 1 hts (kIn kv_count) rfl rfl rfl (by decide +kernel) ⟨Nat.le_of_ble_eq_true rfl, Nat.le_of_ble_eq_true rfl⟩) (TR.mk0 hR) rfl hR rfl hl.1 rfl (Nat.le_of_ble_eq_true rfl) dL_refused_886 (Nat.zero_le _) (Nat.zero_le _)) hS (fun _ h => h.elim) (fun H locs _ _ hfr hS => ?_)
  have hR := gRep.keep hR hfr (fun _ _ h => h)
  clear hfr
  refine lv_i2l (v := Int32.toInt64 (f_X8_count X23 20)) hx hb dL_refused_889 rfl ?_
  refine gm_cl (gm_callS (As := [.long (f_L_mixed (f_L_state X23) (Int32.toInt64 (f_X8_count X23 19))), .long (Int32.toInt64 (f_X8_count X23 20))]) (rest := []) ⟨hx, hb, hml, hown, hts⟩ hK (c_L_mixed l D cy (f_L_mixed (f_L_state X23) (Int32.toInt64 (f_X8_count X23 19))) (Int32.toInt64 (f_X8_count X23 20))) (va_cwS 2 hts (kIn ks_mixed) rfl rfl rfl (by decide +kernel) ⟨Nat.le_of_ble_eq_true rfl, Nat.le_of_ble_eq_true rfl⟩) trivial rfl hl.1 rfl (Nat.le_of_ble_eq_true rfl) dL_refused_890 (Nat.zero_le _) (Nat.zero_le _)) hS (fun _ h => h.elim) (fun H locs _ _ hfr hS => ?_)
  have hR := gRep.keep hR hfr (fun _ _ h => h)
  clear hfr
  refine lv_lload_n hx hb dL_refused_893 rfl (lv_at hl 2 rfl) ?_
  refine W.lcmp hx hb dL_refused_894 ?_
  rw [show f_L_mixed (f_L_mixed (f_L_state X23) (Int32.toInt64 (f_X8_count X23 19))) (Int32.toInt64 (f_X8_count X23 20)) = w0 from (rw_same hm hI).trans hw.symm, lg_cmp_s]
  refine lv_if_ne (tgt := 902) hx hb dL_refused_895 (by decide) (fun c => absurd c (by decide)) (fun _ => ?_)
  refine lv_iconst (v := 1) hx hb dL_refused_898 (by decide) ?_
  refine lv_goto (tgt := 903) hx hb dL_refused_899 (by decide) ?_
  exact gm_zret hx hb hr hlocks rfl hS rfl ⟨_, hR, hm⟩ dL_refused_903
