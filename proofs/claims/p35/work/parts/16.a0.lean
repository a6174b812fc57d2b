/-! refused, walked -/
set_option maxHeartbeats 8000000 in
set_option maxRecDepth 100000 in
theorem rp_0a {p : Program} {l : Launch} {e : Env} {s : State} {m : MethodId} {args : Array Value} {below : List Frame} {meth : Method} {c0 : Code} {D : va_G} {cy : Nat → ClassId} (C : gCtx cL_refused 8 (some .boolean) RL wsK_refused D cy p s m args meth c0) (β : Nat) {X U : gM} (w0 : Int64) {n1 m0 s0 n17 c15 c16 h3 : Int32} {Q : State → Prop} {H : Heap} {locs : List Loc} {ls : Array Slot} (hE : Ev X U) (hK0 : Kv (vw 0 U)) (en1 : f_X8_count U 1 = n1) (em0 : f_X8_line U 0 4 = m0) (es0 : f_X8_line U 0 0 = s0) (en17 : f_X8_count U 17 = n17) (ec15 : f_X8_count U 15 = c15) (ec16 : f_X8_count U 16 = c16) (eh3 : f_X8_line U 0 3 = h3) (hk : refS_0a U n1 m0 s0 n17 c15 c16 h3 = true) (hR : TR D cy β X H) (hS : va_S (TA β) s.heap H locs) (hl : lv_has ls 8 [(0, .ref β), (1, .long w0), (3, .int 0)])
    (kk : ∀ (X9 : gM) (H : Heap) (locs : List Loc) (ls : Array Slot), Sm X X9 → TR D cy β X9 H → va_S (TA β) s.heap H locs → lv_has ls 8 [(0, .ref β), (1, .long w0), (3, .int 0), (4, .int 2), (5, .int n1), (6, .int m0)] → W p l e { frames := 7, cells := 0, slots := 0, locals := 164 } s m args below meth c0 H locs 0 0 Q (F0 m 143 ls [])) : W p l e { frames := 7, cells := 0, slots := 0, locals := 164 } s m args below meth c0 H locs 0 0 Q (F0 m 27 ls []) := by
  obtain ⟨hx, hb, hr, hts, hown, hlocks, hml, hK⟩ := C
  unfold refS_0a at hk
  have hm : Sm X X := Sm.rf
  refine lv_iload_n hx hb dL_refused_27 rfl (lv_at hl 2 rfl) ?_
  refine lv_iconst (v := 2) hx hb dL_refused_28 (by decide) ?_
  refine lv_icmp_ge (tgt := 820) hx hb dL_refused_29 (by decide) (fun c => absurd c (by decide)) (fun _ => ?_)
  refine lv_iload_n hx hb dL_refused_32 rfl (lv_at hl 2 rfl) ?_
  refine lv_if_ne (tgt := 40) hx hb dL_refused_33 (by decide) (fun c => absurd c (by decide)) (fun _ => ?_)
  refine lv_iconst (v := 2) hx hb dL_refused_36 (by decide) ?_
  refine lv_goto (tgt := 41) hx hb dL_refused_37 (by decide) ?_
  refine lv_istore (lv' := [(4, .int 2), (0, .ref β), (1, .long w0), (3, .int 0)]) hx hb dL_refused_41 hl (by decide) rfl (fun ls hl => ?_)
  refine lv_iload_n hx hb dL_refused_43 rfl (lv_at hl 3 rfl) ?_
  refine lv_if_ne (tgt := 55) hx hb dL_refused_44 (by decide) (fun c => absurd c (by decide)) (fun _ => ?_)
  refine lv_aload_n hx hb dL_refused_47 rfl (lv_at hl 1 rfl) ?_
  refine lv_iconst (v := 1) hx hb dL_refused_48 (by decide) ?_
  refine gm_ci (gm_call (As := [.int 1]) (rest := []) (ci := 8) (q := (RX8, TX8, 8)) ⟨hx, hb, hml, hown, hts⟩ hK (c_X8_count l D cy β X 1 ) (cwV 1 hts (kIn kv_count) rfl rfl rfl (by decide +kernel) ⟨Nat.le_of_ble_eq_true rfl, Nat.le_of_ble_eq_true rfl⟩) (TR.mk0 hR) rfl hR rfl hl.1 rfl (Nat.le_of_ble_eq_true rfl) dL_refused_49 (Nat.zero_le _) (Nat.zero_le _)) hS (fun _ h => h.elim) (fun H locs _ _ hfr hS => ?_)
  have hR := gRep.keep hR hfr (fun _ _ h => h)
  rw [show f_X8_count X 1 = n1 from ((sq_count 1).e hE).trans en1]
  clear hfr
  refine lv_goto (tgt := 56) hx hb dL_refused_52 (by decide) ?_
  refine lv_istore (lv' := [(5, .int n1), (4, .int 2), (0, .ref β), (1, .long w0), (3, .int 0)]) hx hb dL_refused_56 hl (by decide) rfl (fun ls hl => ?_)
  refine lv_iload_n hx hb dL_refused_58 rfl (lv_at hl 4 rfl) ?_
  refine lv_if_ne (tgt := 71) hx hb dL_refused_59 (by decide) (fun c => absurd c (by decide)) (fun _ => ?_)
  refine lv_aload_n hx hb dL_refused_62 rfl (lv_at hl 2 rfl) ?_
  refine lv_iconst (v := 0) hx hb dL_refused_63 (by decide) ?_
  refine lv_iconst (v := 4) hx hb dL_refused_64 (by decide) ?_
  refine gm_ci (gm_call (As := [.int 0, .int 4]) (rest := []) (ci := 8) (q := (RX8, TX8, 8)) ⟨hx, hb, hml, hown, hts⟩ hK (c_X8_line l D cy β X 0 4 ) (cwV 2 hts (kIn kv_line) rfl rfl rfl (by decide +kernel) ⟨Nat.le_of_ble_eq_true rfl, Nat.le_of_ble_eq_true rfl⟩) (TR.mk0 hR) rfl hR rfl hl.1 rfl (Nat.le_of_ble_eq_true rfl) dL_refused_65 (Nat.zero_le _) (Nat.zero_le _)) hS (fun _ h => h.elim) (fun H locs _ _ hfr hS => ?_)
  have hR := gRep.keep hR hfr (fun _ _ h => h)
  rw [show f_X8_line X 0 4 = m0 from ((sq_line 0 4).e hE).trans em0]
  clear hfr
  refine lv_goto (tgt := 72) hx hb dL_refused_68 (by decide) ?_
  refine lv_istore (lv' := [(6, .int m0), (5, .int n1), (4, .int 2), (0, .ref β), (1, .long w0), (3, .int 0)]) hx hb dL_refused_72 hl (by decide) rfl (fun ls hl => ?_)
  refine lv_aload_n hx hb dL_refused_74 rfl (lv_at hl 3 rfl) ?_
  refine lv_iload hx hb dL_refused_75 (lv_at hl 2 rfl) ?_
  refine lv_iconst (v := 1) hx hb dL_refused_77 (by decide) ?_
  refine gm_ci (gm_call (As := [.int 2, .int 1]) (rest := []) (ci := 8) (q := (RX8, TX8, 8)) ⟨hx, hb, hml, hown, hts⟩ hK (c_X8_build l D cy β X 2 1 hE.ok) (cwV 2 hts (kIn kv_build) rfl rfl rfl (by decide +kernel) ⟨Nat.le_of_ble_eq_true rfl, Nat.le_of_ble_eq_true rfl⟩) (TR.mk0 hR) rfl hR rfl hl.1 rfl (Nat.le_of_ble_eq_true rfl) dL_refused_78 (Nat.zero_le _) (Nat.zero_le _)) hS (fun _ h => h) (fun H locs hR _ _ hS => ?_)
  obtain ⟨a9, g9, hk⟩ := r_build hE hK0 (by decide) hk
  rw [a9]
  replace hE := g9.ev hE
  replace hm := hm.tr g9
  generalize (p_X8_build X 2 1).2 = X1 at hR hE hm
  clear a9 g9
  refine lv_iconst (v := (-1)) hx hb dL_refused_81 (by decide) ?_
  refine lv_icmp_ne (tgt := 141) hx hb dL_refused_82 (by decide) (fun c => absurd c (by decide)) (fun _ => ?_)
  refine lv_aload_n hx hb dL_refused_85 rfl (lv_at hl 3 rfl) ?_
  refine lv_iload hx hb dL_refused_86 (lv_at hl 2 rfl) ?_
  refine lv_iconst (v := (-1)) hx hb dL_refused_88 (by decide) ?_
  refine gm_ci (gm_call (As := [.int 2, .int (-1)]) (rest := []) (ci := 8) (q := (RX8, TX8, 8)) ⟨hx, hb, hml, hown, hts⟩ hK (c_X8_addStation l D cy β X1 2 (-1) hE.ok) (cwV 2 hts (kIn kv_addStation) rfl rfl rfl (by decide +kernel) ⟨Nat.le_of_ble_eq_true rfl, Nat.le_of_ble_eq_true rfl⟩) (TR.mk0 hR) rfl hR rfl hl.1 rfl (Nat.le_of_ble_eq_true rfl) dL_refused_89 (Nat.zero_le _) (Nat.zero_le _)) hS (fun _ h => h) (fun H locs hR _ _ hS => ?_)
  obtain ⟨a9, g9, hk⟩ := r_addStation hE hK0 (by decide) hk
  rw [a9]
  replace hE := g9.ev hE
  replace hm := hm.tr g9
  generalize (p_X8_addStation X1 2 (-1)).2 = X2 at hR hE hm
  clear a9 g9
  refine lv_iconst (v := (-1)) hx hb dL_refused_92 (by decide) ?_
  refine lv_icmp_ne (tgt := 141) hx hb dL_refused_93 (by decide) (fun c => absurd c (by decide)) (fun _ => ?_)
  refine lv_aload_n hx hb dL_refused_96 rfl (lv_at hl 3 rfl) ?_
  refine lv_iload hx hb dL_refused_97 (lv_at hl 2 rfl) ?_
  refine lv_bipush (v := 11) hx hb dL_refused_99 (by decide) ?_
  refine gm_ci (gm_call (As := [.int 2, .int 11]) (rest := []) (ci := 8) (q := (RX8, TX8, 8)) ⟨hx, hb, hml, hown, hts⟩ hK (c_X8_setHeat l D cy β X2 2 11 hE.ok) (cwV 2 hts (kIn kv_setHeat) rfl rfl rfl (by decide +kernel) ⟨Nat.le_of_ble_eq_true rfl, Nat.le_of_ble_eq_true rfl⟩) (TR.mk0 hR) rfl hR rfl hl.1 rfl (Nat.le_of_ble_eq_true rfl) dL_refused_101 (Nat.zero_le _) (Nat.zero_le _)) hS (fun _ h => h) (fun H locs hR _ _ hS => ?_)
  obtain ⟨a9, g9, hk⟩ := r_setHeat hE hK0 (by decide) hk
  rw [a9]
  replace hE := g9.ev hE
  replace hm := hm.tr g9
  generalize (p_X8_setHeat X2 2 11).2 = X3 at hR hE hm
  clear a9 g9
  refine lv_iconst (v := (-1)) hx hb dL_refused_104 (by decide) ?_
  refine lv_icmp_ne (tgt := 141) hx hb dL_refused_105 (by decide) (fun c => absurd c (by decide)) (fun _ => ?_)
  refine lv_aload_n hx hb dL_refused_108 rfl (lv_at hl 3 rfl) ?_
  refine lv_iload hx hb dL_refused_109 (lv_at hl 2 rfl) ?_
  refine gm_ci (gm_call (As := [.int 2]) (rest := []) (ci := 8) (q := (RX8, TX8, 8)) ⟨hx, hb, hml, hown, hts⟩ hK (c_X8_drain l D cy β X3 2 hE.ok) (cwV 1 hts (kIn kv_drain) rfl rfl rfl (by decide +kernel) ⟨Nat.le_of_ble_eq_true rfl, Nat.le_of_ble_eq_true rfl⟩) (TR.mk0 hR) rfl hR rfl hl.1 rfl (Nat.le_of_ble_eq_true rfl) dL_refused_111 (Nat.zero_le _) (Nat.zero_le _)) hS (fun _ h => h) (fun H locs hR _ _ hS => ?_)
  obtain ⟨a9, g9, hk⟩ := r_drain hE hK0 (by decide) hk
  rw [a9]
  replace hE := g9.ev hE
  replace hm := hm.tr g9
  generalize (p_X8_drain X3 2).2 = X4 at hR hE hm
  clear a9 g9
  refine lv_iconst (v := (-1)) hx hb dL_refused_114 (by decide) ?_
  refine lv_icmp_ne (tgt := 141) hx hb dL_refused_115 (by decide) (fun c => absurd c (by decide)) (fun _ => ?_)
  refine lv_aload_n hx hb dL_refused_118 rfl (lv_at hl 3 rfl) ?_
  refine lv_iload hx hb dL_refused_119 (lv_at hl 2 rfl) ?_
  refine lv_bipush (v := 9) hx hb dL_refused_121 (by decide) ?_
  refine gm_ci (gm_call (As := [.int 2, .int 9]) (rest := []) (ci := 8) (q := (RX8, TX8, 8)) ⟨hx, hb, hml, hown, hts⟩ hK (c_X8_line l D cy β X4 2 9 ) (cwV 2 hts (kIn kv_line) rfl rfl rfl (by decide +kernel) ⟨Nat.le_of_ble_eq_true rfl, Nat.le_of_ble_eq_true rfl⟩) (TR.mk0 hR) rfl hR rfl hl.1 rfl (Nat.le_of_ble_eq_true rfl) dL_refused_123 (Nat.zero_le _) (Nat.zero_le _)) hS (fun _ h => h.elim) (fun H locs _ _ hfr hS => ?_)
  have hR := gRep.keep hR hfr (fun _ _ h => h)
  obtain ⟨a9, hk⟩ := e_line hE hk
  rw [a9]
  clear hfr a9
  refine lv_iconst (v := (-1)) hx hb dL_refused_126 (by decide) ?_
  refine lv_icmp_ne (tgt := 141) hx hb dL_refused_127 (by decide) (fun c => absurd c (by decide)) (fun _ => ?_)
  refine lv_aload_n hx hb dL_refused_130 rfl (lv_at hl 3 rfl) ?_
  refine lv_iload hx hb dL_refused_131 (lv_at hl 2 rfl) ?_
  refine lv_iconst (v := (-1)) hx hb dL_refused_133 (by decide) ?_
  refine gm_ci (gm_call (As := [.int 2, .int (-1)]) (rest := []) (ci := 8) (q := (RX8, TX8, 8)) ⟨hx, hb, hml, hown, hts⟩ hK (c_X8_slot l D cy β X4 2 (-1) ) (cwV 2 hts (kIn kv_slot) rfl rfl rfl (by decide +kernel) ⟨Nat.le_of_ble_eq_true rfl, Nat.le_of_ble_eq_true rfl⟩) (TR.mk0 hR) rfl hR rfl hl.1 rfl (Nat.le_of_ble_eq_true rfl) dL_refused_134 (Nat.zero_le _) (Nat.zero_le _)) hS (fun _ h => h.elim) (fun H locs _ _ hfr hS => ?_)
  have hR := gRep.keep hR hfr (fun _ _ h => h)
  obtain ⟨a9, hk⟩ := e_slot hE hk
  rw [a9]
  clear hfr a9
  refine lv_iconst (v := (-1)) hx hb dL_refused_137 (by decide) ?_
  refine lv_icmp_eq (tgt := 143) hx hb dL_refused_138 (by decide) (fun _ => ?_) (fun c => absurd c (by decide))
  exact kk _ _ _ _ hm hR hS (lv_sub hl [3, 4, 5, 2, 1, 0] rfl)
set_option maxHeartbeats 8000000 in
set_option maxRecDepth 100000 in
theorem rp_0b {p : Program} {l : Launch} {e : Env} {s : State} {m : MethodId} {args : Array Value} {below : List Frame} {meth : Method} {c0 : Code} {D : va_G} {cy : Nat → ClassId} (C : gCtx cL_refused 8 (some .boolean) RL wsK_refused D cy p s m args meth c0) (β : Nat) {X U : gM} (w0 : Int64) {n1 m0 s0 n17 c15 c16 h3 : Int32} {Q : State → Prop} {H : Heap} {locs : List Loc} {ls : Array Slot} (hE : Ev X U) (hK0 : Kv (vw 0 U)) (en1 : f_X8_count U 1 = n1) (em0 : f_X8_line U 0 4 = m0) (es0 : f_X8_line U 0 0 = s0) (en17 : f_X8_count U 17 = n17) (ec15 : f_X8_count U 15 = c15) (ec16 : f_X8_count U 16 = c16) (eh3 : f_X8_line U 0 3 = h3) (hk : refS_0b U n1 m0 s0 n17 c15 c16 h3 = true) (hR : TR D cy β X H) (hS : va_S (TA β) s.heap H locs) (hl : lv_has ls 8 [(0, .ref β), (1, .long w0), (3, .int 0), (4, .int 2), (5, .int n1), (6, .int m0)])
    (kk : ∀ (X9 : gM) (H : Heap) (locs : List Loc) (ls : Array Slot), Sm X X9 → TR D cy β X9 H → va_S (TA β) s.heap H locs → lv_has ls 8 [(0, .ref β), (1, .long w0), (3, .int 0), (4, .int 2), (5, .int n1), (6, .int m0)] → W p l e { frames := 7, cells := 0, slots := 0, locals := 164 } s m args below meth c0 H locs 0 0 Q (F0 m 326 ls [])) : W p l e { frames := 7, cells := 0, slots := 0, locals := 164 } s m args below meth c0 H locs 0 0 Q (F0 m 143 ls []) := by
  obtain ⟨hx, hb, hr, hts, hown, hlocks, hml, hK⟩ := C
  unfold refS_0b at hk
  have hm : Sm X X := Sm.rf
  refine lv_aload_n hx hb dL_refused_143 rfl (lv_at hl 0 rfl) ?_
  refine lv_iconst (v := 0) hx hb dL_refused_144 (by decide) ?_
  refine lv_bipush (v := 25) hx hb dL_refused_145 (by decide) ?_
  refine lv_bipush (v := 24) hx hb dL_refused_147 (by decide) ?_
  refine lv_iload_n hx hb dL_refused_149 rfl (lv_at hl 2 rfl) ?_
  refine lv_imul hx hb dL_refused_150 ?_
  rw [show (24 * 0 : Int32) = 0 from by decide]
  refine lv_isub hx hb dL_refused_151 ?_
  rw [show (25 - 0 : Int32) = 25 from by decide]
  refine gm_ci (gm_call (As := [.int 0, .int 25]) (rest := []) (ci := 8) (q := (RX8, TX8, 8)) ⟨hx, hb, hml, hown, hts⟩ hK (c_X8_build l D cy β X 0 25 hE.ok) (cwV 2 hts (kIn kv_build) rfl rfl rfl (by decide +kernel) ⟨Nat.le_of_ble_eq_true rfl, Nat.le_of_ble_eq_true rfl⟩) (TR.mk0 hR) rfl hR rfl hl.1 rfl (Nat.le_of_ble_eq_true rfl) dL_refused_152 (Nat.zero_le _) (Nat.zero_le _)) hS (fun _ h => h) (fun H locs hR _ _ hS => ?_)
  obtain ⟨a9, g9, hk⟩ := r_build hE hK0 (by decide) hk
  rw [a9]
  replace hE := g9.ev hE
  replace hm := hm.tr g9
  generalize (p_X8_build X 0 25).2 = X1 at hR hE hm
  clear a9 g9
  refine lv_bipush (v := (-2)) hx hb dL_refused_155 (by decide) ?_
  refine lv_icmp_ne (tgt := 242) hx hb dL_refused_157 (by decide) (fun c => absurd c (by decide)) (fun _ => ?_)
  refine lv_aload_n hx hb dL_refused_160 rfl (lv_at hl 0 rfl) ?_
  refine lv_iconst (v := 0) hx hb dL_refused_161 (by decide) ?_
  refine lv_iload_n hx hb dL_refused_162 rfl (lv_at hl 2 rfl) ?_
  refine lv_if_ne (tgt := 175) hx hb dL_refused_163 (by decide) (fun c => absurd c (by decide)) (fun _ => ?_)
  refine lv_aload_n hx hb dL_refused_166 rfl (lv_at hl 0 rfl) ?_
  refine lv_iconst (v := 0) hx hb dL_refused_167 (by decide) ?_
  refine lv_iconst (v := 0) hx hb dL_refused_168 (by decide) ?_
  refine gm_ci (gm_call (As := [.int 0, .int 0]) (rest := [.int 0, .ref β]) (ci := 8) (q := (RX8, TX8, 8)) ⟨hx, hb, hml, hown, hts⟩ hK (c_X8_line l D cy β X1 0 0 ) (cwV 2 hts (kIn kv_line) rfl rfl rfl (by decide +kernel) ⟨Nat.le_of_ble_eq_true rfl, Nat.le_of_ble_eq_true rfl⟩) (TR.mk0 hR) rfl hR rfl hl.1 rfl (Nat.le_of_ble_eq_true rfl) dL_refused_169 (Nat.zero_le _) (Nat.zero_le _)) hS (fun _ h => h.elim) (fun H locs _ _ hfr hS => ?_)
  have hR := gRep.keep hR hfr (fun _ _ h => h)
  rw [show f_X8_line X1 0 0 = s0 from ((sq_line 0 0).e hE).trans es0]
  clear hfr
  refine lv_goto (tgt := 176) hx hb dL_refused_172 (by decide) ?_
  refine gm_ci (gm_call (As := [.int 0, .int s0]) (rest := []) (ci := 8) (q := (RX8, TX8, 8)) ⟨hx, hb, hml, hown, hts⟩ hK (c_X8_addStation l D cy β X1 0 s0 hE.ok) (cwV 2 hts (kIn kv_addStation) rfl rfl rfl (by decide +kernel) ⟨Nat.le_of_ble_eq_true rfl, Nat.le_of_ble_eq_true rfl⟩) (TR.mk0 hR) rfl hR rfl hl.1 rfl (Nat.le_of_ble_eq_true rfl) dL_refused_176 (Nat.zero_le _) (Nat.zero_le _)) hS (fun _ h => h) (fun H locs hR _ _ hS => ?_)
  obtain ⟨a9, g9, hk⟩ := r_addStation hE hK0 (by decide) hk
  rw [a9]
  replace hE := g9.ev hE
  replace hm := hm.tr g9
  generalize (p_X8_addStation X1 0 s0).2 = X2 at hR hE hm
  clear a9 g9
  refine lv_bipush (v := (-2)) hx hb dL_refused_179 (by decide) ?_
  refine lv_icmp_ne (tgt := 242) hx hb dL_refused_181 (by decide) (fun c => absurd c (by decide)) (fun _ => ?_)
  refine lv_aload_n hx hb dL_refused_184 rfl (lv_at hl 0 rfl) ?_
  refine lv_iconst (v := 1) hx hb dL_refused_185 (by decide) ?_
  refine lv_bipush (v := 11) hx hb dL_refused_186 (by decide) ?_
  refine lv_bipush (v := 22) hx hb dL_refused_188 (by decide) ?_
  refine lv_iload_n hx hb dL_refused_190 rfl (lv_at hl 2 rfl) ?_
  refine lv_imul hx hb dL_refused_191 ?_
  rw [show (22 * 0 : Int32) = 0 from by decide]
  refine lv_isub hx hb dL_refused_192 ?_
  rw [show (11 - 0 : Int32) = 11 from by decide]
  refine gm_ci (gm_call (As := [.int 1, .int 11]) (rest := []) (ci := 8) (q := (RX8, TX8, 8)) ⟨hx, hb, hml, hown, hts⟩ hK (c_X8_setHeat l D cy β X2 1 11 hE.ok) (cwV 2 hts (kIn kv_setHeat) rfl rfl rfl (by decide +kernel) ⟨Nat.le_of_ble_eq_true rfl, Nat.le_of_ble_eq_true rfl⟩) (TR.mk0 hR) rfl hR rfl hl.1 rfl (Nat.le_of_ble_eq_true rfl) dL_refused_193 (Nat.zero_le _) (Nat.zero_le _)) hS (fun _ h => h) (fun H locs hR _ _ hS => ?_)
  obtain ⟨a9, g9, hk⟩ := r_setHeat hE hK0 (by decide) hk
  rw [a9]
  replace hE := g9.ev hE
  replace hm := hm.tr g9
  generalize (p_X8_setHeat X2 1 11).2 = X3 at hR hE hm
  clear a9 g9
  refine lv_bipush (v := (-2)) hx hb dL_refused_196 (by decide) ?_
  refine lv_icmp_ne (tgt := 242) hx hb dL_refused_198 (by decide) (fun c => absurd c (by decide)) (fun _ => ?_)
  refine lv_aload_n hx hb dL_refused_201 rfl (lv_at hl 0 rfl) ?_
  refine lv_iconst (v := 0) hx hb dL_refused_202 (by decide) ?_
  refine lv_bipush (v := 9) hx hb dL_refused_203 (by decide) ?_
  refine lv_bipush (v := 10) hx hb dL_refused_205 (by decide) ?_
  refine lv_iload_n hx hb dL_refused_207 rfl (lv_at hl 2 rfl) ?_
  refine lv_imul hx hb dL_refused_208 ?_
  rw [show (10 * 0 : Int32) = 0 from by decide]
  refine lv_isub hx hb dL_refused_209 ?_
  rw [show (9 - 0 : Int32) = 9 from by decide]
  refine gm_ci (gm_call (As := [.int 0, .int 9]) (rest := []) (ci := 8) (q := (RX8, TX8, 8)) ⟨hx, hb, hml, hown, hts⟩ hK (c_X8_line l D cy β X3 0 9 ) (cwV 2 hts (kIn kv_line) rfl rfl rfl (by decide +kernel) ⟨Nat.le_of_ble_eq_true rfl, Nat.le_of_ble_eq_true rfl⟩) (TR.mk0 hR) rfl hR rfl hl.1 rfl (Nat.le_of_ble_eq_true rfl) dL_refused_210 (Nat.zero_le _) (Nat.zero_le _)) hS (fun _ h => h.elim) (fun H locs _ _ hfr hS => ?_)
  have hR := gRep.keep hR hfr (fun _ _ h => h)
  obtain ⟨a9, hk⟩ := e_line hE hk
  rw [a9]
  clear hfr a9
  refine lv_bipush (v := (-2)) hx hb dL_refused_213 (by decide) ?_
  refine lv_icmp_ne (tgt := 242) hx hb dL_refused_215 (by decide) (fun c => absurd c (by decide)) (fun _ => ?_)
  refine lv_aload_n hx hb dL_refused_218 rfl (lv_at hl 0 rfl) ?_
  refine lv_iconst (v := 0) hx hb dL_refused_219 (by decide) ?_
  refine lv_iload_n hx hb dL_refused_220 rfl (lv_at hl 2 rfl) ?_
  refine lv_if_ne (tgt := 233) hx hb dL_refused_221 (by decide) (fun c => absurd c (by decide)) (fun _ => ?_)
  refine lv_aload_n hx hb dL_refused_224 rfl (lv_at hl 0 rfl) ?_
  refine lv_iconst (v := 0) hx hb dL_refused_225 (by decide) ?_
  refine lv_iconst (v := 0) hx hb dL_refused_226 (by decide) ?_
  refine gm_ci (gm_call (As := [.int 0, .int 0]) (rest := [.int 0, .ref β]) (ci := 8) (q := (RX8, TX8, 8)) ⟨hx, hb, hml, hown, hts⟩ hK (c_X8_line l D cy β X3 0 0 ) (cwV 2 hts (kIn kv_line) rfl rfl rfl (by decide +kernel) ⟨Nat.le_of_ble_eq_true rfl, Nat.le_of_ble_eq_true rfl⟩) (TR.mk0 hR) rfl hR rfl hl.1 rfl (Nat.le_of_ble_eq_true rfl) dL_refused_227 (Nat.zero_le _) (Nat.zero_le _)) hS (fun _ h => h.elim) (fun H locs _ _ hfr hS => ?_)
  have hR := gRep.keep hR hfr (fun _ _ h => h)
  rw [show f_X8_line X3 0 0 = s0 from ((sq_line 0 0).e hE).trans es0]
  clear hfr
  refine lv_goto (tgt := 234) hx hb dL_refused_230 (by decide) ?_
  refine gm_ci (gm_call (As := [.int 0, .int s0]) (rest := []) (ci := 8) (q := (RX8, TX8, 8)) ⟨hx, hb, hml, hown, hts⟩ hK (c_X8_slot l D cy β X3 0 s0 ) (cwV 2 hts (kIn kv_slot) rfl rfl rfl (by decide +kernel) ⟨Nat.le_of_ble_eq_true rfl, Nat.le_of_ble_eq_true rfl⟩) (TR.mk0 hR) rfl hR rfl hl.1 rfl (Nat.le_of_ble_eq_true rfl) dL_refused_234 (Nat.zero_le _) (Nat.zero_le _)) hS (fun _ h => h.elim) (fun H locs _ _ hfr hS => ?_)
  have hR := gRep.keep hR hfr (fun _ _ h => h)
  obtain ⟨a9, hk⟩ := e_slot hE hk
  rw [a9]
  clear hfr a9
  refine lv_bipush (v := (-2)) hx hb dL_refused_237 (by decide) ?_
  refine lv_icmp_eq (tgt := 244) hx hb dL_refused_239 (by decide) (fun _ => ?_) (fun c => absurd c (by decide))
  refine lv_aload_n hx hb dL_refused_244 rfl (lv_at hl 0 rfl) ?_
  refine lv_bipush (v := 100) hx hb dL_refused_245 (by decide) ?_
  refine lv_bipush (v := 100) hx hb dL_refused_247 (by decide) ?_
  refine lv_iload_n hx hb dL_refused_249 rfl (lv_at hl 2 rfl) ?_
  refine lv_imul hx hb dL_refused_250 ?_
  rw [show (100 * 0 : Int32) = 0 from by decide]
  refine lv_isub hx hb dL_refused_251 ?_
  rw [show (100 - 0 : Int32) = 100 from by decide]
  refine gm_ci (gm_call (As := [.int 100]) (rest := []) (ci := 8) (q := (RX8, TX8, 8)) ⟨hx, hb, hml, hown, hts⟩ hK (c_X8_setFare l D cy β X3 100 hE.ok) (cwV 1 hts (kIn kv_setFare) rfl rfl rfl (by decide +kernel) ⟨Nat.le_of_ble_eq_true rfl, Nat.le_of_ble_eq_true rfl⟩) (TR.mk0 hR) rfl hR rfl hl.1 rfl (Nat.le_of_ble_eq_true rfl) dL_refused_252 (Nat.zero_le _) (Nat.zero_le _)) hS (fun _ h => h) (fun H locs hR _ _ hS => ?_)
  obtain ⟨a9, g9, hk⟩ := r_setFare hE hK0 (by decide) hk
  rw [a9]
  replace hE := g9.ev hE
  replace hm := hm.tr g9
  generalize (p_X8_setFare X3 100).2 = X4 at hR hE hm
  clear a9 g9
  refine lv_bipush (v := (-2)) hx hb dL_refused_255 (by decide) ?_
  refine lv_icmp_ne (tgt := 324) hx hb dL_refused_257 (by decide) (fun c => absurd c (by decide)) (fun _ => ?_)
  refine lv_aload_n hx hb dL_refused_260 rfl (lv_at hl 0 rfl) ?_
  refine lv_bipush (v := 51) hx hb dL_refused_261 (by decide) ?_
  refine lv_bipush (v := 52) hx hb dL_refused_263 (by decide) ?_
  refine lv_iload_n hx hb dL_refused_265 rfl (lv_at hl 2 rfl) ?_
  refine lv_imul hx hb dL_refused_266 ?_
  rw [show (52 * 0 : Int32) = 0 from by decide]
  refine lv_isub hx hb dL_refused_267 ?_
  rw [show (51 - 0 : Int32) = 51 from by decide]
  refine gm_ci (gm_call (As := [.int 51]) (rest := []) (ci := 8) (q := (RX8, TX8, 8)) ⟨hx, hb, hml, hown, hts⟩ hK (c_X8_setPatience l D cy β X4 51 hE.ok) (cwV 1 hts (kIn kv_setPatience) rfl rfl rfl (by decide +kernel) ⟨Nat.le_of_ble_eq_true rfl, Nat.le_of_ble_eq_true rfl⟩) (TR.mk0 hR) rfl hR rfl hl.1 rfl (Nat.le_of_ble_eq_true rfl) dL_refused_268 (Nat.zero_le _) (Nat.zero_le _)) hS (fun _ h => h) (fun H locs hR _ _ hS => ?_)
  obtain ⟨a9, g9, hk⟩ := r_setPatience hE hK0 (by decide) hk
  rw [a9]
  replace hE := g9.ev hE
  replace hm := hm.tr g9
  generalize (p_X8_setPatience X4 51).2 = X5 at hR hE hm
  clear a9 g9
  refine lv_bipush (v := (-2)) hx hb dL_refused_271 (by decide) ?_
  refine lv_icmp_ne (tgt := 324) hx hb dL_refused_273 (by decide) (fun c => absurd c (by decide)) (fun _ => ?_)
  refine lv_aload_n hx hb dL_refused_276 rfl (lv_at hl 0 rfl) ?_
  refine lv_bipush (v := 61) hx hb dL_refused_277 (by decide) ?_
  refine lv_bipush (v := 61) hx hb dL_refused_279 (by decide) ?_
  refine lv_iload_n hx hb dL_refused_281 rfl (lv_at hl 2 rfl) ?_
  refine lv_imul hx hb dL_refused_282 ?_
  rw [show (61 * 0 : Int32) = 0 from by decide]
  refine lv_isub hx hb dL_refused_283 ?_
  rw [show (61 - 0 : Int32) = 61 from by decide]
  refine gm_ci (gm_call (As := [.int 61]) (rest := []) (ci := 8) (q := (RX8, TX8, 8)) ⟨hx, hb, hml, hown, hts⟩ hK (c_X8_tick l D cy β X5 61 hE.ok) (cwV 1 hts (kIn kv_tick) rfl rfl rfl (by decide +kernel) ⟨Nat.le_of_ble_eq_true rfl, Nat.le_of_ble_eq_true rfl⟩) (TR.mk0 hR) rfl hR rfl hl.1 rfl (Nat.le_of_ble_eq_true rfl) dL_refused_284 (Nat.zero_le _) (Nat.zero_le _)) hS (fun _ h => h) (fun H locs hR _ _ hS => ?_)
  obtain ⟨a9, g9, hk⟩ := r_tick hE hK0 (by decide) hk
  rw [a9]
  replace hE := g9.ev hE
  replace hm := hm.tr g9
  generalize (p_X8_tick X5 61).2 = X6 at hR hE hm
  clear a9 g9
  refine lv_bipush (v := (-2)) hx hb dL_refused_287 (by decide) ?_
  refine lv_icmp_ne (tgt := 324) hx hb dL_refused_289 (by decide) (fun c => absurd c (by decide)) (fun _ => ?_)
  refine lv_aload_n hx hb dL_refused_292 rfl (lv_at hl 0 rfl) ?_
  refine lv_iconst (v := 4) hx hb dL_refused_293 (by decide) ?_
  refine lv_iconst (v := 4) hx hb dL_refused_294 (by decide) ?_
  refine lv_iload_n hx hb dL_refused_295 rfl (lv_at hl 2 rfl) ?_
  refine lv_imul hx hb dL_refused_296 ?_
  rw [show (4 * 0 : Int32) = 0 from by decide]
  refine lv_isub hx hb dL_refused_297 ?_
  rw [show (4 - 0 : Int32) = 4 from by decide]
  refine lv_iconst (v := 1) hx hb dL_refused_298 (by decide) ?_
  refine gm_ci (gm_call (As := [.int 4, .int 1]) (rest := []) (ci := 8) (q := (RX8, TX8, 8)) ⟨hx, hb, hml, hown, hts⟩ hK (c_X8_price l D cy β X6 4 1 ) (cwV 2 hts (kIn kv_price) rfl rfl rfl (by decide +kernel) ⟨Nat.le_of_ble_eq_true rfl, Nat.le_of_ble_eq_true rfl⟩) (TR.mk0 hR) rfl hR rfl hl.1 rfl (Nat.le_of_ble_eq_true rfl) dL_refused_299 (Nat.zero_le _) (Nat.zero_le _)) hS (fun _ h => h.elim) (fun H locs _ _ hfr hS => ?_)
  have hR := gRep.keep hR hfr (fun _ _ h => h)
  obtain ⟨a9, hk⟩ := e_price hE hk
  rw [a9]
  clear hfr a9
  refine lv_bipush (v := (-2)) hx hb dL_refused_302 (by decide) ?_
  refine lv_icmp_ne (tgt := 324) hx hb dL_refused_304 (by decide) (fun c => absurd c (by decide)) (fun _ => ?_)
  refine lv_aload_n hx hb dL_refused_307 rfl (lv_at hl 0 rfl) ?_
  refine lv_iconst (v := 1) hx hb dL_refused_308 (by decide) ?_
  refine lv_bipush (v := 10) hx hb dL_refused_309 (by decide) ?_
  refine lv_bipush (v := 10) hx hb dL_refused_311 (by decide) ?_
  refine lv_iload_n hx hb dL_refused_313 rfl (lv_at hl 2 rfl) ?_
  refine lv_imul hx hb dL_refused_314 ?_
  rw [show (10 * 0 : Int32) = 0 from by decide]
  refine lv_isub hx hb dL_refused_315 ?_
  rw [show (10 - 0 : Int32) = 10 from by decide]
  refine gm_ci (gm_call (As := [.int 1, .int 10]) (rest := []) (ci := 8) (q := (RX8, TX8, 8)) ⟨hx, hb, hml, hown, hts⟩ hK (c_X8_price l D cy β X6 1 10 ) (cwV 2 hts (kIn kv_price) rfl rfl rfl (by decide +kernel) ⟨Nat.le_of_ble_eq_true rfl, Nat.le_of_ble_eq_true rfl⟩) (TR.mk0 hR) rfl hR rfl hl.1 rfl (Nat.le_of_ble_eq_true rfl) dL_refused_316 (Nat.zero_le _) (Nat.zero_le _)) hS (fun _ h => h.elim) (fun H locs _ _ hfr hS => ?_)
  have hR := gRep.keep hR hfr (fun _ _ h => h)
  obtain ⟨a9, hk⟩ := e_price hE hk
  rw [a9]
  clear hfr a9
  refine lv_bipush (v := (-2)) hx hb dL_refused_319 (by decide) ?_
  refine lv_icmp_eq (tgt := 326) hx hb dL_refused_321 (by decide) (fun _ => ?_) (fun c => absurd c (by decide))
  exact kk _ _ _ _ hm hR hS (lv_sub hl [0, 1, 2, 3, 4, 5] rfl)
set_option maxHeartbeats 8000000 in
set_option maxRecDepth 100000 in
theorem rp_0c {p : Program} {l : Launch} {e : Env} {s : State} {m : MethodId} {args : Array Value} {below : List Frame} {meth : Method} {c0 : Code} {D : va_G} {cy : Nat → ClassId} (C : gCtx cL_refused 8 (some .boolean) RL wsK_refused D cy p s m args meth c0) (β : Nat) {X U : gM} (w0 : Int64) {n1 m0 s0 n17 c15 c16 h3 : Int32} {Q : State → Prop} {H : Heap} {locs : List Loc} {ls : Array Slot} (hE : Ev X U) (hK0 : Kv (vw 0 U)) (en1 : f_X8_count U 1 = n1) (em0 : f_X8_line U 0 4 = m0) (es0 : f_X8_line U 0 0 = s0) (en17 : f_X8_count U 17 = n17) (ec15 : f_X8_count U 15 = c15) (ec16 : f_X8_count U 16 = c16) (eh3 : f_X8_line U 0 3 = h3) (hk : refS_0c U n1 m0 s0 n17 c15 c16 h3 = true) (hR : TR D cy β X H) (hS : va_S (TA β) s.heap H locs) (hl : lv_has ls 8 [(0, .ref β), (1, .long w0), (3, .int 0), (4, .int 2), (5, .int n1), (6, .int m0)])
    (kk : ∀ (X9 : gM) (H : Heap) (locs : List Loc) (ls : Array Slot), Sm X X9 → TR D cy β X9 H → va_S (TA β) s.heap H locs → lv_has ls 8 [(0, .ref β), (1, .long w0), (3, .int 0), (4, .int 2), (5, .int n1), (6, .int m0)] → W p l e { frames := 7, cells := 0, slots := 0, locals := 164 } s m args below meth c0 H locs 0 0 Q (F0 m 469 ls [])) : W p l e { frames := 7, cells := 0, slots := 0, locals := 164 } s m args below meth c0 H locs 0 0 Q (F0 m 326 ls []) := by
  obtain ⟨hx, hb, hr, hts, hown, hlocks, hml, hK⟩ := C
  unfold refS_0c at hk
  have hm : Sm X X := Sm.rf
  refine lv_aload_n hx hb dL_refused_326 rfl (lv_at hl 0 rfl) ?_
  refine lv_iload hx hb dL_refused_327 (lv_at hl 5 rfl) ?_
  refine lv_iconst (v := (-1)) hx hb dL_refused_329 (by decide) ?_
  refine gm_ci (gm_call (As := [.int m0, .int (-1)]) (rest := []) (ci := 8) (q := (RX8, TX8, 8)) ⟨hx, hb, hml, hown, hts⟩ hK (c_X8_call l D cy β X m0 (-1) hE.ok) (cwV 2 hts (kIn kv_call) rfl rfl rfl (by decide +kernel) ⟨Nat.le_of_ble_eq_true rfl, Nat.le_of_ble_eq_true rfl⟩) (TR.mk0 hR) rfl hR rfl hl.1 rfl (Nat.le_of_ble_eq_true rfl) dL_refused_330 (Nat.zero_le _) (Nat.zero_le _)) hS (fun _ h => h) (fun H locs hR _ _ hS => ?_)
  obtain ⟨a9, g9, hk⟩ := r_call hE hK0 (by decide) hk
  rw [a9]
  replace hE := g9.ev hE
  replace hm := hm.tr g9
  generalize (p_X8_call X m0 (-1)).2 = X1 at hR hE hm
  clear a9 g9
  refine lv_iconst (v := (-1)) hx hb dL_refused_333 (by decide) ?_
  refine lv_icmp_ne (tgt := 394) hx hb dL_refused_334 (by decide) (fun c => absurd c (by decide)) (fun _ => ?_)
  refine lv_aload_n hx hb dL_refused_337 rfl (lv_at hl 0 rfl) ?_
  refine lv_iload hx hb dL_refused_338 (lv_at hl 5 rfl) ?_
  refine gm_ci (gm_call (As := [.int m0]) (rest := []) (ci := 8) (q := (RX8, TX8, 8)) ⟨hx, hb, hml, hown, hts⟩ hK (c_X8_callBack l D cy β X1 m0 hE.ok) (cwV 1 hts (kIn kv_callBack) rfl rfl rfl (by decide +kernel) ⟨Nat.le_of_ble_eq_true rfl, Nat.le_of_ble_eq_true rfl⟩) (TR.mk0 hR) rfl hR rfl hl.1 rfl (Nat.le_of_ble_eq_true rfl) dL_refused_340 (Nat.zero_le _) (Nat.zero_le _)) hS (fun _ h => h) (fun H locs hR _ _ hS => ?_)
  obtain ⟨a9, g9, hk⟩ := r_callBack hE hK0 (by decide) hk
  rw [a9]
  replace hE := g9.ev hE
  replace hm := hm.tr g9
  generalize (p_X8_callBack X1 m0).2 = X2 at hR hE hm
  clear a9 g9
  refine lv_iconst (v := (-1)) hx hb dL_refused_343 (by decide) ?_
  refine lv_icmp_ne (tgt := 394) hx hb dL_refused_344 (by decide) (fun c => absurd c (by decide)) (fun _ => ?_)
  refine lv_aload_n hx hb dL_refused_347 rfl (lv_at hl 0 rfl) ?_
  refine lv_iload hx hb dL_refused_348 (lv_at hl 5 rfl) ?_
  refine lv_bipush (v := 9) hx hb dL_refused_350 (by decide) ?_
  refine gm_ci (gm_call (As := [.int m0, .int 9]) (rest := []) (ci := 8) (q := (RX8, TX8, 8)) ⟨hx, hb, hml, hown, hts⟩ hK (c_X8_station l D cy β X2 m0 9 ) (cwV 2 hts (kIn kv_station) rfl rfl rfl (by decide +kernel) ⟨Nat.le_of_ble_eq_true rfl, Nat.le_of_ble_eq_true rfl⟩) (TR.mk0 hR) rfl hR rfl hl.1 rfl (Nat.le_of_ble_eq_true rfl) dL_refused_352 (Nat.zero_le _) (Nat.zero_le _)) hS (fun _ h => h.elim) (fun H locs _ _ hfr hS => ?_)
  have hR := gRep.keep hR hfr (fun _ _ h => h)
  obtain ⟨a9, hk⟩ := e_station hE hk
  rw [a9]
  clear hfr a9
  refine lv_iconst (v := (-1)) hx hb dL_refused_355 (by decide) ?_
  refine lv_icmp_ne (tgt := 394) hx hb dL_refused_356 (by decide) (fun c => absurd c (by decide)) (fun _ => ?_)
  refine lv_aload_n hx hb dL_refused_359 rfl (lv_at hl 0 rfl) ?_
  refine lv_iload hx hb dL_refused_360 (lv_at hl 5 rfl) ?_
  refine lv_iconst (v := (-1)) hx hb dL_refused_362 (by decide) ?_
  refine gm_ci (gm_call (As := [.int m0, .int (-1)]) (rest := []) (ci := 8) (q := (RX8, TX8, 8)) ⟨hx, hb, hml, hown, hts⟩ hK (c_X8_waiting l D cy β X2 m0 (-1) ) (cwV 2 hts (kIn kv_waiting) rfl rfl rfl (by decide +kernel) ⟨Nat.le_of_ble_eq_true rfl, Nat.le_of_ble_eq_true rfl⟩) (TR.mk0 hR) rfl hR rfl hl.1 rfl (Nat.le_of_ble_eq_true rfl) dL_refused_363 (Nat.zero_le _) (Nat.zero_le _)) hS (fun _ h => h.elim) (fun H locs _ _ hfr hS => ?_)
  have hR := gRep.keep hR hfr (fun _ _ h => h)
  obtain ⟨a9, hk⟩ := e_waiting hE hk
  rw [a9]
  clear hfr a9
  refine lv_iconst (v := (-1)) hx hb dL_refused_366 (by decide) ?_
  refine lv_icmp_ne (tgt := 394) hx hb dL_refused_367 (by decide) (fun c => absurd c (by decide)) (fun _ => ?_)
  refine lv_aload_n hx hb dL_refused_370 rfl (lv_at hl 0 rfl) ?_
  refine lv_iload hx hb dL_refused_371 (lv_at hl 5 rfl) ?_
  refine lv_iconst (v := (-1)) hx hb dL_refused_373 (by decide) ?_
  refine gm_ci (gm_call (As := [.int m0, .int (-1)]) (rest := []) (ci := 8) (q := (RX8, TX8, 8)) ⟨hx, hb, hml, hown, hts⟩ hK (c_X8_calls l D cy β X2 m0 (-1) ) (cwV 2 hts (kIn kv_calls) rfl rfl rfl (by decide +kernel) ⟨Nat.le_of_ble_eq_true rfl, Nat.le_of_ble_eq_true rfl⟩) (TR.mk0 hR) rfl hR rfl hl.1 rfl (Nat.le_of_ble_eq_true rfl) dL_refused_374 (Nat.zero_le _) (Nat.zero_le _)) hS (fun _ h => h.elim) (fun H locs _ _ hfr hS => ?_)
  have hR := gRep.keep hR hfr (fun _ _ h => h)
  obtain ⟨a9, hk⟩ := e_calls hE hk
  rw [a9]
  clear hfr a9
  refine lv_iconst (v := (-1)) hx hb dL_refused_377 (by decide) ?_
  refine lv_icmp_ne (tgt := 394) hx hb dL_refused_378 (by decide) (fun c => absurd c (by decide)) (fun _ => ?_)
  refine lv_aload_n hx hb dL_refused_381 rfl (lv_at hl 0 rfl) ?_
  refine lv_iload hx hb dL_refused_382 (lv_at hl 5 rfl) ?_
  refine lv_sipush (v := 301) hx hb dL_refused_384 (by decide) ?_
  refine gm_ci (gm_call (As := [.int m0, .int 301]) (rest := []) (ci := 8) (q := (RX8, TX8, 8)) ⟨hx, hb, hml, hown, hts⟩ hK (c_X8_slotIn l D cy β X2 m0 301 ) (cwV 2 hts (kIn kv_slotIn) rfl rfl rfl (by decide +kernel) ⟨Nat.le_of_ble_eq_true rfl, Nat.le_of_ble_eq_true rfl⟩) (TR.mk0 hR) rfl hR rfl hl.1 rfl (Nat.le_of_ble_eq_true rfl) dL_refused_387 (Nat.zero_le _) (Nat.zero_le _)) hS (fun _ h => h) (fun H locs hR _ _ hS => ?_)
  obtain ⟨a9, g9, hk⟩ := r_slotIn hE hk
  rw [a9]
  replace hE := g9.ev hE
  replace hm := hm.tr g9
  generalize (p_X8_slotIn X2 m0 301).2 = X3 at hR hE hm
  clear a9 g9
  refine lv_iconst (v := (-1)) hx hb dL_refused_390 (by decide) ?_
  refine lv_icmp_eq (tgt := 396) hx hb dL_refused_391 (by decide) (fun _ => ?_) (fun c => absurd c (by decide))
  refine lv_aload_n hx hb dL_refused_396 rfl (lv_at hl 0 rfl) ?_
  refine lv_iconst (v := (-1)) hx hb dL_refused_397 (by decide) ?_
  refine lv_iconst (v := 4) hx hb dL_refused_398 (by decide) ?_
  refine lv_iload hx hb dL_refused_399 (lv_at hl 5 rfl) ?_
  refine lv_iload hx hb dL_refused_401 (lv_at hl 5 rfl) ?_
  refine lv_iconst (v := 0) hx hb dL_refused_403 (by decide) ?_
  refine gm_ci (gm_call (As := [.int (-1), .int 4, .int m0, .int m0, .int 0]) (rest := []) (ci := 8) (q := (RX8, TX8, 8)) ⟨hx, hb, hml, hown, hts⟩ hK (c_X8_book l D cy β X3 (-1) 4 m0 m0 0 hE.ok) (cwV 5 hts (kIn kv_book) rfl rfl rfl (by decide +kernel) ⟨Nat.le_of_ble_eq_true rfl, Nat.le_of_ble_eq_true rfl⟩) (TR.mk0 hR) rfl hR rfl hl.1 rfl (Nat.le_of_ble_eq_true rfl) dL_refused_404 (Nat.zero_le _) (Nat.zero_le _)) hS (fun _ h => h) (fun H locs hR _ _ hS => ?_)
  obtain ⟨a9, g9, hk⟩ := r_book hE hK0 (by decide) hk
  rw [a9]
  replace hE := g9.ev hE
  replace hm := hm.tr g9
  generalize (p_X8_book X3 (-1) 4 m0 m0 0).2 = X4 at hR hE hm
  clear a9 g9
  refine lv_iconst (v := (-1)) hx hb dL_refused_407 (by decide) ?_
  refine lv_icmp_ne (tgt := 467) hx hb dL_refused_408 (by decide) (fun c => absurd c (by decide)) (fun _ => ?_)
  refine lv_aload_n hx hb dL_refused_411 rfl (lv_at hl 0 rfl) ?_
  refine lv_iload hx hb dL_refused_412 (lv_at hl 5 rfl) ?_
  refine lv_iload hx hb dL_refused_414 (lv_at hl 5 rfl) ?_
  refine gm_ci (gm_call (As := [.int m0, .int m0]) (rest := []) (ci := 8) (q := (RX8, TX8, 8)) ⟨hx, hb, hml, hown, hts⟩ hK (c_X8_lapsNeeded l D cy β X4 m0 m0 ) (cwV 2 hts (kIn kv_lapsNeeded) rfl rfl rfl (by decide +kernel) ⟨Nat.le_of_ble_eq_true rfl, Nat.le_of_ble_eq_true rfl⟩) (TR.mk0 hR) rfl hR rfl hl.1 rfl (Nat.le_of_ble_eq_true rfl) dL_refused_416 (Nat.zero_le _) (Nat.zero_le _)) hS (fun _ h => h) (fun H locs hR _ _ hS => ?_)
  obtain ⟨a9, g9, hk⟩ := r_lapsNeeded hE hk
  rw [a9]
  replace hE := g9.ev hE
  replace hm := hm.tr g9
  generalize (p_X8_lapsNeeded X4 m0 m0).2 = X5 at hR hE hm
  clear a9 g9
  refine lv_iconst (v := (-1)) hx hb dL_refused_419 (by decide) ?_
  refine lv_icmp_ne (tgt := 467) hx hb dL_refused_420 (by decide) (fun c => absurd c (by decide)) (fun _ => ?_)
  refine lv_aload_n hx hb dL_refused_423 rfl (lv_at hl 0 rfl) ?_
  refine lv_iload hx hb dL_refused_424 (lv_at hl 4 rfl) ?_
  refine gm_ci (gm_call (As := [.int n1]) (rest := []) (ci := 8) (q := (RX8, TX8, 8)) ⟨hx, hb, hml, hown, hts⟩ hK (c_X8_cancel l D cy β X5 n1 hE.ok) (cwV 1 hts (kIn kv_cancel) rfl rfl rfl (by decide +kernel) ⟨Nat.le_of_ble_eq_true rfl, Nat.le_of_ble_eq_true rfl⟩) (TR.mk0 hR) rfl hR rfl hl.1 rfl (Nat.le_of_ble_eq_true rfl) dL_refused_426 (Nat.zero_le _) (Nat.zero_le _)) hS (fun _ h => h) (fun H locs hR _ _ hS => ?_)
  obtain ⟨a9, g9, hk⟩ := r_cancel hE hK0 (by decide) hk
  rw [a9]
  replace hE := g9.ev hE
  replace hm := hm.tr g9
  generalize (p_X8_cancel X5 n1).2 = X6 at hR hE hm
  clear a9 g9
  refine lv_iconst (v := (-1)) hx hb dL_refused_429 (by decide) ?_
  refine lv_icmp_ne (tgt := 467) hx hb dL_refused_430 (by decide) (fun c => absurd c (by decide)) (fun _ => ?_)
  refine lv_aload_n hx hb dL_refused_433 rfl (lv_at hl 0 rfl) ?_
  refine lv_iload hx hb dL_refused_434 (lv_at hl 4 rfl) ?_
  refine lv_iconst (v := 0) hx hb dL_refused_436 (by decide) ?_
  refine gm_ci (gm_call (As := [.int n1, .int 0]) (rest := []) (ci := 8) (q := (RX8, TX8, 8)) ⟨hx, hb, hml, hown, hts⟩ hK (c_X8_order l D cy β X6 n1 0 hE.ok) (cwV 2 hts (kIn kv_order) rfl rfl rfl (by decide +kernel) ⟨Nat.le_of_ble_eq_true rfl, Nat.le_of_ble_eq_true rfl⟩) (TR.mk0 hR) rfl hR rfl hl.1 rfl (Nat.le_of_ble_eq_true rfl) dL_refused_437 (Nat.zero_le _) (Nat.zero_le _)) hS (fun _ h => h) (fun H locs hR _ _ hS => ?_)
  obtain ⟨a9, g9, hk⟩ := r_order hE hK0 (by decide) hk
  rw [a9]
  replace hE := g9.ev hE
  replace hm := hm.tr g9
  generalize (p_X8_order X6 n1 0).2 = X7 at hR hE hm
  clear a9 g9
  refine lv_iconst (v := (-1)) hx hb dL_refused_440 (by decide) ?_
  refine lv_icmp_ne (tgt := 467) hx hb dL_refused_441 (by decide) (fun c => absurd c (by decide)) (fun _ => ?_)
  refine lv_aload_n hx hb dL_refused_444 rfl (lv_at hl 0 rfl) ?_
  refine lv_iload hx hb dL_refused_445 (lv_at hl 4 rfl) ?_
  refine lv_bipush (v := 14) hx hb dL_refused_447 (by decide) ?_
  refine gm_ci (gm_call (As := [.int n1, .int 14]) (rest := []) (ci := 8) (q := (RX8, TX8, 8)) ⟨hx, hb, hml, hown, hts⟩ hK (c_X8_ticket l D cy β X7 n1 14 ) (cwV 2 hts (kIn kv_ticket) rfl rfl rfl (by decide +kernel) ⟨Nat.le_of_ble_eq_true rfl, Nat.le_of_ble_eq_true rfl⟩) (TR.mk0 hR) rfl hR rfl hl.1 rfl (Nat.le_of_ble_eq_true rfl) dL_refused_449 (Nat.zero_le _) (Nat.zero_le _)) hS (fun _ h => h.elim) (fun H locs _ _ hfr hS => ?_)
  have hR := gRep.keep hR hfr (fun _ _ h => h)
  obtain ⟨a9, hk⟩ := e_ticket hE hk
  rw [a9]
  clear hfr a9
  refine lv_iconst (v := (-1)) hx hb dL_refused_452 (by decide) ?_
  refine lv_icmp_ne (tgt := 467) hx hb dL_refused_453 (by decide) (fun c => absurd c (by decide)) (fun _ => ?_)
  refine lv_aload_n hx hb dL_refused_456 rfl (lv_at hl 0 rfl) ?_
  refine lv_iload hx hb dL_refused_457 (lv_at hl 4 rfl) ?_
  refine lv_iconst (v := 4) hx hb dL_refused_459 (by decide) ?_
  refine gm_ci (gm_call (As := [.int n1, .int 4]) (rest := []) (ci := 8) (q := (RX8, TX8, 8)) ⟨hx, hb, hml, hown, hts⟩ hK (c_X8_fate l D cy β X7 n1 4 ) (cwV 2 hts (kIn kv_fate) rfl rfl rfl (by decide +kernel) ⟨Nat.le_of_ble_eq_true rfl, Nat.le_of_ble_eq_true rfl⟩) (TR.mk0 hR) rfl hR rfl hl.1 rfl (Nat.le_of_ble_eq_true rfl) dL_refused_460 (Nat.zero_le _) (Nat.zero_le _)) hS (fun _ h => h) (fun H locs hR _ _ hS => ?_)
  obtain ⟨a9, g9, hk⟩ := r_fate hE hk
  rw [a9]
  replace hE := g9.ev hE
  replace hm := hm.tr g9
  generalize (p_X8_fate X7 n1 4).2 = X8 at hR hE hm
  clear a9 g9
  refine lv_iconst (v := (-1)) hx hb dL_refused_463 (by decide) ?_
  refine lv_icmp_eq (tgt := 469) hx hb dL_refused_464 (by decide) (fun _ => ?_) (fun c => absurd c (by decide))
  exact kk _ _ _ _ hm hR hS (lv_sub hl [0, 1, 2, 3, 4, 5] rfl)
set_option maxHeartbeats 8000000 in
set_option maxRecDepth 100000 in
theorem rp_0d {p : Program} {l : Launch} {e : Env} {s : State} {m : MethodId} {args : Array Value} {below : List Frame} {meth : Method} {c0 : Code} {D : va_G} {cy : Nat → ClassId} (C : gCtx cL_refused 8 (some .boolean) RL wsK_refused D cy p s m args meth c0) (β : Nat) {X U : gM} (w0 : Int64) {n1 m0 s0 n17 c15 c16 h3 : Int32} {Q : State → Prop} {H : Heap} {locs : List Loc} {ls : Array Slot} (hE : Ev X U) (hK0 : Kv (vw 0 U)) (en1 : f_X8_count U 1 = n1) (em0 : f_X8_line U 0 4 = m0) (es0 : f_X8_line U 0 0 = s0) (en17 : f_X8_count U 17 = n17) (ec15 : f_X8_count U 15 = c15) (ec16 : f_X8_count U 16 = c16) (eh3 : f_X8_line U 0 3 = h3) (hk : refS_0d U n1 m0 s0 n17 c15 c16 h3 = true) (hR : TR D cy β X H) (hS : va_S (TA β) s.heap H locs) (hl : lv_has ls 8 [(0, .ref β), (1, .long w0), (3, .int 0), (4, .int 2), (5, .int n1), (6, .int m0)])
    (kk : ∀ (X9 : gM) (H : Heap) (locs : List Loc) (ls : Array Slot), Sm X X9 → TR D cy β X9 H → va_S (TA β) s.heap H locs → lv_has ls 8 [(0, .ref β), (1, .long w0), (3, .int 0), (4, .int 2), (5, .int n1), (6, .int m0), (7, .int n17)] → W p l e { frames := 7, cells := 0, slots := 0, locals := 164 } s m args below meth c0 H locs 0 0 Q (F0 m 569 ls [])) : W p l e { frames := 7, cells := 0, slots := 0, locals := 164 } s m args below meth c0 H locs 0 0 Q (F0 m 469 ls []) := by
  obtain ⟨hx, hb, hr, hts, hown, hlocks, hml, hK⟩ := C
  unfold refS_0d at hk
  have hm : Sm X X := Sm.rf
  refine lv_iload_n hx hb dL_refused_469 rfl (lv_at hl 2 rfl) ?_
  refine lv_if_ne (tgt := 482) hx hb dL_refused_470 (by decide) (fun c => absurd c (by decide)) (fun _ => ?_)
  refine lv_aload_n hx hb dL_refused_473 rfl (lv_at hl 0 rfl) ?_
  refine lv_bipush (v := 17) hx hb dL_refused_474 (by decide) ?_
  refine gm_ci (gm_call (As := [.int 17]) (rest := []) (ci := 8) (q := (RX8, TX8, 8)) ⟨hx, hb, hml, hown, hts⟩ hK (c_X8_count l D cy β X 17 ) (cwV 1 hts (kIn kv_count) rfl rfl rfl (by decide +kernel) ⟨Nat.le_of_ble_eq_true rfl, Nat.le_of_ble_eq_true rfl⟩) (TR.mk0 hR) rfl hR rfl hl.1 rfl (Nat.le_of_ble_eq_true rfl) dL_refused_476 (Nat.zero_le _) (Nat.zero_le _)) hS (fun _ h => h.elim) (fun H locs _ _ hfr hS => ?_)
  have hR := gRep.keep hR hfr (fun _ _ h => h)
  rw [show f_X8_count X 17 = n17 from ((sq_count 17).e hE).trans en17]
  clear hfr
  refine lv_goto (tgt := 483) hx hb dL_refused_479 (by decide) ?_
  refine lv_istore (lv' := [(7, .int n17), (0, .ref β), (1, .long w0), (3, .int 0), (4, .int 2), (5, .int n1), (6, .int m0)]) hx hb dL_refused_483 hl (by decide) rfl (fun ls hl => ?_)
  refine lv_aload_n hx hb dL_refused_485 rfl (lv_at hl 1 rfl) ?_
  refine lv_iload hx hb dL_refused_486 (lv_at hl 0 rfl) ?_
  refine gm_ci (gm_call (As := [.int n17]) (rest := []) (ci := 8) (q := (RX8, TX8, 8)) ⟨hx, hb, hml, hown, hts⟩ hK (c_X8_endOrder l D cy β X n17 hE.ok) (cwV 1 hts (kIn kv_endOrder) rfl rfl rfl (by decide +kernel) ⟨Nat.le_of_ble_eq_true rfl, Nat.le_of_ble_eq_true rfl⟩) (TR.mk0 hR) rfl hR rfl hl.1 rfl (Nat.le_of_ble_eq_true rfl) dL_refused_488 (Nat.zero_le _) (Nat.zero_le _)) hS (fun _ h => h) (fun H locs hR _ _ hS => ?_)
  obtain ⟨a9, g9, hk⟩ := r_endOrder hE hK0 (by decide) hk
  rw [a9]
  replace hE := g9.ev hE
  replace hm := hm.tr g9
  generalize (p_X8_endOrder X n17).2 = X1 at hR hE hm
  clear a9 g9
  refine lv_iconst (v := (-1)) hx hb dL_refused_491 (by decide) ?_
  refine lv_icmp_ne (tgt := 567) hx hb dL_refused_492 (by decide) (fun c => absurd c (by decide)) (fun _ => ?_)
  refine lv_aload_n hx hb dL_refused_495 rfl (lv_at hl 1 rfl) ?_
  refine lv_iload hx hb dL_refused_496 (lv_at hl 0 rfl) ?_
  refine lv_bipush (v := 7) hx hb dL_refused_498 (by decide) ?_
  refine gm_ci (gm_call (As := [.int n17, .int 7]) (rest := []) (ci := 8) (q := (RX8, TX8, 8)) ⟨hx, hb, hml, hown, hts⟩ hK (c_X8_ordered l D cy β X1 n17 7 ) (cwV 2 hts (kIn kv_ordered) rfl rfl rfl (by decide +kernel) ⟨Nat.le_of_ble_eq_true rfl, Nat.le_of_ble_eq_true rfl⟩) (TR.mk0 hR) rfl hR rfl hl.1 rfl (Nat.le_of_ble_eq_true rfl) dL_refused_500 (Nat.zero_le _) (Nat.zero_le _)) hS (fun _ h => h.elim) (fun H locs _ _ hfr hS => ?_)
  have hR := gRep.keep hR hfr (fun _ _ h => h)
  obtain ⟨a9, hk⟩ := e_ordered hE hk
  rw [a9]
  clear hfr a9
  refine lv_iconst (v := (-1)) hx hb dL_refused_503 (by decide) ?_
  refine lv_icmp_ne (tgt := 567) hx hb dL_refused_504 (by decide) (fun c => absurd c (by decide)) (fun _ => ?_)
  refine lv_aload_n hx hb dL_refused_507 rfl (lv_at hl 1 rfl) ?_
  refine lv_iconst (v := (-1)) hx hb dL_refused_508 (by decide) ?_
  refine lv_iload_n hx hb dL_refused_509 rfl (lv_at hl 3 rfl) ?_
  refine lv_isub hx hb dL_refused_510 ?_
  rw [show ((-1) - 0 : Int32) = (-1) from by decide]
  refine lv_iconst (v := 0) hx hb dL_refused_511 (by decide) ?_
  refine gm_ci (gm_call (As := [.int (-1), .int 0]) (rest := []) (ci := 8) (q := (RX8, TX8, 8)) ⟨hx, hb, hml, hown, hts⟩ hK (c_X8_event l D cy β X1 (-1) 0 ) (cwV 2 hts (kIn kv_event) rfl rfl rfl (by decide +kernel) ⟨Nat.le_of_ble_eq_true rfl, Nat.le_of_ble_eq_true rfl⟩) (TR.mk0 hR) rfl hR rfl hl.1 rfl (Nat.le_of_ble_eq_true rfl) dL_refused_512 (Nat.zero_le _) (Nat.zero_le _)) hS (fun _ h => h.elim) (fun H locs _ _ hfr hS => ?_)
  have hR := gRep.keep hR hfr (fun _ _ h => h)
  obtain ⟨a9, hk⟩ := e_event hE hk
  rw [a9]
  clear hfr a9
  refine lv_bipush (v := (-2)) hx hb dL_refused_515 (by decide) ?_
  refine lv_icmp_ne (tgt := 567) hx hb dL_refused_517 (by decide) (fun c => absurd c (by decide)) (fun _ => ?_)
  refine lv_aload_n hx hb dL_refused_520 rfl (lv_at hl 1 rfl) ?_
  refine lv_bipush (v := 99) hx hb dL_refused_521 (by decide) ?_
  refine lv_iconst (v := 5) hx hb dL_refused_523 (by decide) ?_
  refine lv_bipush (v := 6) hx hb dL_refused_524 (by decide) ?_
  refine lv_iload_n hx hb dL_refused_526 rfl (lv_at hl 3 rfl) ?_
  refine lv_imul hx hb dL_refused_527 ?_
  rw [show (6 * 0 : Int32) = 0 from by decide]
  refine lv_isub hx hb dL_refused_528 ?_
  rw [show (5 - 0 : Int32) = 5 from by decide]
  refine gm_ci (gm_call (As := [.int 99, .int 5]) (rest := []) (ci := 8) (q := (RX8, TX8, 8)) ⟨hx, hb, hml, hown, hts⟩ hK (c_X8_event l D cy β X1 99 5 ) (cwV 2 hts (kIn kv_event) rfl rfl rfl (by decide +kernel) ⟨Nat.le_of_ble_eq_true rfl, Nat.le_of_ble_eq_true rfl⟩) (TR.mk0 hR) rfl hR rfl hl.1 rfl (Nat.le_of_ble_eq_true rfl) dL_refused_529 (Nat.zero_le _) (Nat.zero_le _)) hS (fun _ h => h.elim) (fun H locs _ _ hfr hS => ?_)
  have hR := gRep.keep hR hfr (fun _ _ h => h)
  obtain ⟨a9, hk⟩ := e_event hE hk
  rw [a9]
  clear hfr a9
  refine lv_bipush (v := (-2)) hx hb dL_refused_532 (by decide) ?_
  refine lv_icmp_ne (tgt := 567) hx hb dL_refused_534 (by decide) (fun c => absurd c (by decide)) (fun _ => ?_)
  refine lv_aload_n hx hb dL_refused_537 rfl (lv_at hl 1 rfl) ?_
  refine lv_bipush (v := 21) hx hb dL_refused_538 (by decide) ?_
  refine lv_bipush (v := 22) hx hb dL_refused_540 (by decide) ?_
  refine lv_iload_n hx hb dL_refused_542 rfl (lv_at hl 3 rfl) ?_
  refine lv_imul hx hb dL_refused_543 ?_
  rw [show (22 * 0 : Int32) = 0 from by decide]
  refine lv_isub hx hb dL_refused_544 ?_
  rw [show (21 - 0 : Int32) = 21 from by decide]
  refine gm_ci (gm_call (As := [.int 21]) (rest := []) (ci := 8) (q := (RX8, TX8, 8)) ⟨hx, hb, hml, hown, hts⟩ hK (c_X8_count l D cy β X1 21 ) (cwV 1 hts (kIn kv_count) rfl rfl rfl (by decide +kernel) ⟨Nat.le_of_ble_eq_true rfl, Nat.le_of_ble_eq_true rfl⟩) (TR.mk0 hR) rfl hR rfl hl.1 rfl (Nat.le_of_ble_eq_true rfl) dL_refused_545 (Nat.zero_le _) (Nat.zero_le _)) hS (fun _ h => h.elim) (fun H locs _ _ hfr hS => ?_)
  have hR := gRep.keep hR hfr (fun _ _ h => h)
  obtain ⟨a9, hk⟩ := e_count hE hk
  rw [a9]
  clear hfr a9
  refine lv_bipush (v := (-2)) hx hb dL_refused_548 (by decide) ?_
  refine lv_icmp_ne (tgt := 567) hx hb dL_refused_550 (by decide) (fun c => absurd c (by decide)) (fun _ => ?_)
  refine lv_aload_n hx hb dL_refused_553 rfl (lv_at hl 1 rfl) ?_
  refine lv_bipush (v := 12) hx hb dL_refused_554 (by decide) ?_
  refine lv_iconst (v := 4) hx hb dL_refused_556 (by decide) ?_
  refine lv_iload_n hx hb dL_refused_557 rfl (lv_at hl 3 rfl) ?_
  refine lv_imul hx hb dL_refused_558 ?_
  rw [show (4 * 0 : Int32) = 0 from by decide]
  refine gm_ci (gm_call (As := [.int 12, .int 0]) (rest := []) (ci := 8) (q := (RX8, TX8, 8)) ⟨hx, hb, hml, hown, hts⟩ hK (c_X8_event l D cy β X1 12 0 ) (cwV 2 hts (kIn kv_event) rfl rfl rfl (by decide +kernel) ⟨Nat.le_of_ble_eq_true rfl, Nat.le_of_ble_eq_true rfl⟩) (TR.mk0 hR) rfl hR rfl hl.1 rfl (Nat.le_of_ble_eq_true rfl) dL_refused_559 (Nat.zero_le _) (Nat.zero_le _)) hS (fun _ h => h.elim) (fun H locs _ _ hfr hS => ?_)
  have hR := gRep.keep hR hfr (fun _ _ h => h)
  obtain ⟨a9, hk⟩ := e_event hE hk
  rw [a9]
  clear hfr a9
  refine lv_bipush (v := (-5)) hx hb dL_refused_562 (by decide) ?_
  refine lv_icmp_eq (tgt := 569) hx hb dL_refused_564 (by decide) (fun _ => ?_) (fun c => absurd c (by decide))
  exact kk _ _ _ _ hm hR hS (lv_sub hl [1, 2, 3, 4, 5, 6, 0] rfl)
set_option maxHeartbeats 8000000 in
set_option maxRecDepth 100000 in
theorem rp_0e {p : Program} {l : Launch} {e : Env} {s : State} {m : MethodId} {args : Array Value} {below : List Frame} {meth : Method} {c0 : Code} {D : va_G} {cy : Nat → ClassId} (C : gCtx cL_refused 8 (some .boolean) RL wsK_refused D cy p s m args meth c0) (β : Nat) {X U : gM} (w0 : Int64) {n1 m0 s0 n17 c15 c16 h3 : Int32} {Q : State → Prop} {H : Heap} {locs : List Loc} {ls : Array Slot} (hE : Ev X U) (hK0 : Kv (vw 0 U)) (en1 : f_X8_count U 1 = n1) (em0 : f_X8_line U 0 4 = m0) (es0 : f_X8_line U 0 0 = s0) (en17 : f_X8_count U 17 = n17) (ec15 : f_X8_count U 15 = c15) (ec16 : f_X8_count U 16 = c16) (eh3 : f_X8_line U 0 3 = h3) (hk : refS_0e U n1 m0 s0 n17 c15 c16 h3 = true) (hR : TR D cy β X H) (hS : va_S (TA β) s.heap H locs) (hl : lv_has ls 8 [(0, .ref β), (1, .long w0), (3, .int 0), (4, .int 2), (5, .int n1), (6, .int m0), (7, .int n17)])
    (kk : ∀ (X9 : gM) (H : Heap) (locs : List Loc) (ls : Array Slot), Sm X X9 → TR D cy β X9 H → va_S (TA β) s.heap H locs → lv_has ls 8 [(0, .ref β), (1, .long w0), (3, .int 0), (4, .int 2), (5, .int n1), (6, .int m0), (7, .int n17)] → W p l e { frames := 7, cells := 0, slots := 0, locals := 164 } s m args below meth c0 H locs 0 0 Q (F0 m 628 ls [])) : W p l e { frames := 7, cells := 0, slots := 0, locals := 164 } s m args below meth c0 H locs 0 0 Q (F0 m 569 ls []) := by
  obtain ⟨hx, hb, hr, hts, hown, hlocks, hml, hK⟩ := C
  unfold refS_0e at hk
  have hm : Sm X X := Sm.rf
  refine lv_aload_n hx hb dL_refused_569 rfl (lv_at hl 0 rfl) ?_
  refine lv_iconst (v := 1) hx hb dL_refused_570 (by decide) ?_
  refine gm_ci (gm_call (As := [.int 1]) (rest := []) (ci := 8) (q := (RX8, TX8, 8)) ⟨hx, hb, hml, hown, hts⟩ hK (c_X8_count l D cy β X 1 ) (cwV 1 hts (kIn kv_count) rfl rfl rfl (by decide +kernel) ⟨Nat.le_of_ble_eq_true rfl, Nat.le_of_ble_eq_true rfl⟩) (TR.mk0 hR) rfl hR rfl hl.1 rfl (Nat.le_of_ble_eq_true rfl) dL_refused_571 (Nat.zero_le _) (Nat.zero_le _)) hS (fun _ h => h.elim) (fun H locs _ _ hfr hS => ?_)
  have hR := gRep.keep hR hfr (fun _ _ h => h)
  rw [show f_X8_count X 1 = n1 from ((sq_count 1).e hE).trans en1]
  clear hfr
  rw [Bool.or_eq_true, decide_eq_true_eq] at hk
  refine lv_if_le (tgt := 628) hx hb dL_refused_574 (by decide) (fun c1 => ?_) (fun c1 => ?_)
  · exact kk _ _ _ _ hm hR hS (lv_sub hl [0, 1, 2, 3, 4, 5, 6] rfl)
  replace hk := hk.resolve_left c1
  refine lv_aload_n hx hb dL_refused_577 rfl (lv_at hl 0 rfl) ?_
  refine lv_iconst (v := 0) hx hb dL_refused_578 (by decide) ?_
  refine lv_bipush (v := 51) hx hb dL_refused_579 (by decide) ?_
  refine lv_bipush (v := 51) hx hb dL_refused_581 (by decide) ?_
  refine lv_iload_n hx hb dL_refused_583 rfl (lv_at hl 2 rfl) ?_
  refine lv_imul hx hb dL_refused_584 ?_
  rw [show (51 * 0 : Int32) = 0 from by decide]
  refine lv_isub hx hb dL_refused_585 ?_
  rw [show (51 - 0 : Int32) = 51 from by decide]
  refine gm_ci (gm_call (As := [.int 0, .int 51]) (rest := []) (ci := 8) (q := (RX8, TX8, 8)) ⟨hx, hb, hml, hown, hts⟩ hK (c_X8_order l D cy β X 0 51 hE.ok) (cwV 2 hts (kIn kv_order) rfl rfl rfl (by decide +kernel) ⟨Nat.le_of_ble_eq_true rfl, Nat.le_of_ble_eq_true rfl⟩) (TR.mk0 hR) rfl hR rfl hl.1 rfl (Nat.le_of_ble_eq_true rfl) dL_refused_586 (Nat.zero_le _) (Nat.zero_le _)) hS (fun _ h => h) (fun H locs hR _ _ hS => ?_)
  obtain ⟨a9, g9, hk⟩ := r_order hE hK0 (by decide) hk
  rw [a9]
  replace hE := g9.ev hE
  replace hm := hm.tr g9
  generalize (p_X8_order X 0 51).2 = X1 at hR hE hm
  clear a9 g9
  refine lv_bipush (v := (-2)) hx hb dL_refused_589 (by decide) ?_
  refine lv_icmp_ne (tgt := 626) hx hb dL_refused_591 (by decide) (fun c => absurd c (by decide)) (fun _ => ?_)
  refine lv_aload_n hx hb dL_refused_594 rfl (lv_at hl 0 rfl) ?_
  refine lv_iconst (v := 0) hx hb dL_refused_595 (by decide) ?_
  refine lv_bipush (v := 14) hx hb dL_refused_596 (by decide) ?_
  refine lv_bipush (v := 15) hx hb dL_refused_598 (by decide) ?_
  refine lv_iload_n hx hb dL_refused_600 rfl (lv_at hl 2 rfl) ?_
  refine lv_imul hx hb dL_refused_601 ?_
  rw [show (15 * 0 : Int32) = 0 from by decide]
  refine lv_isub hx hb dL_refused_602 ?_
  rw [show (14 - 0 : Int32) = 14 from by decide]
  refine gm_ci (gm_call (As := [.int 0, .int 14]) (rest := []) (ci := 8) (q := (RX8, TX8, 8)) ⟨hx, hb, hml, hown, hts⟩ hK (c_X8_ticket l D cy β X1 0 14 ) (cwV 2 hts (kIn kv_ticket) rfl rfl rfl (by decide +kernel) ⟨Nat.le_of_ble_eq_true rfl, Nat.le_of_ble_eq_true rfl⟩) (TR.mk0 hR) rfl hR rfl hl.1 rfl (Nat.le_of_ble_eq_true rfl) dL_refused_603 (Nat.zero_le _) (Nat.zero_le _)) hS (fun _ h => h.elim) (fun H locs _ _ hfr hS => ?_)
  have hR := gRep.keep hR hfr (fun _ _ h => h)
  obtain ⟨a9, hk⟩ := e_ticket hE hk
  rw [a9]
  clear hfr a9
  refine lv_bipush (v := (-2)) hx hb dL_refused_606 (by decide) ?_
  refine lv_icmp_ne (tgt := 626) hx hb dL_refused_608 (by decide) (fun c => absurd c (by decide)) (fun _ => ?_)
  refine lv_aload_n hx hb dL_refused_611 rfl (lv_at hl 0 rfl) ?_
  refine lv_iconst (v := 0) hx hb dL_refused_612 (by decide) ?_
  refine lv_iconst (v := 4) hx hb dL_refused_613 (by decide) ?_
  refine lv_iconst (v := 5) hx hb dL_refused_614 (by decide) ?_
  refine lv_iload_n hx hb dL_refused_615 rfl (lv_at hl 2 rfl) ?_
  refine lv_imul hx hb dL_refused_616 ?_
  rw [show (5 * 0 : Int32) = 0 from by decide]
  refine lv_isub hx hb dL_refused_617 ?_
  rw [show (4 - 0 : Int32) = 4 from by decide]
  refine gm_ci (gm_call (As := [.int 0, .int 4]) (rest := []) (ci := 8) (q := (RX8, TX8, 8)) ⟨hx, hb, hml, hown, hts⟩ hK (c_X8_fate l D cy β X1 0 4 ) (cwV 2 hts (kIn kv_fate) rfl rfl rfl (by decide +kernel) ⟨Nat.le_of_ble_eq_true rfl, Nat.le_of_ble_eq_true rfl⟩) (TR.mk0 hR) rfl hR rfl hl.1 rfl (Nat.le_of_ble_eq_true rfl) dL_refused_618 (Nat.zero_le _) (Nat.zero_le _)) hS (fun _ h => h) (fun H locs hR _ _ hS => ?_)
  obtain ⟨a9, g9, hk⟩ := r_fate hE hk
  rw [a9]
  replace hE := g9.ev hE
  replace hm := hm.tr g9
  generalize (p_X8_fate X1 0 4).2 = X2 at hR hE hm
  clear a9 g9
  refine lv_bipush (v := (-2)) hx hb dL_refused_621 (by decide) ?_
  refine lv_icmp_eq (tgt := 628) hx hb dL_refused_623 (by decide) (fun _ => ?_) (fun c => absurd c (by decide))
  exact kk _ _ _ _ hm hR hS (lv_sub hl [0, 1, 2, 3, 4, 5, 6] rfl)
set_option maxHeartbeats 8000000 in
set_option maxRecDepth 100000 in
theorem rp_0f {p : Program} {l : Launch} {e : Env} {s : State} {m : MethodId} {args : Array Value} {below : List Frame} {meth : Method} {c0 : Code} {D : va_G} {cy : Nat → ClassId} (C : gCtx cL_refused 8 (some .boolean) RL wsK_refused D cy p s m args meth c0) (β : Nat) {X U : gM} (w0 : Int64) {n1 m0 s0 n17 c15 c16 h3 : Int32} {Q : State → Prop} {H : Heap} {locs : List Loc} {ls : Array Slot} (hE : Ev X U) (hK0 : Kv (vw 0 U)) (en1 : f_X8_count U 1 = n1) (em0 : f_X8_line U 0 4 = m0) (es0 : f_X8_line U 0 0 = s0) (en17 : f_X8_count U 17 = n17) (ec15 : f_X8_count U 15 = c15) (ec16 : f_X8_count U 16 = c16) (eh3 : f_X8_line U 0 3 = h3) (hk : refS_0f U n1 m0 s0 n17 c15 c16 h3 = true) (hR : TR D cy β X H) (hS : va_S (TA β) s.heap H locs) (hl : lv_has ls 8 [(0, .ref β), (1, .long w0), (3, .int 0), (4, .int 2), (5, .int n1), (6, .int m0), (7, .int n17)])
    (kk : ∀ (X9 : gM) (H : Heap) (locs : List Loc) (ls : Array Slot), Sm X X9 → TR D cy β X9 H → va_S (TA β) s.heap H locs → lv_has ls 8 [(0, .ref β), (1, .long w0), (3, .int 0), (4, .int 2), (5, .int n1), (6, .int m0), (7, .int n17)] → W p l e { frames := 7, cells := 0, slots := 0, locals := 164 } s m args below meth c0 H locs 0 0 Q (F0 m 719 ls [])) : W p l e { frames := 7, cells := 0, slots := 0, locals := 164 } s m args below meth c0 H locs 0 0 Q (F0 m 628 ls []) := by
  obtain ⟨hx, hb, hr, hts, hown, hlocks, hml, hK⟩ := C
  unfold refS_0f at hk
  have hm : Sm X X := Sm.rf
  refine lv_aload_n hx hb dL_refused_628 rfl (lv_at hl 0 rfl) ?_
  refine lv_iconst (v := 0) hx hb dL_refused_629 (by decide) ?_
  refine lv_iconst (v := 4) hx hb dL_refused_630 (by decide) ?_
  refine gm_ci (gm_call (As := [.int 0, .int 4]) (rest := []) (ci := 8) (q := (RX8, TX8, 8)) ⟨hx, hb, hml, hown, hts⟩ hK (c_X8_line l D cy β X 0 4 ) (cwV 2 hts (kIn kv_line) rfl rfl rfl (by decide +kernel) ⟨Nat.le_of_ble_eq_true rfl, Nat.le_of_ble_eq_true rfl⟩) (TR.mk0 hR) rfl hR rfl hl.1 rfl (Nat.le_of_ble_eq_true rfl) dL_refused_631 (Nat.zero_le _) (Nat.zero_le _)) hS (fun _ h => h.elim) (fun H locs _ _ hfr hS => ?_)
  have hR := gRep.keep hR hfr (fun _ _ h => h)
  rw [show f_X8_line X 0 4 = m0 from ((sq_line 0 4).e hE).trans em0]
  clear hfr
  refine lv_iconst (v := 1) hx hb dL_refused_634 (by decide) ?_
  rw [Bool.or_eq_true, decide_eq_true_eq] at hk
  refine lv_icmp_le (tgt := 719) hx hb dL_refused_635 (by decide) (fun c1 => ?_) (fun c1 => ?_)
  · exact kk _ _ _ _ hm hR hS (lv_sub hl [0, 1, 2, 3, 4, 5, 6] rfl)
  replace hk := hk.resolve_left c1
  refine lv_aload_n hx hb dL_refused_638 rfl (lv_at hl 0 rfl) ?_
  refine lv_iconst (v := 0) hx hb dL_refused_639 (by decide) ?_
  refine lv_ldc (v := 65536) hx hb hown (hts _ (List.mem_cons_of_mem _ kw_constant_RL_115)) dL_refused_640 ?_
  refine lv_ldc (v := 65537) hx hb hown (hts _ (List.mem_cons_of_mem _ kw_constant_RL_116)) dL_refused_642 ?_
  refine lv_iload_n hx hb dL_refused_644 rfl (lv_at hl 2 rfl) ?_
  refine lv_imul hx hb dL_refused_645 ?_
  rw [show (65537 * 0 : Int32) = 0 from by decide]
  refine lv_isub hx hb dL_refused_646 ?_
  rw [show (65536 - 0 : Int32) = 65536 from by decide]
  refine gm_ci (gm_call (As := [.int 0, .int 65536]) (rest := []) (ci := 8) (q := (RX8, TX8, 8)) ⟨hx, hb, hml, hown, hts⟩ hK (c_X8_call l D cy β X 0 65536 hE.ok) (cwV 2 hts (kIn kv_call) rfl rfl rfl (by decide +kernel) ⟨Nat.le_of_ble_eq_true rfl, Nat.le_of_ble_eq_true rfl⟩) (TR.mk0 hR) rfl hR rfl hl.1 rfl (Nat.le_of_ble_eq_true rfl) dL_refused_647 (Nat.zero_le _) (Nat.zero_le _)) hS (fun _ h => h) (fun H locs hR _ _ hS => ?_)
  obtain ⟨a9, g9, hk⟩ := r_call hE hK0 (by decide) hk
  rw [a9]
  replace hE := g9.ev hE
  replace hm := hm.tr g9
  generalize (p_X8_call X 0 65536).2 = X1 at hR hE hm
  clear a9 g9
  refine lv_bipush (v := (-2)) hx hb dL_refused_650 (by decide) ?_
  refine lv_icmp_ne (tgt := 717) hx hb dL_refused_652 (by decide) (fun c => absurd c (by decide)) (fun _ => ?_)
  refine lv_aload_n hx hb dL_refused_655 rfl (lv_at hl 0 rfl) ?_
  refine lv_iconst (v := 0) hx hb dL_refused_656 (by decide) ?_
  refine lv_bipush (v := 9) hx hb dL_refused_657 (by decide) ?_
  refine lv_bipush (v := 10) hx hb dL_refused_659 (by decide) ?_
  refine lv_iload_n hx hb dL_refused_661 rfl (lv_at hl 2 rfl) ?_
  refine lv_imul hx hb dL_refused_662 ?_
  rw [show (10 * 0 : Int32) = 0 from by decide]
  refine lv_isub hx hb dL_refused_663 ?_
  rw [show (9 - 0 : Int32) = 9 from by decide]
  refine gm_ci (gm_call (As := [.int 0, .int 9]) (rest := []) (ci := 8) (q := (RX8, TX8, 8)) ⟨hx, hb, hml, hown, hts⟩ hK (c_X8_station l D cy β X1 0 9 ) (cwV 2 hts (kIn kv_station) rfl rfl rfl (by decide +kernel) ⟨Nat.le_of_ble_eq_true rfl, Nat.le_of_ble_eq_true rfl⟩) (TR.mk0 hR) rfl hR rfl hl.1 rfl (Nat.le_of_ble_eq_true rfl) dL_refused_664 (Nat.zero_le _) (Nat.zero_le _)) hS (fun _ h => h.elim) (fun H locs _ _ hfr hS => ?_)
  have hR := gRep.keep hR hfr (fun _ _ h => h)
  obtain ⟨a9, hk⟩ := e_station hE hk
  rw [a9]
  clear hfr a9
  refine lv_bipush (v := (-2)) hx hb dL_refused_667 (by decide) ?_
  refine lv_icmp_ne (tgt := 717) hx hb dL_refused_669 (by decide) (fun c => absurd c (by decide)) (fun _ => ?_)
  refine lv_aload_n hx hb dL_refused_672 rfl (lv_at hl 0 rfl) ?_
  refine lv_iconst (v := 0) hx hb dL_refused_673 (by decide) ?_
  refine lv_iconst (v := (-1)) hx hb dL_refused_674 (by decide) ?_
  refine lv_iload_n hx hb dL_refused_675 rfl (lv_at hl 2 rfl) ?_
  refine lv_isub hx hb dL_refused_676 ?_
  rw [show ((-1) - 0 : Int32) = (-1) from by decide]
  refine gm_ci (gm_call (As := [.int 0, .int (-1)]) (rest := []) (ci := 8) (q := (RX8, TX8, 8)) ⟨hx, hb, hml, hown, hts⟩ hK (c_X8_waiting l D cy β X1 0 (-1) ) (cwV 2 hts (kIn kv_waiting) rfl rfl rfl (by decide +kernel) ⟨Nat.le_of_ble_eq_true rfl, Nat.le_of_ble_eq_true rfl⟩) (TR.mk0 hR) rfl hR rfl hl.1 rfl (Nat.le_of_ble_eq_true rfl) dL_refused_677 (Nat.zero_le _) (Nat.zero_le _)) hS (fun _ h => h.elim) (fun H locs _ _ hfr hS => ?_)
  have hR := gRep.keep hR hfr (fun _ _ h => h)
  obtain ⟨a9, hk⟩ := e_waiting hE hk
  rw [a9]
  clear hfr a9
  refine lv_bipush (v := (-2)) hx hb dL_refused_680 (by decide) ?_
  refine lv_icmp_ne (tgt := 717) hx hb dL_refused_682 (by decide) (fun c => absurd c (by decide)) (fun _ => ?_)
  refine lv_aload_n hx hb dL_refused_685 rfl (lv_at hl 0 rfl) ?_
  refine lv_iconst (v := 0) hx hb dL_refused_686 (by decide) ?_
  refine lv_iconst (v := (-1)) hx hb dL_refused_687 (by decide) ?_
  refine lv_iload_n hx hb dL_refused_688 rfl (lv_at hl 2 rfl) ?_
  refine lv_isub hx hb dL_refused_689 ?_
  rw [show ((-1) - 0 : Int32) = (-1) from by decide]
  refine gm_ci (gm_call (As := [.int 0, .int (-1)]) (rest := []) (ci := 8) (q := (RX8, TX8, 8)) ⟨hx, hb, hml, hown, hts⟩ hK (c_X8_calls l D cy β X1 0 (-1) ) (cwV 2 hts (kIn kv_calls) rfl rfl rfl (by decide +kernel) ⟨Nat.le_of_ble_eq_true rfl, Nat.le_of_ble_eq_true rfl⟩) (TR.mk0 hR) rfl hR rfl hl.1 rfl (Nat.le_of_ble_eq_true rfl) dL_refused_690 (Nat.zero_le _) (Nat.zero_le _)) hS (fun _ h => h.elim) (fun H locs _ _ hfr hS => ?_)
  have hR := gRep.keep hR hfr (fun _ _ h => h)
  obtain ⟨a9, hk⟩ := e_calls hE hk
  rw [a9]
  clear hfr a9
  refine lv_bipush (v := (-2)) hx hb dL_refused_693 (by decide) ?_
  refine lv_icmp_ne (tgt := 717) hx hb dL_refused_695 (by decide) (fun c => absurd c (by decide)) (fun _ => ?_)
  refine lv_aload_n hx hb dL_refused_698 rfl (lv_at hl 0 rfl) ?_
  refine lv_iconst (v := 0) hx hb dL_refused_699 (by decide) ?_
  refine lv_sipush (v := 301) hx hb dL_refused_700 (by decide) ?_
  refine lv_sipush (v := 302) hx hb dL_refused_703 (by decide) ?_
  refine lv_iload_n hx hb dL_refused_706 rfl (lv_at hl 2 rfl) ?_
  refine lv_imul hx hb dL_refused_707 ?_
  rw [show (302 * 0 : Int32) = 0 from by decide]
  refine lv_isub hx hb dL_refused_708 ?_
  rw [show (301 - 0 : Int32) = 301 from by decide]
  refine gm_ci (gm_call (As := [.int 0, .int 301]) (rest := []) (ci := 8) (q := (RX8, TX8, 8)) ⟨hx, hb, hml, hown, hts⟩ hK (c_X8_slotIn l D cy β X1 0 301 ) (cwV 2 hts (kIn kv_slotIn) rfl rfl rfl (by decide +kernel) ⟨Nat.le_of_ble_eq_true rfl, Nat.le_of_ble_eq_true rfl⟩) (TR.mk0 hR) rfl hR rfl hl.1 rfl (Nat.le_of_ble_eq_true rfl) dL_refused_709 (Nat.zero_le _) (Nat.zero_le _)) hS (fun _ h => h) (fun H locs hR _ _ hS => ?_)
  obtain ⟨a9, g9, hk⟩ := r_slotIn hE hk
  rw [a9]
  replace hE := g9.ev hE
  replace hm := hm.tr g9
  generalize (p_X8_slotIn X1 0 301).2 = X2 at hR hE hm
  clear a9 g9
  refine lv_bipush (v := (-2)) hx hb dL_refused_712 (by decide) ?_
  refine lv_icmp_eq (tgt := 719) hx hb dL_refused_714 (by decide) (fun _ => ?_) (fun c => absurd c (by decide))
  exact kk _ _ _ _ hm hR hS (lv_sub hl [0, 1, 2, 3, 4, 5, 6] rfl)
set_option maxHeartbeats 8000000 in
set_option maxRecDepth 100000 in
theorem rp_0g {p : Program} {l : Launch} {e : Env} {s : State} {m : MethodId} {args : Array Value} {below : List Frame} {meth : Method} {c0 : Code} {D : va_G} {cy : Nat → ClassId} (C : gCtx cL_refused 8 (some .boolean) RL wsK_refused D cy p s m args meth c0) (β : Nat) {X U : gM} (w0 : Int64) {n1 m0 s0 n17 c15 c16 h3 : Int32} {Q : State → Prop} {H : Heap} {locs : List Loc} {ls : Array Slot} (hE : Ev X U) (hK0 : Kv (vw 0 U)) (en1 : f_X8_count U 1 = n1) (em0 : f_X8_line U 0 4 = m0) (es0 : f_X8_line U 0 0 = s0) (en17 : f_X8_count U 17 = n17) (ec15 : f_X8_count U 15 = c15) (ec16 : f_X8_count U 16 = c16) (eh3 : f_X8_line U 0 3 = h3) (hk : refS_0g U n1 m0 s0 n17 c15 c16 h3 = true) (hR : TR D cy β X H) (hS : va_S (TA β) s.heap H locs) (hl : lv_has ls 8 [(0, .ref β), (1, .long w0), (3, .int 0), (4, .int 2), (5, .int n1), (6, .int m0), (7, .int n17)])
    (kk : ∀ (X9 : gM) (H : Heap) (locs : List Loc) (ls : Array Slot), Sm X X9 → TR D cy β X9 H → va_S (TA β) s.heap H locs → lv_has ls 8 [(0, .ref β), (1, .long w0), (3, .int 0), (4, .int 2), (5, .int n1), (6, .int m0), (7, .int n17)] → W p l e { frames := 7, cells := 0, slots := 0, locals := 164 } s m args below meth c0 H locs 0 0 Q (F0 m 814 ls [])) : W p l e { frames := 7, cells := 0, slots := 0, locals := 164 } s m args below meth c0 H locs 0 0 Q (F0 m 719 ls []) := by
  obtain ⟨hx, hb, hr, hts, hown, hlocks, hml, hK⟩ := C
  unfold refS_0g at hk
  have hm : Sm X X := Sm.rf
  refine lv_aload_n hx hb dL_refused_719 rfl (lv_at hl 0 rfl) ?_
  refine lv_iconst (v := 0) hx hb dL_refused_720 (by decide) ?_
  refine lv_iconst (v := 4) hx hb dL_refused_721 (by decide) ?_
  refine gm_ci (gm_call (As := [.int 0, .int 4]) (rest := []) (ci := 8) (q := (RX8, TX8, 8)) ⟨hx, hb, hml, hown, hts⟩ hK (c_X8_line l D cy β X 0 4 ) (cwV 2 hts (kIn kv_line) rfl rfl rfl (by decide +kernel) ⟨Nat.le_of_ble_eq_true rfl, Nat.le_of_ble_eq_true rfl⟩) (TR.mk0 hR) rfl hR rfl hl.1 rfl (Nat.le_of_ble_eq_true rfl) dL_refused_722 (Nat.zero_le _) (Nat.zero_le _)) hS (fun _ h => h.elim) (fun H locs _ _ hfr hS => ?_)
  have hR := gRep.keep hR hfr (fun _ _ h => h)
  rw [show f_X8_line X 0 4 = m0 from ((sq_line 0 4).e hE).trans em0]
  clear hfr
  refine lv_iconst (v := 1) hx hb dL_refused_725 (by decide) ?_
  rw [Bool.or_eq_true, decide_eq_true_eq] at hk
  refine lv_icmp_le (tgt := 814) hx hb dL_refused_726 (by decide) (fun c1 => ?_) (fun c1 => ?_)
  · exact kk _ _ _ _ hm hR hS (lv_sub hl [0, 1, 2, 3, 4, 5, 6] rfl)
  replace hk := hk.resolve_left c1
  refine lv_aload_n hx hb dL_refused_729 rfl (lv_at hl 0 rfl) ?_
  refine lv_ldc (v := 65536) hx hb hown (hts _ (List.mem_cons_of_mem _ kw_constant_RL_115)) dL_refused_730 ?_
  refine lv_ldc (v := 65537) hx hb hown (hts _ (List.mem_cons_of_mem _ kw_constant_RL_116)) dL_refused_732 ?_
  refine lv_iload_n hx hb dL_refused_734 rfl (lv_at hl 2 rfl) ?_
  refine lv_imul hx hb dL_refused_735 ?_
  rw [show (65537 * 0 : Int32) = 0 from by decide]
  refine lv_isub hx hb dL_refused_736 ?_
  rw [show (65536 - 0 : Int32) = 65536 from by decide]
  refine lv_iconst (v := 1) hx hb dL_refused_737 (by decide) ?_
  refine lv_iconst (v := 0) hx hb dL_refused_738 (by decide) ?_
  refine lv_iconst (v := 1) hx hb dL_refused_739 (by decide) ?_
  refine lv_iconst (v := 1) hx hb dL_refused_740 (by decide) ?_
  refine gm_ci (gm_call (As := [.int 65536, .int 1, .int 0, .int 1, .int 1]) (rest := []) (ci := 8) (q := (RX8, TX8, 8)) ⟨hx, hb, hml, hown, hts⟩ hK (c_X8_book l D cy β X 65536 1 0 1 1 hE.ok) (cwV 5 hts (kIn kv_book) rfl rfl rfl (by decide +kernel) ⟨Nat.le_of_ble_eq_true rfl, Nat.le_of_ble_eq_true rfl⟩) (TR.mk0 hR) rfl hR rfl hl.1 rfl (Nat.le_of_ble_eq_true rfl) dL_refused_741 (Nat.zero_le _) (Nat.zero_le _)) hS (fun _ h => h) (fun H locs hR _ _ hS => ?_)
  obtain ⟨a9, g9, hk⟩ := r_book hE hK0 (by decide) hk
  rw [a9]
  replace hE := g9.ev hE
  replace hm := hm.tr g9
  generalize (p_X8_book X 65536 1 0 1 1).2 = X1 at hR hE hm
  clear a9 g9
  refine lv_bipush (v := (-2)) hx hb dL_refused_744 (by decide) ?_
  refine lv_icmp_ne (tgt := 812) hx hb dL_refused_746 (by decide) (fun c => absurd c (by decide)) (fun _ => ?_)
  refine lv_aload_n hx hb dL_refused_749 rfl (lv_at hl 0 rfl) ?_
  refine lv_iconst (v := 0) hx hb dL_refused_750 (by decide) ?_
  refine lv_iconst (v := 4) hx hb dL_refused_751 (by decide) ?_
  refine lv_iconst (v := 4) hx hb dL_refused_752 (by decide) ?_
  refine lv_iload_n hx hb dL_refused_753 rfl (lv_at hl 2 rfl) ?_
  refine lv_imul hx hb dL_refused_754 ?_
  rw [show (4 * 0 : Int32) = 0 from by decide]
  refine lv_isub hx hb dL_refused_755 ?_
  rw [show (4 - 0 : Int32) = 4 from by decide]
  refine lv_iconst (v := 0) hx hb dL_refused_756 (by decide) ?_
  refine lv_iconst (v := 1) hx hb dL_refused_757 (by decide) ?_
  refine lv_iconst (v := 1) hx hb dL_refused_758 (by decide) ?_
  refine gm_ci (gm_call (As := [.int 0, .int 4, .int 0, .int 1, .int 1]) (rest := []) (ci := 8) (q := (RX8, TX8, 8)) ⟨hx, hb, hml, hown, hts⟩ hK (c_X8_book l D cy β X1 0 4 0 1 1 hE.ok) (cwV 5 hts (kIn kv_book) rfl rfl rfl (by decide +kernel) ⟨Nat.le_of_ble_eq_true rfl, Nat.le_of_ble_eq_true rfl⟩) (TR.mk0 hR) rfl hR rfl hl.1 rfl (Nat.le_of_ble_eq_true rfl) dL_refused_759 (Nat.zero_le _) (Nat.zero_le _)) hS (fun _ h => h) (fun H locs hR _ _ hS => ?_)
  obtain ⟨a9, g9, hk⟩ := r_book hE hK0 (by decide) hk
  rw [a9]
  replace hE := g9.ev hE
  replace hm := hm.tr g9
  generalize (p_X8_book X1 0 4 0 1 1).2 = X2 at hR hE hm
  clear a9 g9
  refine lv_bipush (v := (-2)) hx hb dL_refused_762 (by decide) ?_
  refine lv_icmp_ne (tgt := 812) hx hb dL_refused_764 (by decide) (fun c => absurd c (by decide)) (fun _ => ?_)
  refine lv_aload_n hx hb dL_refused_767 rfl (lv_at hl 0 rfl) ?_
  refine lv_iconst (v := 0) hx hb dL_refused_768 (by decide) ?_
  refine lv_iconst (v := 1) hx hb dL_refused_769 (by decide) ?_
  refine lv_iconst (v := 0) hx hb dL_refused_770 (by decide) ?_
  refine lv_iconst (v := 1) hx hb dL_refused_771 (by decide) ?_
  refine lv_bipush (v := 10) hx hb dL_refused_772 (by decide) ?_
  refine lv_bipush (v := 10) hx hb dL_refused_774 (by decide) ?_
  refine lv_iload_n hx hb dL_refused_776 rfl (lv_at hl 2 rfl) ?_
  refine lv_imul hx hb dL_refused_777 ?_
  rw [show (10 * 0 : Int32) = 0 from by decide]
  refine lv_isub hx hb dL_refused_778 ?_
  rw [show (10 - 0 : Int32) = 10 from by decide]
  refine gm_ci (gm_call (As := [.int 0, .int 1, .int 0, .int 1, .int 10]) (rest := []) (ci := 8) (q := (RX8, TX8, 8)) ⟨hx, hb, hml, hown, hts⟩ hK (c_X8_book l D cy β X2 0 1 0 1 10 hE.ok) (cwV 5 hts (kIn kv_book) rfl rfl rfl (by decide +kernel) ⟨Nat.le_of_ble_eq_true rfl, Nat.le_of_ble_eq_true rfl⟩) (TR.mk0 hR) rfl hR rfl hl.1 rfl (Nat.le_of_ble_eq_true rfl) dL_refused_779 (Nat.zero_le _) (Nat.zero_le _)) hS (fun _ h => h) (fun H locs hR _ _ hS => ?_)
  obtain ⟨a9, g9, hk⟩ := r_book hE hK0 (by decide) hk
  rw [a9]
  replace hE := g9.ev hE
  replace hm := hm.tr g9
  generalize (p_X8_book X2 0 1 0 1 10).2 = X3 at hR hE hm
  clear a9 g9
  refine lv_bipush (v := (-2)) hx hb dL_refused_782 (by decide) ?_
  refine lv_icmp_ne (tgt := 812) hx hb dL_refused_784 (by decide) (fun c => absurd c (by decide)) (fun _ => ?_)
  refine lv_aload_n hx hb dL_refused_787 rfl (lv_at hl 0 rfl) ?_
  refine lv_iconst (v := 0) hx hb dL_refused_788 (by decide) ?_
  refine lv_iconst (v := 1) hx hb dL_refused_789 (by decide) ?_
  refine lv_iload_n hx hb dL_refused_790 rfl (lv_at hl 2 rfl) ?_
  refine lv_iload_n hx hb dL_refused_791 rfl (lv_at hl 2 rfl) ?_
  refine lv_iconst (v := 1) hx hb dL_refused_792 (by decide) ?_
  refine gm_ci (gm_call (As := [.int 0, .int 1, .int 0, .int 0, .int 1]) (rest := []) (ci := 8) (q := (RX8, TX8, 8)) ⟨hx, hb, hml, hown, hts⟩ hK (c_X8_book l D cy β X3 0 1 0 0 1 hE.ok) (cwV 5 hts (kIn kv_book) rfl rfl rfl (by decide +kernel) ⟨Nat.le_of_ble_eq_true rfl, Nat.le_of_ble_eq_true rfl⟩) (TR.mk0 hR) rfl hR rfl hl.1 rfl (Nat.le_of_ble_eq_true rfl) dL_refused_793 (Nat.zero_le _) (Nat.zero_le _)) hS (fun _ h => h) (fun H locs hR _ _ hS => ?_)
  obtain ⟨a9, g9, hk⟩ := r_book hE hK0 (by decide) hk
  rw [a9]
  replace hE := g9.ev hE
  replace hm := hm.tr g9
  generalize (p_X8_book X3 0 1 0 0 1).2 = X4 at hR hE hm
  clear a9 g9
  refine lv_bipush (v := (-2)) hx hb dL_refused_796 (by decide) ?_
  refine lv_icmp_ne (tgt := 812) hx hb dL_refused_798 (by decide) (fun c => absurd c (by decide)) (fun _ => ?_)
  refine lv_aload_n hx hb dL_refused_801 rfl (lv_at hl 0 rfl) ?_
  refine lv_iload_n hx hb dL_refused_802 rfl (lv_at hl 2 rfl) ?_
  refine lv_iload_n hx hb dL_refused_803 rfl (lv_at hl 2 rfl) ?_
  refine gm_ci (gm_call (As := [.int 0, .int 0]) (rest := []) (ci := 8) (q := (RX8, TX8, 8)) ⟨hx, hb, hml, hown, hts⟩ hK (c_X8_lapsNeeded l D cy β X4 0 0 ) (cwV 2 hts (kIn kv_lapsNeeded) rfl rfl rfl (by decide +kernel) ⟨Nat.le_of_ble_eq_true rfl, Nat.le_of_ble_eq_true rfl⟩) (TR.mk0 hR) rfl hR rfl hl.1 rfl (Nat.le_of_ble_eq_true rfl) dL_refused_804 (Nat.zero_le _) (Nat.zero_le _)) hS (fun _ h => h) (fun H locs hR _ _ hS => ?_)
  obtain ⟨a9, g9, hk⟩ := r_lapsNeeded hE hk
  rw [a9]
  replace hE := g9.ev hE
  replace hm := hm.tr g9
  generalize (p_X8_lapsNeeded X4 0 0).2 = X5 at hR hE hm
  clear a9 g9
  refine lv_bipush (v := (-2)) hx hb dL_refused_807 (by decide) ?_
  refine lv_icmp_eq (tgt := 814) hx hb dL_refused_809 (by decide) (fun _ => ?_) (fun c => absurd c (by decide))
  exact kk _ _ _ _ hm hR hS (lv_sub hl [0, 1, 2, 3, 4, 5, 6] rfl)
