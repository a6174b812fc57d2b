/-! the cases of the law -/
set_option maxHeartbeats 4000000 in
set_option maxRecDepth 100000 in
/-- build -/
theorem lw_c0 {p : Program} {l : Launch} {e : Env} {s : State} {m : MethodId} {below : List Frame} {meth : Method} {c : Code} {D : va_G} {cy : Nat → ClassId} {b L : Nat} {xs : Nat → Int32} {Q : State → Prop} {cells slots : Nat} (C : lw_C D cy p s m c b L xs) {x3 : Int32} (h_1 : vp_in (x3 + 1) L) (h_2 : vp_in (x3 + 2) L) (h_3 : vp_in (x3 + 3) L) (h_4 : vp_in (x3 + 4) L) (h_5 : vp_in (x3 + 5) L) {X Y : gM} {H : Heap} {locs : List Loc} {ls : Array Slot} (hI : lw_I D cy s X Y H locs) (hl : lv_has ls 4 [(0, .ref b), (1, .ref s.heap.size), (2, .ref (s.heap.size + 872)), (3, .int x3)]) (hc0 : cells ≤ 600000) (hs0 : slots ≤ 7302250)
    (kk : ∀ (X Y : gM) (H : Heap) (locs : List Loc), lw_I D cy s X Y H locs → W p l e room_1 s m #[Value.ref b] below meth c H locs cells slots Q (F0 m 1074 ls [])) : W p l e room_1 s m #[Value.ref b] below meth c H locs cells slots Q (F0 m 176 ls []) := by
  obtain ⟨hx, hb, hml, hown, hts, hX, hbl, hK⟩ := C
  obtain ⟨hR, hM, hrel, hS⟩ := hI
  have hbA : ¬ CA s.heap.size b := Nat.not_le.mpr hbl
  have hc8 := c_X8_build l D cy s.heap.size X (xs (x3 + 1).toNatClampNeg) (xs (x3 + 2).toNatClampNeg) hrel.2.2.1.ok
  have hs := s_build hrel (xs (x3 + 1).toNatClampNeg) (xs (x3 + 2).toNatClampNeg)
  have hs1 := hs.1
  have hs2 := hs.2.1
  have hc9 := c_X9_build l D cy (s.heap.size + 872) Y (xs (x3 + 1).toNatClampNeg) (xs (x3 + 2).toNatClampNeg) hs.2.2
  clear hs
  generalize p_X8_build X (xs (x3 + 1).toNatClampNeg) (xs (x3 + 2).toNatClampNeg) = P at hs1 hs2 hc8
  generalize p_X9_build Y (xs (x3 + 1).toNatClampNeg) (xs (x3 + 2).toNatClampNeg) = P2 at hs1 hs2 hc9
  refine lv_aload_n hx hb dL_law_176 rfl (lv_at hl 1 rfl) ?_
  refine lv_aload_n hx hb dL_law_177 rfl (lv_at hl 0 rfl) ?_
  refine lv_iload_n hx hb dL_law_178 rfl (lv_at hl 3 rfl) ?_
  refine lv_iconst (v := 1) hx hb dL_law_179 (by decide) ?_
  refine lv_iadd hx hb dL_law_180 ?_
  refine va_sld hx hb hX hbl hbA hS h_1 dL_law_181 ?_
  refine lv_aload_n hx hb dL_law_182 rfl (lv_at hl 0 rfl) ?_
  refine lv_iload_n hx hb dL_law_183 rfl (lv_at hl 3 rfl) ?_
  refine lv_iconst (v := 2) hx hb dL_law_184 (by decide) ?_
  refine lv_iadd hx hb dL_law_185 ?_
  refine va_sld hx hb hX hbl hbA hS h_2 dL_law_186 ?_
  refine gm_ci (gm_call (As := [.int (xs (x3 + 1).toNatClampNeg), .int (xs (x3 + 2).toNatClampNeg)]) (rest := []) (ci := 8) (q := (RX8, TX8, 8)) ⟨hx, hb, hml, hown, hts⟩ hK hc8 (cwV 2 hts gL_law_X8_build rfl rfl rfl (by decide +kernel) ⟨Nat.le_of_ble_eq_true rfl, Nat.le_of_ble_eq_true rfl⟩) (TR.mk0 hR) rfl hR rfl hl.1 rfl (Nat.le_of_ble_eq_true rfl) dL_law_187 hc0 hs0) hS (fun q h => gA_CA q h) (fun H locs hR _ hfr hS => ?_)
  have hM := lw_kM hM hfr (fun _ h => h)
  refine lv_aload_n hx hb dL_law_190 rfl (lv_at hl 2 rfl) ?_
  refine lv_aload_n hx hb dL_law_191 rfl (lv_at hl 0 rfl) ?_
  refine lv_iload_n hx hb dL_law_192 rfl (lv_at hl 3 rfl) ?_
  refine lv_iconst (v := 1) hx hb dL_law_193 (by decide) ?_
  refine lv_iadd hx hb dL_law_194 ?_
  refine va_sld hx hb hX hbl hbA hS h_1 dL_law_195 ?_
  refine lv_aload_n hx hb dL_law_196 rfl (lv_at hl 0 rfl) ?_
  refine lv_iload_n hx hb dL_law_197 rfl (lv_at hl 3 rfl) ?_
  refine lv_iconst (v := 2) hx hb dL_law_198 (by decide) ?_
  refine lv_iadd hx hb dL_law_199 ?_
  refine va_sld hx hb hX hbl hbA hS h_2 dL_law_200 ?_
  refine gm_ci (gm_call (As := [.int (xs (x3 + 1).toNatClampNeg), .int (xs (x3 + 2).toNatClampNeg)]) (rest := [.int P.1]) (ci := 9) (q := (RX9, TX9, 15)) ⟨hx, hb, hml, hown, hts⟩ hK hc9 (cwV 2 hts gL_law_X9_build rfl rfl rfl (by decide +kernel) ⟨Nat.le_of_ble_eq_true rfl, Nat.le_of_ble_eq_true rfl⟩) (MR.mk0 hM) rfl hM rfl hl.1 rfl (Nat.le_of_ble_eq_true rfl) dL_law_201 hc0 hs0) hS lw_aM (fun H locs hM _ hfr hS => ?_)
  have hR := lw_kT hR hfr (fun _ h => h)
  refine lv_icmp_eq (tgt := 1074) hx hb dL_law_204 (by decide) (fun z => ?_) (fun z => ?_)
  · exact kk P.2 P2.2 H locs ⟨hR, hM, hs2, hS⟩
  · exact absurd hs1 z
set_option maxHeartbeats 4000000 in
set_option maxRecDepth 100000 in
/-- addStation -/
theorem lw_c1 {p : Program} {l : Launch} {e : Env} {s : State} {m : MethodId} {below : List Frame} {meth : Method} {c : Code} {D : va_G} {cy : Nat → ClassId} {b L : Nat} {xs : Nat → Int32} {Q : State → Prop} {cells slots : Nat} (C : lw_C D cy p s m c b L xs) {x3 : Int32} (h_1 : vp_in (x3 + 1) L) (h_2 : vp_in (x3 + 2) L) (h_3 : vp_in (x3 + 3) L) (h_4 : vp_in (x3 + 4) L) (h_5 : vp_in (x3 + 5) L) {X Y : gM} {H : Heap} {locs : List Loc} {ls : Array Slot} (hI : lw_I D cy s X Y H locs) (hl : lv_has ls 4 [(0, .ref b), (1, .ref s.heap.size), (2, .ref (s.heap.size + 872)), (3, .int x3)]) (hc0 : cells ≤ 600000) (hs0 : slots ≤ 7302250)
    (kk : ∀ (X Y : gM) (H : Heap) (locs : List Loc), lw_I D cy s X Y H locs → W p l e room_1 s m #[Value.ref b] below meth c H locs cells slots Q (F0 m 1074 ls [])) : W p l e room_1 s m #[Value.ref b] below meth c H locs cells slots Q (F0 m 209 ls []) := by
  obtain ⟨hx, hb, hml, hown, hts, hX, hbl, hK⟩ := C
  obtain ⟨hR, hM, hrel, hS⟩ := hI
  have hbA : ¬ CA s.heap.size b := Nat.not_le.mpr hbl
  have hc8 := c_X8_addStation l D cy s.heap.size X (xs (x3 + 1).toNatClampNeg) (xs (x3 + 2).toNatClampNeg) hrel.2.2.1.ok
  have hs := s_addStation hrel (xs (x3 + 1).toNatClampNeg) (xs (x3 + 2).toNatClampNeg)
  have hs1 := hs.1
  have hs2 := hs.2.1
  have hc9 := c_X9_addStation l D cy (s.heap.size + 872) Y (xs (x3 + 1).toNatClampNeg) (xs (x3 + 2).toNatClampNeg) hs.2.2
  clear hs
  generalize p_X8_addStation X (xs (x3 + 1).toNatClampNeg) (xs (x3 + 2).toNatClampNeg) = P at hs1 hs2 hc8
  generalize p_X9_addStation Y (xs (x3 + 1).toNatClampNeg) (xs (x3 + 2).toNatClampNeg) = P2 at hs1 hs2 hc9
  refine lv_aload_n hx hb dL_law_209 rfl (lv_at hl 1 rfl) ?_
  refine lv_aload_n hx hb dL_law_210 rfl (lv_at hl 0 rfl) ?_
  refine lv_iload_n hx hb dL_law_211 rfl (lv_at hl 3 rfl) ?_
  refine lv_iconst (v := 1) hx hb dL_law_212 (by decide) ?_
  refine lv_iadd hx hb dL_law_213 ?_
  refine va_sld hx hb hX hbl hbA hS h_1 dL_law_214 ?_
  refine lv_aload_n hx hb dL_law_215 rfl (lv_at hl 0 rfl) ?_
  refine lv_iload_n hx hb dL_law_216 rfl (lv_at hl 3 rfl) ?_
  refine lv_iconst (v := 2) hx hb dL_law_217 (by decide) ?_
  refine lv_iadd hx hb dL_law_218 ?_
  refine va_sld hx hb hX hbl hbA hS h_2 dL_law_219 ?_
  refine gm_ci (gm_call (As := [.int (xs (x3 + 1).toNatClampNeg), .int (xs (x3 + 2).toNatClampNeg)]) (rest := []) (ci := 8) (q := (RX8, TX8, 8)) ⟨hx, hb, hml, hown, hts⟩ hK hc8 (cwV 2 hts gL_law_X8_addStation rfl rfl rfl (by decide +kernel) ⟨Nat.le_of_ble_eq_true rfl, Nat.le_of_ble_eq_true rfl⟩) (TR.mk0 hR) rfl hR rfl hl.1 rfl (Nat.le_of_ble_eq_true rfl) dL_law_220 hc0 hs0) hS (fun q h => gA_CA q h) (fun H locs hR _ hfr hS => ?_)
  have hM := lw_kM hM hfr (fun _ h => h)
  refine lv_aload_n hx hb dL_law_223 rfl (lv_at hl 2 rfl) ?_
  refine lv_aload_n hx hb dL_law_224 rfl (lv_at hl 0 rfl) ?_
  refine lv_iload_n hx hb dL_law_225 rfl (lv_at hl 3 rfl) ?_
  refine lv_iconst (v := 1) hx hb dL_law_226 (by decide) ?_
  refine lv_iadd hx hb dL_law_227 ?_
  refine va_sld hx hb hX hbl hbA hS h_1 dL_law_228 ?_
  refine lv_aload_n hx hb dL_law_229 rfl (lv_at hl 0 rfl) ?_
  refine lv_iload_n hx hb dL_law_230 rfl (lv_at hl 3 rfl) ?_
  refine lv_iconst (v := 2) hx hb dL_law_231 (by decide) ?_
  refine lv_iadd hx hb dL_law_232 ?_
  refine va_sld hx hb hX hbl hbA hS h_2 dL_law_233 ?_
  refine gm_ci (gm_call (As := [.int (xs (x3 + 1).toNatClampNeg), .int (xs (x3 + 2).toNatClampNeg)]) (rest := [.int P.1]) (ci := 9) (q := (RX9, TX9, 15)) ⟨hx, hb, hml, hown, hts⟩ hK hc9 (cwV 2 hts gL_law_X9_addStation rfl rfl rfl (by decide +kernel) ⟨Nat.le_of_ble_eq_true rfl, Nat.le_of_ble_eq_true rfl⟩) (MR.mk0 hM) rfl hM rfl hl.1 rfl (Nat.le_of_ble_eq_true rfl) dL_law_234 hc0 hs0) hS lw_aM (fun H locs hM _ hfr hS => ?_)
  have hR := lw_kT hR hfr (fun _ h => h)
  refine lv_icmp_eq (tgt := 1074) hx hb dL_law_237 (by decide) (fun z => ?_) (fun z => ?_)
  · exact kk P.2 P2.2 H locs ⟨hR, hM, hs2, hS⟩
  · exact absurd hs1 z
set_option maxHeartbeats 4000000 in
set_option maxRecDepth 100000 in
/-- setHeat -/
theorem lw_c2 {p : Program} {l : Launch} {e : Env} {s : State} {m : MethodId} {below : List Frame} {meth : Method} {c : Code} {D : va_G} {cy : Nat → ClassId} {b L : Nat} {xs : Nat → Int32} {Q : State → Prop} {cells slots : Nat} (C : lw_C D cy p s m c b L xs) {x3 : Int32} (h_1 : vp_in (x3 + 1) L) (h_2 : vp_in (x3 + 2) L) (h_3 : vp_in (x3 + 3) L) (h_4 : vp_in (x3 + 4) L) (h_5 : vp_in (x3 + 5) L) {X Y : gM} {H : Heap} {locs : List Loc} {ls : Array Slot} (hI : lw_I D cy s X Y H locs) (hl : lv_has ls 4 [(0, .ref b), (1, .ref s.heap.size), (2, .ref (s.heap.size + 872)), (3, .int x3)]) (hc0 : cells ≤ 600000) (hs0 : slots ≤ 7302250)
    (kk : ∀ (X Y : gM) (H : Heap) (locs : List Loc), lw_I D cy s X Y H locs → W p l e room_1 s m #[Value.ref b] below meth c H locs cells slots Q (F0 m 1074 ls [])) : W p l e room_1 s m #[Value.ref b] below meth c H locs cells slots Q (F0 m 242 ls []) := by
  obtain ⟨hx, hb, hml, hown, hts, hX, hbl, hK⟩ := C
  obtain ⟨hR, hM, hrel, hS⟩ := hI
  have hbA : ¬ CA s.heap.size b := Nat.not_le.mpr hbl
  have hc8 := c_X8_setHeat l D cy s.heap.size X (xs (x3 + 1).toNatClampNeg) (xs (x3 + 2).toNatClampNeg) hrel.2.2.1.ok
  have hs := s_setHeat hrel (xs (x3 + 1).toNatClampNeg) (xs (x3 + 2).toNatClampNeg)
  have hs1 := hs.1
  have hs2 := hs.2.1
  have hc9 := c_X9_setHeat l D cy (s.heap.size + 872) Y (xs (x3 + 1).toNatClampNeg) (xs (x3 + 2).toNatClampNeg) hs.2.2
  clear hs
  generalize p_X8_setHeat X (xs (x3 + 1).toNatClampNeg) (xs (x3 + 2).toNatClampNeg) = P at hs1 hs2 hc8
  generalize p_X9_setHeat Y (xs (x3 + 1).toNatClampNeg) (xs (x3 + 2).toNatClampNeg) = P2 at hs1 hs2 hc9
  refine lv_aload_n hx hb dL_law_242 rfl (lv_at hl 1 rfl) ?_
  refine lv_aload_n hx hb dL_law_243 rfl (lv_at hl 0 rfl) ?_
  refine lv_iload_n hx hb dL_law_244 rfl (lv_at hl 3 rfl) ?_
  refine lv_iconst (v := 1) hx hb dL_law_245 (by decide) ?_
  refine lv_iadd hx hb dL_law_246 ?_
  refine va_sld hx hb hX hbl hbA hS h_1 dL_law_247 ?_
  refine lv_aload_n hx hb dL_law_248 rfl (lv_at hl 0 rfl) ?_
  refine lv_iload_n hx hb dL_law_249 rfl (lv_at hl 3 rfl) ?_
  refine lv_iconst (v := 2) hx hb dL_law_250 (by decide) ?_
  refine lv_iadd hx hb dL_law_251 ?_
  refine va_sld hx hb hX hbl hbA hS h_2 dL_law_252 ?_
  refine gm_ci (gm_call (As := [.int (xs (x3 + 1).toNatClampNeg), .int (xs (x3 + 2).toNatClampNeg)]) (rest := []) (ci := 8) (q := (RX8, TX8, 8)) ⟨hx, hb, hml, hown, hts⟩ hK hc8 (cwV 2 hts gL_law_X8_setHeat rfl rfl rfl (by decide +kernel) ⟨Nat.le_of_ble_eq_true rfl, Nat.le_of_ble_eq_true rfl⟩) (TR.mk0 hR) rfl hR rfl hl.1 rfl (Nat.le_of_ble_eq_true rfl) dL_law_253 hc0 hs0) hS (fun q h => gA_CA q h) (fun H locs hR _ hfr hS => ?_)
  have hM := lw_kM hM hfr (fun _ h => h)
  refine lv_aload_n hx hb dL_law_256 rfl (lv_at hl 2 rfl) ?_
  refine lv_aload_n hx hb dL_law_257 rfl (lv_at hl 0 rfl) ?_
  refine lv_iload_n hx hb dL_law_258 rfl (lv_at hl 3 rfl) ?_
  refine lv_iconst (v := 1) hx hb dL_law_259 (by decide) ?_
  refine lv_iadd hx hb dL_law_260 ?_
  refine va_sld hx hb hX hbl hbA hS h_1 dL_law_261 ?_
  refine lv_aload_n hx hb dL_law_262 rfl (lv_at hl 0 rfl) ?_
  refine lv_iload_n hx hb dL_law_263 rfl (lv_at hl 3 rfl) ?_
  refine lv_iconst (v := 2) hx hb dL_law_264 (by decide) ?_
  refine lv_iadd hx hb dL_law_265 ?_
  refine va_sld hx hb hX hbl hbA hS h_2 dL_law_266 ?_
  refine gm_ci (gm_call (As := [.int (xs (x3 + 1).toNatClampNeg), .int (xs (x3 + 2).toNatClampNeg)]) (rest := [.int P.1]) (ci := 9) (q := (RX9, TX9, 15)) ⟨hx, hb, hml, hown, hts⟩ hK hc9 (cwV 2 hts gL_law_X9_setHeat rfl rfl rfl (by decide +kernel) ⟨Nat.le_of_ble_eq_true rfl, Nat.le_of_ble_eq_true rfl⟩) (MR.mk0 hM) rfl hM rfl hl.1 rfl (Nat.le_of_ble_eq_true rfl) dL_law_267 hc0 hs0) hS lw_aM (fun H locs hM _ hfr hS => ?_)
  have hR := lw_kT hR hfr (fun _ h => h)
  refine lv_icmp_eq (tgt := 1074) hx hb dL_law_270 (by decide) (fun z => ?_) (fun z => ?_)
  · exact kk P.2 P2.2 H locs ⟨hR, hM, hs2, hS⟩
  · exact absurd hs1 z
set_option maxHeartbeats 4000000 in
set_option maxRecDepth 100000 in
/-- setFare -/
theorem lw_c3 {p : Program} {l : Launch} {e : Env} {s : State} {m : MethodId} {below : List Frame} {meth : Method} {c : Code} {D : va_G} {cy : Nat → ClassId} {b L : Nat} {xs : Nat → Int32} {Q : State → Prop} {cells slots : Nat} (C : lw_C D cy p s m c b L xs) {x3 : Int32} (h_1 : vp_in (x3 + 1) L) (h_2 : vp_in (x3 + 2) L) (h_3 : vp_in (x3 + 3) L) (h_4 : vp_in (x3 + 4) L) (h_5 : vp_in (x3 + 5) L) {X Y : gM} {H : Heap} {locs : List Loc} {ls : Array Slot} (hI : lw_I D cy s X Y H locs) (hl : lv_has ls 4 [(0, .ref b), (1, .ref s.heap.size), (2, .ref (s.heap.size + 872)), (3, .int x3)]) (hc0 : cells ≤ 600000) (hs0 : slots ≤ 7302250)
    (kk : ∀ (X Y : gM) (H : Heap) (locs : List Loc), lw_I D cy s X Y H locs → W p l e room_1 s m #[Value.ref b] below meth c H locs cells slots Q (F0 m 1074 ls [])) : W p l e room_1 s m #[Value.ref b] below meth c H locs cells slots Q (F0 m 275 ls []) := by
  obtain ⟨hx, hb, hml, hown, hts, hX, hbl, hK⟩ := C
  obtain ⟨hR, hM, hrel, hS⟩ := hI
  have hbA : ¬ CA s.heap.size b := Nat.not_le.mpr hbl
  have hc8 := c_X8_setFare l D cy s.heap.size X (xs (x3 + 1).toNatClampNeg) hrel.2.2.1.ok
  have hs := s_setFare hrel (xs (x3 + 1).toNatClampNeg)
  have hs1 := hs.1
  have hs2 := hs.2.1
  have hc9 := c_X9_setFare l D cy (s.heap.size + 872) Y (xs (x3 + 1).toNatClampNeg) hs.2.2
  clear hs
  generalize p_X8_setFare X (xs (x3 + 1).toNatClampNeg) = P at hs1 hs2 hc8
  generalize p_X9_setFare Y (xs (x3 + 1).toNatClampNeg) = P2 at hs1 hs2 hc9
  refine lv_aload_n hx hb dL_law_275 rfl (lv_at hl 1 rfl) ?_
  refine lv_aload_n hx hb dL_law_276 rfl (lv_at hl 0 rfl) ?_
  refine lv_iload_n hx hb dL_law_277 rfl (lv_at hl 3 rfl) ?_
  refine lv_iconst (v := 1) hx hb dL_law_278 (by decide) ?_
  refine lv_iadd hx hb dL_law_279 ?_
  refine va_sld hx hb hX hbl hbA hS h_1 dL_law_280 ?_
  refine gm_ci (gm_call (As := [.int (xs (x3 + 1).toNatClampNeg)]) (rest := []) (ci := 8) (q := (RX8, TX8, 8)) ⟨hx, hb, hml, hown, hts⟩ hK hc8 (cwV 1 hts gL_law_X8_setFare rfl rfl rfl (by decide +kernel) ⟨Nat.le_of_ble_eq_true rfl, Nat.le_of_ble_eq_true rfl⟩) (TR.mk0 hR) rfl hR rfl hl.1 rfl (Nat.le_of_ble_eq_true rfl) dL_law_281 hc0 hs0) hS (fun q h => gA_CA q h) (fun H locs hR _ hfr hS => ?_)
  have hM := lw_kM hM hfr (fun _ h => h)
  refine lv_aload_n hx hb dL_law_284 rfl (lv_at hl 2 rfl) ?_
  refine lv_aload_n hx hb dL_law_285 rfl (lv_at hl 0 rfl) ?_
  refine lv_iload_n hx hb dL_law_286 rfl (lv_at hl 3 rfl) ?_
  refine lv_iconst (v := 1) hx hb dL_law_287 (by decide) ?_
  refine lv_iadd hx hb dL_law_288 ?_
  refine va_sld hx hb hX hbl hbA hS h_1 dL_law_289 ?_
  refine gm_ci (gm_call (As := [.int (xs (x3 + 1).toNatClampNeg)]) (rest := [.int P.1]) (ci := 9) (q := (RX9, TX9, 15)) ⟨hx, hb, hml, hown, hts⟩ hK hc9 (cwV 1 hts gL_law_X9_setFare rfl rfl rfl (by decide +kernel) ⟨Nat.le_of_ble_eq_true rfl, Nat.le_of_ble_eq_true rfl⟩) (MR.mk0 hM) rfl hM rfl hl.1 rfl (Nat.le_of_ble_eq_true rfl) dL_law_290 hc0 hs0) hS lw_aM (fun H locs hM _ hfr hS => ?_)
  have hR := lw_kT hR hfr (fun _ h => h)
  refine lv_icmp_eq (tgt := 1074) hx hb dL_law_293 (by decide) (fun z => ?_) (fun z => ?_)
  · exact kk P.2 P2.2 H locs ⟨hR, hM, hs2, hS⟩
  · exact absurd hs1 z
set_option maxHeartbeats 4000000 in
set_option maxRecDepth 100000 in
/-- setPatience -/
theorem lw_c4 {p : Program} {l : Launch} {e : Env} {s : State} {m : MethodId} {below : List Frame} {meth : Method} {c : Code} {D : va_G} {cy : Nat → ClassId} {b L : Nat} {xs : Nat → Int32} {Q : State → Prop} {cells slots : Nat} (C : lw_C D cy p s m c b L xs) {x3 : Int32} (h_1 : vp_in (x3 + 1) L) (h_2 : vp_in (x3 + 2) L) (h_3 : vp_in (x3 + 3) L) (h_4 : vp_in (x3 + 4) L) (h_5 : vp_in (x3 + 5) L) {X Y : gM} {H : Heap} {locs : List Loc} {ls : Array Slot} (hI : lw_I D cy s X Y H locs) (hl : lv_has ls 4 [(0, .ref b), (1, .ref s.heap.size), (2, .ref (s.heap.size + 872)), (3, .int x3)]) (hc0 : cells ≤ 600000) (hs0 : slots ≤ 7302250)
    (kk : ∀ (X Y : gM) (H : Heap) (locs : List Loc), lw_I D cy s X Y H locs → W p l e room_1 s m #[Value.ref b] below meth c H locs cells slots Q (F0 m 1074 ls [])) : W p l e room_1 s m #[Value.ref b] below meth c H locs cells slots Q (F0 m 298 ls []) := by
  obtain ⟨hx, hb, hml, hown, hts, hX, hbl, hK⟩ := C
  obtain ⟨hR, hM, hrel, hS⟩ := hI
  have hbA : ¬ CA s.heap.size b := Nat.not_le.mpr hbl
  have hc8 := c_X8_setPatience l D cy s.heap.size X (xs (x3 + 1).toNatClampNeg) hrel.2.2.1.ok
  have hs := s_setPatience hrel (xs (x3 + 1).toNatClampNeg)
  have hs1 := hs.1
  have hs2 := hs.2.1
  have hc9 := c_X9_setPatience l D cy (s.heap.size + 872) Y (xs (x3 + 1).toNatClampNeg) hs.2.2
  clear hs
  generalize p_X8_setPatience X (xs (x3 + 1).toNatClampNeg) = P at hs1 hs2 hc8
  generalize p_X9_setPatience Y (xs (x3 + 1).toNatClampNeg) = P2 at hs1 hs2 hc9
  refine lv_aload_n hx hb dL_law_298 rfl (lv_at hl 1 rfl) ?_
  refine lv_aload_n hx hb dL_law_299 rfl (lv_at hl 0 rfl) ?_
  refine lv_iload_n hx hb dL_law_300 rfl (lv_at hl 3 rfl) ?_
  refine lv_iconst (v := 1) hx hb dL_law_301 (by decide) ?_
  refine lv_iadd hx hb dL_law_302 ?_
  refine va_sld hx hb hX hbl hbA hS h_1 dL_law_303 ?_
  refine gm_ci (gm_call (As := [.int (xs (x3 + 1).toNatClampNeg)]) (rest := []) (ci := 8) (q := (RX8, TX8, 8)) ⟨hx, hb, hml, hown, hts⟩ hK hc8 (cwV 1 hts gL_law_X8_setPatience rfl rfl rfl (by decide +kernel) ⟨Nat.le_of_ble_eq_true rfl, Nat.le_of_ble_eq_true rfl⟩) (TR.mk0 hR) rfl hR rfl hl.1 rfl (Nat.le_of_ble_eq_true rfl) dL_law_304 hc0 hs0) hS (fun q h => gA_CA q h) (fun H locs hR _ hfr hS => ?_)
  have hM := lw_kM hM hfr (fun _ h => h)
  refine lv_aload_n hx hb dL_law_307 rfl (lv_at hl 2 rfl) ?_
  refine lv_aload_n hx hb dL_law_308 rfl (lv_at hl 0 rfl) ?_
  refine lv_iload_n hx hb dL_law_309 rfl (lv_at hl 3 rfl) ?_
  refine lv_iconst (v := 1) hx hb dL_law_310 (by decide) ?_
  refine lv_iadd hx hb dL_law_311 ?_
  refine va_sld hx hb hX hbl hbA hS h_1 dL_law_312 ?_
  refine gm_ci (gm_call (As := [.int (xs (x3 + 1).toNatClampNeg)]) (rest := [.int P.1]) (ci := 9) (q := (RX9, TX9, 15)) ⟨hx, hb, hml, hown, hts⟩ hK hc9 (cwV 1 hts gL_law_X9_setPatience rfl rfl rfl (by decide +kernel) ⟨Nat.le_of_ble_eq_true rfl, Nat.le_of_ble_eq_true rfl⟩) (MR.mk0 hM) rfl hM rfl hl.1 rfl (Nat.le_of_ble_eq_true rfl) dL_law_313 hc0 hs0) hS lw_aM (fun H locs hM _ hfr hS => ?_)
  have hR := lw_kT hR hfr (fun _ h => h)
  refine lv_icmp_eq (tgt := 1074) hx hb dL_law_316 (by decide) (fun z => ?_) (fun z => ?_)
  · exact kk P.2 P2.2 H locs ⟨hR, hM, hs2, hS⟩
  · exact absurd hs1 z
set_option maxHeartbeats 4000000 in
set_option maxRecDepth 100000 in
/-- drain -/
theorem lw_c5 {p : Program} {l : Launch} {e : Env} {s : State} {m : MethodId} {below : List Frame} {meth : Method} {c : Code} {D : va_G} {cy : Nat → ClassId} {b L : Nat} {xs : Nat → Int32} {Q : State → Prop} {cells slots : Nat} (C : lw_C D cy p s m c b L xs) {x3 : Int32} (h_1 : vp_in (x3 + 1) L) (h_2 : vp_in (x3 + 2) L) (h_3 : vp_in (x3 + 3) L) (h_4 : vp_in (x3 + 4) L) (h_5 : vp_in (x3 + 5) L) {X Y : gM} {H : Heap} {locs : List Loc} {ls : Array Slot} (hI : lw_I D cy s X Y H locs) (hl : lv_has ls 4 [(0, .ref b), (1, .ref s.heap.size), (2, .ref (s.heap.size + 872)), (3, .int x3)]) (hc0 : cells ≤ 600000) (hs0 : slots ≤ 7302250)
    (kk : ∀ (X Y : gM) (H : Heap) (locs : List Loc), lw_I D cy s X Y H locs → W p l e room_1 s m #[Value.ref b] below meth c H locs cells slots Q (F0 m 1074 ls [])) : W p l e room_1 s m #[Value.ref b] below meth c H locs cells slots Q (F0 m 321 ls []) := by
  obtain ⟨hx, hb, hml, hown, hts, hX, hbl, hK⟩ := C
  obtain ⟨hR, hM, hrel, hS⟩ := hI
  have hbA : ¬ CA s.heap.size b := Nat.not_le.mpr hbl
  have hc8 := c_X8_drain l D cy s.heap.size X (xs (x3 + 1).toNatClampNeg) hrel.2.2.1.ok
  have hs := s_drain hrel (xs (x3 + 1).toNatClampNeg)
  have hs1 := hs.1
  have hs2 := hs.2.1
  have hc9 := c_X9_drain l D cy (s.heap.size + 872) Y (xs (x3 + 1).toNatClampNeg) hs.2.2
  clear hs
  generalize p_X8_drain X (xs (x3 + 1).toNatClampNeg) = P at hs1 hs2 hc8
  generalize p_X9_drain Y (xs (x3 + 1).toNatClampNeg) = P2 at hs1 hs2 hc9
  refine lv_aload_n hx hb dL_law_321 rfl (lv_at hl 1 rfl) ?_
  refine lv_aload_n hx hb dL_law_322 rfl (lv_at hl 0 rfl) ?_
  refine lv_iload_n hx hb dL_law_323 rfl (lv_at hl 3 rfl) ?_
  refine lv_iconst (v := 1) hx hb dL_law_324 (by decide) ?_
  refine lv_iadd hx hb dL_law_325 ?_
  refine va_sld hx hb hX hbl hbA hS h_1 dL_law_326 ?_
  refine gm_ci (gm_call (As := [.int (xs (x3 + 1).toNatClampNeg)]) (rest := []) (ci := 8) (q := (RX8, TX8, 8)) ⟨hx, hb, hml, hown, hts⟩ hK hc8 (cwV 1 hts gL_law_X8_drain rfl rfl rfl (by decide +kernel) ⟨Nat.le_of_ble_eq_true rfl, Nat.le_of_ble_eq_true rfl⟩) (TR.mk0 hR) rfl hR rfl hl.1 rfl (Nat.le_of_ble_eq_true rfl) dL_law_327 hc0 hs0) hS (fun q h => gA_CA q h) (fun H locs hR _ hfr hS => ?_)
  have hM := lw_kM hM hfr (fun _ h => h)
  refine lv_aload_n hx hb dL_law_330 rfl (lv_at hl 2 rfl) ?_
  refine lv_aload_n hx hb dL_law_331 rfl (lv_at hl 0 rfl) ?_
  refine lv_iload_n hx hb dL_law_332 rfl (lv_at hl 3 rfl) ?_
  refine lv_iconst (v := 1) hx hb dL_law_333 (by decide) ?_
  refine lv_iadd hx hb dL_law_334 ?_
  refine va_sld hx hb hX hbl hbA hS h_1 dL_law_335 ?_
  refine gm_ci (gm_call (As := [.int (xs (x3 + 1).toNatClampNeg)]) (rest := [.int P.1]) (ci := 9) (q := (RX9, TX9, 15)) ⟨hx, hb, hml, hown, hts⟩ hK hc9 (cwV 1 hts gL_law_X9_drain rfl rfl rfl (by decide +kernel) ⟨Nat.le_of_ble_eq_true rfl, Nat.le_of_ble_eq_true rfl⟩) (MR.mk0 hM) rfl hM rfl hl.1 rfl (Nat.le_of_ble_eq_true rfl) dL_law_336 hc0 hs0) hS lw_aM (fun H locs hM _ hfr hS => ?_)
  have hR := lw_kT hR hfr (fun _ h => h)
  refine lv_icmp_eq (tgt := 1074) hx hb dL_law_339 (by decide) (fun z => ?_) (fun z => ?_)
  · exact kk P.2 P2.2 H locs ⟨hR, hM, hs2, hS⟩
  · exact absurd hs1 z
set_option maxHeartbeats 4000000 in
set_option maxRecDepth 100000 in
/-- book -/
theorem lw_c6 {p : Program} {l : Launch} {e : Env} {s : State} {m : MethodId} {below : List Frame} {meth : Method} {c : Code} {D : va_G} {cy : Nat → ClassId} {b L : Nat} {xs : Nat → Int32} {Q : State → Prop} {cells slots : Nat} (C : lw_C D cy p s m c b L xs) {x3 : Int32} (h_1 : vp_in (x3 + 1) L) (h_2 : vp_in (x3 + 2) L) (h_3 : vp_in (x3 + 3) L) (h_4 : vp_in (x3 + 4) L) (h_5 : vp_in (x3 + 5) L) {X Y : gM} {H : Heap} {locs : List Loc} {ls : Array Slot} (hI : lw_I D cy s X Y H locs) (hl : lv_has ls 4 [(0, .ref b), (1, .ref s.heap.size), (2, .ref (s.heap.size + 872)), (3, .int x3)]) (hc0 : cells ≤ 600000) (hs0 : slots ≤ 7302250)
    (kk : ∀ (X Y : gM) (H : Heap) (locs : List Loc), lw_I D cy s X Y H locs → W p l e room_1 s m #[Value.ref b] below meth c H locs cells slots Q (F0 m 1074 ls [])) : W p l e room_1 s m #[Value.ref b] below meth c H locs cells slots Q (F0 m 344 ls []) := by
  obtain ⟨hx, hb, hml, hown, hts, hX, hbl, hK⟩ := C
  obtain ⟨hR, hM, hrel, hS⟩ := hI
  have hbA : ¬ CA s.heap.size b := Nat.not_le.mpr hbl
  have hc8 := c_X8_book l D cy s.heap.size X (xs (x3 + 1).toNatClampNeg) (xs (x3 + 2).toNatClampNeg) (xs (x3 + 3).toNatClampNeg) (xs (x3 + 4).toNatClampNeg) (xs (x3 + 5).toNatClampNeg) hrel.2.2.1.ok
  have hs := s_book hrel (xs (x3 + 1).toNatClampNeg) (xs (x3 + 2).toNatClampNeg) (xs (x3 + 3).toNatClampNeg) (xs (x3 + 4).toNatClampNeg) (xs (x3 + 5).toNatClampNeg)
  have hs1 := hs.1
  have hs2 := hs.2.1
  have hc9 := c_X9_book l D cy (s.heap.size + 872) Y (xs (x3 + 1).toNatClampNeg) (xs (x3 + 2).toNatClampNeg) (xs (x3 + 3).toNatClampNeg) (xs (x3 + 4).toNatClampNeg) (xs (x3 + 5).toNatClampNeg) hs.2.2
  clear hs
  generalize p_X8_book X (xs (x3 + 1).toNatClampNeg) (xs (x3 + 2).toNatClampNeg) (xs (x3 + 3).toNatClampNeg) (xs (x3 + 4).toNatClampNeg) (xs (x3 + 5).toNatClampNeg) = P at hs1 hs2 hc8
  generalize p_X9_book Y (xs (x3 + 1).toNatClampNeg) (xs (x3 + 2).toNatClampNeg) (xs (x3 + 3).toNatClampNeg) (xs (x3 + 4).toNatClampNeg) (xs (x3 + 5).toNatClampNeg) = P2 at hs1 hs2 hc9
  refine lv_aload_n hx hb dL_law_344 rfl (lv_at hl 1 rfl) ?_
  refine lv_aload_n hx hb dL_law_345 rfl (lv_at hl 0 rfl) ?_
  refine lv_iload_n hx hb dL_law_346 rfl (lv_at hl 3 rfl) ?_
  refine lv_iconst (v := 1) hx hb dL_law_347 (by decide) ?_
  refine lv_iadd hx hb dL_law_348 ?_
  refine va_sld hx hb hX hbl hbA hS h_1 dL_law_349 ?_
  refine lv_aload_n hx hb dL_law_350 rfl (lv_at hl 0 rfl) ?_
  refine lv_iload_n hx hb dL_law_351 rfl (lv_at hl 3 rfl) ?_
  refine lv_iconst (v := 2) hx hb dL_law_352 (by decide) ?_
  refine lv_iadd hx hb dL_law_353 ?_
  refine va_sld hx hb hX hbl hbA hS h_2 dL_law_354 ?_
  refine lv_aload_n hx hb dL_law_355 rfl (lv_at hl 0 rfl) ?_
  refine lv_iload_n hx hb dL_law_356 rfl (lv_at hl 3 rfl) ?_
  refine lv_iconst (v := 3) hx hb dL_law_357 (by decide) ?_
  refine lv_iadd hx hb dL_law_358 ?_
  refine va_sld hx hb hX hbl hbA hS h_3 dL_law_359 ?_
  refine lv_aload_n hx hb dL_law_360 rfl (lv_at hl 0 rfl) ?_
  refine lv_iload_n hx hb dL_law_361 rfl (lv_at hl 3 rfl) ?_
  refine lv_iconst (v := 4) hx hb dL_law_362 (by decide) ?_
  refine lv_iadd hx hb dL_law_363 ?_
  refine va_sld hx hb hX hbl hbA hS h_4 dL_law_364 ?_
  refine lv_aload_n hx hb dL_law_365 rfl (lv_at hl 0 rfl) ?_
  refine lv_iload_n hx hb dL_law_366 rfl (lv_at hl 3 rfl) ?_
  refine lv_iconst (v := 5) hx hb dL_law_367 (by decide) ?_
  refine lv_iadd hx hb dL_law_368 ?_
  refine va_sld hx hb hX hbl hbA hS h_5 dL_law_369 ?_
  refine gm_ci (gm_call (As := [.int (xs (x3 + 1).toNatClampNeg), .int (xs (x3 + 2).toNatClampNeg), .int (xs (x3 + 3).toNatClampNeg), .int (xs (x3 + 4).toNatClampNeg), .int (xs (x3 + 5).toNatClampNeg)]) (rest := []) (ci := 8) (q := (RX8, TX8, 8)) ⟨hx, hb, hml, hown, hts⟩ hK hc8 (cwV 5 hts gL_law_X8_book rfl rfl rfl (by decide +kernel) ⟨Nat.le_of_ble_eq_true rfl, Nat.le_of_ble_eq_true rfl⟩) (TR.mk0 hR) rfl hR rfl hl.1 rfl (Nat.le_of_ble_eq_true rfl) dL_law_370 hc0 hs0) hS (fun q h => gA_CA q h) (fun H locs hR _ hfr hS => ?_)
  have hM := lw_kM hM hfr (fun _ h => h)
  refine lv_aload_n hx hb dL_law_373 rfl (lv_at hl 2 rfl) ?_
  refine lv_aload_n hx hb dL_law_374 rfl (lv_at hl 0 rfl) ?_
  refine lv_iload_n hx hb dL_law_375 rfl (lv_at hl 3 rfl) ?_
  refine lv_iconst (v := 1) hx hb dL_law_376 (by decide) ?_
  refine lv_iadd hx hb dL_law_377 ?_
  refine va_sld hx hb hX hbl hbA hS h_1 dL_law_378 ?_
  refine lv_aload_n hx hb dL_law_379 rfl (lv_at hl 0 rfl) ?_
  refine lv_iload_n hx hb dL_law_380 rfl (lv_at hl 3 rfl) ?_
  refine lv_iconst (v := 2) hx hb dL_law_381 (by decide) ?_
  refine lv_iadd hx hb dL_law_382 ?_
  refine va_sld hx hb hX hbl hbA hS h_2 dL_law_383 ?_
  refine lv_aload_n hx hb dL_law_384 rfl (lv_at hl 0 rfl) ?_
  refine lv_iload_n hx hb dL_law_385 rfl (lv_at hl 3 rfl) ?_
  refine lv_iconst (v := 3) hx hb dL_law_386 (by decide) ?_
  refine lv_iadd hx hb dL_law_387 ?_
  refine va_sld hx hb hX hbl hbA hS h_3 dL_law_388 ?_
  refine lv_aload_n hx hb dL_law_389 rfl (lv_at hl 0 rfl) ?_
  refine lv_iload_n hx hb dL_law_390 rfl (lv_at hl 3 rfl) ?_
  refine lv_iconst (v := 4) hx hb dL_law_391 (by decide) ?_
  refine lv_iadd hx hb dL_law_392 ?_
  refine va_sld hx hb hX hbl hbA hS h_4 dL_law_393 ?_
  refine lv_aload_n hx hb dL_law_394 rfl (lv_at hl 0 rfl) ?_
  refine lv_iload_n hx hb dL_law_395 rfl (lv_at hl 3 rfl) ?_
  refine lv_iconst (v := 5) hx hb dL_law_396 (by decide) ?_
  refine lv_iadd hx hb dL_law_397 ?_
  refine va_sld hx hb hX hbl hbA hS h_5 dL_law_398 ?_
  refine gm_ci (gm_call (As := [.int (xs (x3 + 1).toNatClampNeg), .int (xs (x3 + 2).toNatClampNeg), .int (xs (x3 + 3).toNatClampNeg), .int (xs (x3 + 4).toNatClampNeg), .int (xs (x3 + 5).toNatClampNeg)]) (rest := [.int P.1]) (ci := 9) (q := (RX9, TX9, 15)) ⟨hx, hb, hml, hown, hts⟩ hK hc9 (cwV 5 hts gL_law_X9_book rfl rfl rfl (by decide +kernel) ⟨Nat.le_of_ble_eq_true rfl, Nat.le_of_ble_eq_true rfl⟩) (MR.mk0 hM) rfl hM rfl hl.1 rfl (Nat.le_of_ble_eq_true rfl) dL_law_399 hc0 hs0) hS lw_aM (fun H locs hM _ hfr hS => ?_)
  have hR := lw_kT hR hfr (fun _ h => h)
  refine lv_icmp_eq (tgt := 1074) hx hb dL_law_402 (by decide) (fun z => ?_) (fun z => ?_)
  · exact kk P.2 P2.2 H locs ⟨hR, hM, hs2, hS⟩
  · exact absurd hs1 z
set_option maxHeartbeats 4000000 in
set_option maxRecDepth 100000 in
/-- cancel -/
theorem lw_c7 {p : Program} {l : Launch} {e : Env} {s : State} {m : MethodId} {below : List Frame} {meth : Method} {c : Code} {D : va_G} {cy : Nat → ClassId} {b L : Nat} {xs : Nat → Int32} {Q : State → Prop} {cells slots : Nat} (C : lw_C D cy p s m c b L xs) {x3 : Int32} (h_1 : vp_in (x3 + 1) L) (h_2 : vp_in (x3 + 2) L) (h_3 : vp_in (x3 + 3) L) (h_4 : vp_in (x3 + 4) L) (h_5 : vp_in (x3 + 5) L) {X Y : gM} {H : Heap} {locs : List Loc} {ls : Array Slot} (hI : lw_I D cy s X Y H locs) (hl : lv_has ls 4 [(0, .ref b), (1, .ref s.heap.size), (2, .ref (s.heap.size + 872)), (3, .int x3)]) (hc0 : cells ≤ 600000) (hs0 : slots ≤ 7302250)
    (kk : ∀ (X Y : gM) (H : Heap) (locs : List Loc), lw_I D cy s X Y H locs → W p l e room_1 s m #[Value.ref b] below meth c H locs cells slots Q (F0 m 1074 ls [])) : W p l e room_1 s m #[Value.ref b] below meth c H locs cells slots Q (F0 m 407 ls []) := by
  obtain ⟨hx, hb, hml, hown, hts, hX, hbl, hK⟩ := C
  obtain ⟨hR, hM, hrel, hS⟩ := hI
  have hbA : ¬ CA s.heap.size b := Nat.not_le.mpr hbl
  have hc8 := c_X8_cancel l D cy s.heap.size X (xs (x3 + 1).toNatClampNeg) hrel.2.2.1.ok
  have hs := s_cancel hrel (xs (x3 + 1).toNatClampNeg)
  have hs1 := hs.1
  have hs2 := hs.2.1
  have hc9 := c_X9_cancel l D cy (s.heap.size + 872) Y (xs (x3 + 1).toNatClampNeg) hs.2.2
  clear hs
  generalize p_X8_cancel X (xs (x3 + 1).toNatClampNeg) = P at hs1 hs2 hc8
  generalize p_X9_cancel Y (xs (x3 + 1).toNatClampNeg) = P2 at hs1 hs2 hc9
  refine lv_aload_n hx hb dL_law_407 rfl (lv_at hl 1 rfl) ?_
  refine lv_aload_n hx hb dL_law_408 rfl (lv_at hl 0 rfl) ?_
  refine lv_iload_n hx hb dL_law_409 rfl (lv_at hl 3 rfl) ?_
  refine lv_iconst (v := 1) hx hb dL_law_410 (by decide) ?_
  refine lv_iadd hx hb dL_law_411 ?_
  refine va_sld hx hb hX hbl hbA hS h_1 dL_law_412 ?_
  refine gm_ci (gm_call (As := [.int (xs (x3 + 1).toNatClampNeg)]) (rest := []) (ci := 8) (q := (RX8, TX8, 8)) ⟨hx, hb, hml, hown, hts⟩ hK hc8 (cwV 1 hts gL_law_X8_cancel rfl rfl rfl (by decide +kernel) ⟨Nat.le_of_ble_eq_true rfl, Nat.le_of_ble_eq_true rfl⟩) (TR.mk0 hR) rfl hR rfl hl.1 rfl (Nat.le_of_ble_eq_true rfl) dL_law_413 hc0 hs0) hS (fun q h => gA_CA q h) (fun H locs hR _ hfr hS => ?_)
  have hM := lw_kM hM hfr (fun _ h => h)
  refine lv_aload_n hx hb dL_law_416 rfl (lv_at hl 2 rfl) ?_
  refine lv_aload_n hx hb dL_law_417 rfl (lv_at hl 0 rfl) ?_
  refine lv_iload_n hx hb dL_law_418 rfl (lv_at hl 3 rfl) ?_
  refine lv_iconst (v := 1) hx hb dL_law_419 (by decide) ?_
  refine lv_iadd hx hb dL_law_420 ?_
  refine va_sld hx hb hX hbl hbA hS h_1 dL_law_421 ?_
  refine gm_ci (gm_call (As := [.int (xs (x3 + 1).toNatClampNeg)]) (rest := [.int P.1]) (ci := 9) (q := (RX9, TX9, 15)) ⟨hx, hb, hml, hown, hts⟩ hK hc9 (cwV 1 hts gL_law_X9_cancel rfl rfl rfl (by decide +kernel) ⟨Nat.le_of_ble_eq_true rfl, Nat.le_of_ble_eq_true rfl⟩) (MR.mk0 hM) rfl hM rfl hl.1 rfl (Nat.le_of_ble_eq_true rfl) dL_law_422 hc0 hs0) hS lw_aM (fun H locs hM _ hfr hS => ?_)
  have hR := lw_kT hR hfr (fun _ h => h)
  refine lv_icmp_eq (tgt := 1074) hx hb dL_law_425 (by decide) (fun z => ?_) (fun z => ?_)
  · exact kk P.2 P2.2 H locs ⟨hR, hM, hs2, hS⟩
  · exact absurd hs1 z
