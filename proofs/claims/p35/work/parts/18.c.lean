/-! the law, walked: an act, what is kept, what comes back -/
set_option maxHeartbeats 8000000 in
set_option maxRecDepth 100000 in
theorem lw_s1 {p : Program} {l : Launch} {e : Env} {s : State} {m : MethodId} {below : List Frame} {meth : Method} {c : Code} {D : va_G} {cy : Nat → ClassId} {b L : Nat} {xs : Nat → Int32} {Q : State → Prop} {cells slots : Nat} {cA : ClassId} {β γ : Nat} {k : Nat} (C : lw_C D cy p s m c b L xs) (hA : ArrOfT s cA .long) (hc0 : cells ≤ 600000) (hs0 : slots ≤ 7302250) (hL : L ≤ 260) (hk80 : k ≤ 80) {X : gM} {f : Nat → Int64} {x2 : Int32} {z : Int64} {H : Heap} {locs : List Loc} {ls : Array Slot} (hW : lw_I D cy s cA β γ X f H locs) (hl : lv_has ls 15 [(0, .ref b), (1, .ref β), (2, .int x2), (3, .ref γ), (4, .long z), (6, .int (nI k))])
    (kk : ∀ (X1 : gM) (x w v : Int32) (H : Heap) (locs : List Loc) (ls : Array Slot), (v < 0 → X1 0 6 = w) → (∀ z, Kp X z → Kp X1 z) → lw_I D cy s cA β γ X1 f H locs → lv_has ls 15 [(0, .ref b), (1, .ref β), (2, .int x2), (3, .ref γ), (4, .long z), (6, .int (nI k)), (7, .int x), (10, .int w), (11, .int v)] → W p l e room_1 s m #[Value.ref b] below meth c H locs cells slots Q (F0 m 178 ls [])) : W p l e room_1 s m #[Value.ref b] below meth c H locs cells slots Q (F0 m 90 ls []) := by
  obtain ⟨hx, hb, hml, hown, hts, hX, hbl, hK⟩ := C
  have hbA : ¬ CA s.heap.size b := Nat.not_le.mpr hbl
  refine lv_aload_n hx hb dL_law_90 rfl (lv_at hl 0 rfl) ?_
  refine lv_iload hx hb dL_law_91 (lv_at hl 5 rfl) ?_
  refine gm_ci (va_runS (As := [.ref b, .int (nI k)]) (rest := []) ⟨hx, hb, hml, hown, hts⟩ (c_L_take l D cy b L xs k hL hk80) (va_cwS 2 hts ks_take rfl rfl rfl (by decide +kernel) ⟨Nat.le_of_ble_eq_true rfl, Nat.le_of_ble_eq_true rfl⟩) (tkPre k hK (va_X.kept hX (hW.2.1.2.1 b hbl hbA)) (Nat.lt_of_lt_of_le hbl hW.2.1.1)) rfl rfl hl.1 rfl (lv_room (Nat.le_of_ble_eq_true rfl)) dL_law_93 ⟨hc0, hs0⟩) hW.2.1 (fun _ h => h.elim) (fun H locs _ hz9 hfr hS => ?_)
  replace hW := hW.no hz9 hfr hS
  clear hfr hS hz9
  generalize tkV L xs k = x
  refine lv_istore (lv' := [(7, .int x), (0, .ref b), (1, .ref β), (2, .int x2), (3, .ref γ), (4, .long z), (6, .int (nI k))]) hx hb dL_law_96 hl (by decide) rfl (fun ls hl => ?_)
  refine lv_aload_n hx hb dL_law_98 rfl (lv_at hl 2 rfl) ?_
  refine gm_cl (gm_callS (As := [.ref β]) (rest := []) ⟨hx, hb, hml, hown, hts⟩ hK (c_L_state l D cy β X hW.2.2.1.1) (va_cwS 1 hts ks_state rfl rfl rfl (by decide +kernel) ⟨Nat.le_of_ble_eq_true rfl, Nat.le_of_ble_eq_true rfl⟩) hW.1 rfl hl.1 rfl (Nat.le_of_ble_eq_true rfl) dL_law_99 hc0 hs0) hW.2.1 (fun _ h => h.elim) (fun H locs _ hz9 hfr hS => ?_)
  replace hW := hW.no hz9 hfr hS
  clear hfr hS hz9
  refine lv_lstore (lv' := [(8, .long (f_L_state X)), (7, .int x), (0, .ref b), (1, .ref β), (2, .int x2), (3, .ref γ), (4, .long z), (6, .int (nI k))]) hx hb dL_law_102 hl (by decide) rfl (fun ls hl => ?_)
  refine lv_aload_n hx hb dL_law_104 rfl (lv_at hl 3 rfl) ?_
  refine lv_bipush (v := 19) hx hb dL_law_105 (by decide) ?_
  refine gm_ci (gm_call (As := [.int 19]) (rest := []) (ci := 8) (q := (RX8, TX8, 8)) ⟨hx, hb, hml, hown, hts⟩ hK (c_X8_count l D cy β X 19 ) (cwV 1 hts kv_count rfl rfl rfl (by decide +kernel) ⟨Nat.le_of_ble_eq_true rfl, Nat.le_of_ble_eq_true rfl⟩) (TR.mk0 hW.1) rfl hW.1 rfl hl.1 rfl (Nat.le_of_ble_eq_true rfl) dL_law_107 hc0 hs0) hW.2.1 (fun _ h => h.elim) (fun H locs hR hz9 hfr hS => ?_)
  replace hW := hW.no hz9 hfr hS
  clear hR hfr hS hz9
  rw [count19]
  refine lv_istore (lv' := [(10, .int (X 0 6)), (8, .long (f_L_state X)), (7, .int x), (0, .ref b), (1, .ref β), (2, .int x2), (3, .ref γ), (4, .long z), (6, .int (nI k))]) hx hb dL_law_110 hl (by decide) rfl (fun ls hl => ?_)
  refine lv_aload_n hx hb dL_law_112 rfl (lv_at hl 4 rfl) ?_
  refine lv_iload hx hb dL_law_113 (lv_at hl 2 rfl) ?_
  refine gm_ci (gm_callS (As := [.ref β, .int x]) (rest := []) ⟨hx, hb, hml, hown, hts⟩ hK (c_L_change l D cy β X x hW.2.2.1.1) (va_cwS 2 hts ks_change rfl rfl rfl (by decide +kernel) ⟨Nat.le_of_ble_eq_true rfl, Nat.le_of_ble_eq_true rfl⟩) hW.1 rfl hl.1 rfl (Nat.le_of_ble_eq_true rfl) dL_law_115 hc0 hs0) hW.2.1 (TA_up hW.2.2.2.1.1) (fun H locs hR hz9 hfr hS => ?_)
  have hq := aki_change hW.2.2.1.1 hW.2.2.1.2 x
  have hIv := hW.2.2.1.1
  generalize p_L_change X x = r at hq hR ⊢
  replace hW := hW.ta hR hz9 hfr hS hq.2.2 hq.2.1
  clear hR hfr hS hz9
  refine lv_istore (lv' := [(11, .int r.1), (10, .int (X 0 6)), (8, .long (f_L_state X)), (7, .int x), (0, .ref b), (1, .ref β), (2, .int x2), (3, .ref γ), (4, .long z), (6, .int (nI k))]) hx hb dL_law_118 hl (by decide) rfl (fun ls hl => ?_)
  refine lv_iload hx hb dL_law_120 (lv_at hl 0 rfl) ?_
  refine lv_if_ge (tgt := 148) hx hb dL_law_122 (by decide) (fun c1 => ?_) (fun c1 => ?_)
  · have hRc := hq.1.pos c1
    refine lv_iload hx hb dL_law_148 (lv_at hl 0 rfl) ?_
    refine lv_if_lt (tgt := 178) hx hb dL_law_150 (by decide) (fun c2 => ?_) (fun c2 => ?_)
    · exact absurd c2 (Int32.not_lt.mpr c1)
    · skip
      refine lv_aload_n hx hb dL_law_153 rfl (lv_at hl 5 rfl) ?_
      refine lv_bipush (v := 19) hx hb dL_law_154 (by decide) ?_
      refine gm_ci (gm_call (As := [.int 19]) (rest := []) (ci := 8) (q := (RX8, TX8, 8)) ⟨hx, hb, hml, hown, hts⟩ hK (c_X8_count l D cy β r.2 19 ) (cwV 1 hts kv_count rfl rfl rfl (by decide +kernel) ⟨Nat.le_of_ble_eq_true rfl, Nat.le_of_ble_eq_true rfl⟩) (TR.mk0 hW.1) rfl hW.1 rfl hl.1 rfl (Nat.le_of_ble_eq_true rfl) dL_law_156 hc0 hs0) hW.2.1 (fun _ h => h.elim) (fun H locs hR hz9 hfr hS => ?_)
      replace hW := hW.no hz9 hfr hS
      clear hR hfr hS hz9
      rw [count19]
      refine lv_iload hx hb dL_law_159 (lv_at hl 1 rfl) ?_
      refine lv_iconst (v := 4) hx hb dL_law_161 (by decide) ?_
      obtain ⟨n, e6, hn⟩ := hRc.num
      rcases hn with ⟨hn, e7⟩ | ⟨hn, e7⟩
      · refine lv_icmp_ge (tgt := 172) hx hb dL_law_162 (by decide) (fun c3 => absurd c3 (by rw [e6]; exact lt_4 hn)) (fun _ => ?_)
        refine lv_iload hx hb dL_law_165 (lv_at hl 1 rfl) ?_
        refine lv_iconst (v := 1) hx hb dL_law_167 (by decide) ?_
        refine lv_iadd hx hb dL_law_168 ?_
        refine lv_goto (tgt := 173) hx hb dL_law_169 (by decide) ?_
        refine lv_icmp_eq (tgt := 178) hx hb dL_law_173 (by decide) (fun _ => ?_) (fun c3 => absurd (by rw [e6, e7]; exact (nI_1 n).symm) c3)
        exact kk r.2 x (X 0 6) r.1 H locs ls (fun c4 => absurd c4 (Int32.not_lt.mpr c1)) (fun z hz => hz.rc hRc) hW (lv_sub hl [4, 5, 6, 7, 8, 9, 3, 1, 0] rfl)
      · subst hn
        refine lv_icmp_ge (tgt := 172) hx hb dL_law_162 (by decide) (fun _ => ?_) (fun c3 => absurd (by rw [e6]; decide) c3)
        refine lv_iconst (v := 4) hx hb dL_law_172 (by decide) ?_
        refine lv_icmp_eq (tgt := 178) hx hb dL_law_173 (by decide) (fun _ => ?_) (fun c3 => absurd (by rw [e7]; rfl) c3)
        exact kk r.2 x (X 0 6) r.1 H locs ls (fun c4 => absurd c4 (Int32.not_lt.mpr c1)) (fun z hz => hz.rc hRc) hW (lv_sub hl [4, 5, 6, 7, 8, 9, 3, 1, 0] rfl)
  · have hSm := hq.1.neg (Int32.not_le.mp c1)
    refine lv_aload_n hx hb dL_law_125 rfl (lv_at hl 5 rfl) ?_
    refine gm_cl (gm_callS (As := [.ref β]) (rest := []) ⟨hx, hb, hml, hown, hts⟩ hK (c_L_state l D cy β r.2 hW.2.2.1.1) (va_cwS 1 hts ks_state rfl rfl rfl (by decide +kernel) ⟨Nat.le_of_ble_eq_true rfl, Nat.le_of_ble_eq_true rfl⟩) hW.1 rfl hl.1 rfl (Nat.le_of_ble_eq_true rfl) dL_law_126 hc0 hs0) hW.2.1 (fun _ h => h.elim) (fun H locs _ hz9 hfr hS => ?_)
    replace hW := hW.no hz9 hfr hS
    clear hfr hS hz9
    refine lv_lload hx hb dL_law_129 (lv_at hl 2 rfl) ?_
    refine W.lcmp hx hb dL_law_131 ?_
    rw [show f_L_state r.2 = f_L_state X from Nw.st hSm.1 hIv, lg_cmp_s]
    refine lv_if_ne (tgt := 146) hx hb dL_law_132 (by decide) (fun c2 => absurd rfl c2) (fun _ => ?_)
    refine lv_aload_n hx hb dL_law_135 rfl (lv_at hl 5 rfl) ?_
    refine lv_bipush (v := 19) hx hb dL_law_136 (by decide) ?_
    refine gm_ci (gm_call (As := [.int 19]) (rest := []) (ci := 8) (q := (RX8, TX8, 8)) ⟨hx, hb, hml, hown, hts⟩ hK (c_X8_count l D cy β r.2 19 ) (cwV 1 hts kv_count rfl rfl rfl (by decide +kernel) ⟨Nat.le_of_ble_eq_true rfl, Nat.le_of_ble_eq_true rfl⟩) (TR.mk0 hW.1) rfl hW.1 rfl hl.1 rfl (Nat.le_of_ble_eq_true rfl) dL_law_138 hc0 hs0) hW.2.1 (fun _ h => h.elim) (fun H locs hR hz9 hfr hS => ?_)
    replace hW := hW.no hz9 hfr hS
    clear hR hfr hS hz9
    rw [count19]
    refine lv_iload hx hb dL_law_141 (lv_at hl 1 rfl) ?_
    refine lv_icmp_eq (tgt := 148) hx hb dL_law_143 (by decide) (fun _ => ?_) (fun c2 => absurd hSm.2.2.1 c2)
    refine lv_iload hx hb dL_law_148 (lv_at hl 0 rfl) ?_
    refine lv_if_lt (tgt := 178) hx hb dL_law_150 (by decide) (fun _ => ?_) (fun c2 => absurd (Int32.not_le.mp c1) c2)
    exact kk r.2 x (X 0 6) r.1 H locs ls (fun _ => hSm.2.2.1) (fun z hz => hz.sm hSm) hW (lv_sub hl [4, 5, 6, 7, 8, 9, 3, 1, 0] rfl)

set_option maxHeartbeats 8000000 in
set_option maxRecDepth 100000 in
theorem lw_s2 {p : Program} {l : Launch} {e : Env} {s : State} {m : MethodId} {below : List Frame} {meth : Method} {c : Code} {D : va_G} {cy : Nat → ClassId} {b L : Nat} {xs : Nat → Int32} {Q : State → Prop} {cells slots : Nat} {cA : ClassId} {β γ : Nat} {k : Nat} (C : lw_C D cy p s m c b L xs) (hA : ArrOfT s cA .long) (hc0 : cells ≤ 600000) (hs0 : slots ≤ 7302250) (hk80 : k ≤ 80) {X : gM} {f : Nat → Int64} {x2 x w v : Int32} {z : Int64} {H : Heap} {locs : List Loc} {ls : Array Slot} (hv : v < 0 → X 0 6 = w) (hkz : 4 ≤ k → Kp X z) (hW : lw_I D cy s cA β γ X f H locs) (hl : lv_has ls 15 [(0, .ref b), (1, .ref β), (2, .int x2), (3, .ref γ), (4, .long z), (6, .int (nI k)), (7, .int x), (10, .int w), (11, .int v)])
    (kk : ∀ (X1 : gM) (z : Int64) (H : Heap) (locs : List Loc) (ls : Array Slot), (3 ≤ k → Kp X1 z) → lw_I D cy s cA β γ X1 f H locs → lv_has ls 15 [(0, .ref b), (1, .ref β), (2, .int x2), (3, .ref γ), (4, .long z), (6, .int (nI k)), (7, .int x)] → W p l e room_1 s m #[Value.ref b] below meth c H locs cells slots Q (F0 m 223 ls [])) : W p l e room_1 s m #[Value.ref b] below meth c H locs cells slots Q (F0 m 178 ls []) := by
  obtain ⟨hx, hb, hml, hown, hts, hX, hbl, hK⟩ := C
  refine lv_iload hx hb dL_law_178 (lv_at hl 5 rfl) ?_
  refine lv_bipush (v := 7) hx hb dL_law_180 (by decide) ?_
  refine lv_irem hx hb dL_law_182 (by decide) ?_
  rw [show (nI k - nI k / 7 * 7 : Int32) = nI (k % 7) from pk_rem (d := 7) (by omega) (by decide) (by decide)]
  refine lv_iconst (v := 3) hx hb dL_law_183 (by decide) ?_
  by_cases hk7 : k % 7 = 3
  · rw [hk7]
    refine lv_icmp_ne (tgt := 223) hx hb dL_law_184 (by decide) (fun c1 => absurd rfl c1) (fun _ => ?_)
    refine lv_aload_n hx hb dL_law_187 rfl (lv_at hl 1 rfl) ?_
    refine gm_ci (gm_call (As := []) (rest := []) (ci := 8) (q := (RX8, TX8, 8)) ⟨hx, hb, hml, hown, hts⟩ hK (c_X8_keep l D cy β X ) (cwV 0 hts kv_keep rfl rfl rfl (by decide +kernel) ⟨Nat.le_of_ble_eq_true rfl, Nat.le_of_ble_eq_true rfl⟩) (TR.mk0 hW.1) rfl hW.1 rfl hl.1 rfl (Nat.le_of_ble_eq_true rfl) dL_law_188 hc0 hs0) hW.2.1 (TA_up hW.2.2.2.1.1) (fun H locs hR hz9 hfr hS => ?_)
    have hkf := keep_f (X := X)
    have hkp := Kp.keep hW.2.2.1.1
    replace hW := hW.ta hR hz9 hfr hS (I_keep hW.2.2.1.1) (kA_keep hW.2.2.1.2)
    clear hR hfr hS hz9
    generalize p_X8_keep X = r at hkf hkp hW ⊢
    refine lv_aload_n hx hb dL_law_191 rfl (lv_at hl 1 rfl) ?_
    refine lv_iconst (v := 0) hx hb dL_law_192 (by decide) ?_
    refine gm_ci (gm_call (As := [.int 0]) (rest := [.int r.1]) (ci := 8) (q := (RX8, TX8, 8)) ⟨hx, hb, hml, hown, hts⟩ hK (c_X8_count l D cy β r.2 0 ) (cwV 1 hts kv_count rfl rfl rfl (by decide +kernel) ⟨Nat.le_of_ble_eq_true rfl, Nat.le_of_ble_eq_true rfl⟩) (TR.mk0 hW.1) rfl hW.1 rfl hl.1 rfl (Nat.le_of_ble_eq_true rfl) dL_law_193 hc0 hs0) hW.2.1 (fun _ h => h.elim) (fun H locs hR hz9 hfr hS => ?_)
    replace hW := hW.no hz9 hfr hS
    clear hR hfr hS hz9
    refine lv_icmp_ne (tgt := 215) hx hb dL_law_196 (by decide) (fun c1 => absurd hkf.1 c1) (fun _ => ?_)
    refine lv_iload hx hb dL_law_199 (lv_at hl 8 rfl) ?_
    refine lv_if_ge (tgt := 217) hx hb dL_law_201 (by decide) (fun c2 => ?_) (fun c2 => ?_)
    · refine lv_aload_n hx hb dL_law_217 rfl (lv_at hl 1 rfl) ?_
      refine gm_cl (gm_callS (As := [.ref β]) (rest := []) ⟨hx, hb, hml, hown, hts⟩ hK (c_L_state l D cy β r.2 hW.2.2.1.1) (va_cwS 1 hts ks_state rfl rfl rfl (by decide +kernel) ⟨Nat.le_of_ble_eq_true rfl, Nat.le_of_ble_eq_true rfl⟩) hW.1 rfl hl.1 rfl (Nat.le_of_ble_eq_true rfl) dL_law_218 hc0 hs0) hW.2.1 (fun _ h => h.elim) (fun H locs _ hz9 hfr hS => ?_)
      replace hW := hW.no hz9 hfr hS
      clear hfr hS hz9
      refine lv_lstore (lv' := [(4, .long (f_L_state r.2)), (0, .ref b), (1, .ref β), (2, .int x2), (3, .ref γ), (6, .int (nI k)), (7, .int x), (10, .int w), (11, .int v)]) hx hb dL_law_221 hl (by decide) rfl (fun ls hl => ?_)
      exact kk r.2 _ H locs ls (fun _ => hkp) hW (lv_sub hl [1, 2, 3, 4, 0, 5, 6] rfl)
    · refine lv_aload_n hx hb dL_law_204 rfl (lv_at hl 1 rfl) ?_
      refine lv_bipush (v := 19) hx hb dL_law_205 (by decide) ?_
      refine gm_ci (gm_call (As := [.int 19]) (rest := []) (ci := 8) (q := (RX8, TX8, 8)) ⟨hx, hb, hml, hown, hts⟩ hK (c_X8_count l D cy β r.2 19 ) (cwV 1 hts kv_count rfl rfl rfl (by decide +kernel) ⟨Nat.le_of_ble_eq_true rfl, Nat.le_of_ble_eq_true rfl⟩) (TR.mk0 hW.1) rfl hW.1 rfl hl.1 rfl (Nat.le_of_ble_eq_true rfl) dL_law_207 hc0 hs0) hW.2.1 (fun _ h => h.elim) (fun H locs hR hz9 hfr hS => ?_)
      replace hW := hW.no hz9 hfr hS
      clear hR hfr hS hz9
      rw [count19]
      refine lv_iload hx hb dL_law_210 (lv_at hl 7 rfl) ?_
      refine lv_icmp_eq (tgt := 217) hx hb dL_law_212 (by decide) (fun _ => ?_) (fun c3 => absurd (by rw [hkf.2.2.2.1]; exact hv (Int32.not_le.mp c2)) c3)
      refine lv_aload_n hx hb dL_law_217 rfl (lv_at hl 1 rfl) ?_
      refine gm_cl (gm_callS (As := [.ref β]) (rest := []) ⟨hx, hb, hml, hown, hts⟩ hK (c_L_state l D cy β r.2 hW.2.2.1.1) (va_cwS 1 hts ks_state rfl rfl rfl (by decide +kernel) ⟨Nat.le_of_ble_eq_true rfl, Nat.le_of_ble_eq_true rfl⟩) hW.1 rfl hl.1 rfl (Nat.le_of_ble_eq_true rfl) dL_law_218 hc0 hs0) hW.2.1 (fun _ h => h.elim) (fun H locs _ hz9 hfr hS => ?_)
      replace hW := hW.no hz9 hfr hS
      clear hfr hS hz9
      refine lv_lstore (lv' := [(4, .long (f_L_state r.2)), (0, .ref b), (1, .ref β), (2, .int x2), (3, .ref γ), (6, .int (nI k)), (7, .int x), (10, .int w), (11, .int v)]) hx hb dL_law_221 hl (by decide) rfl (fun ls hl => ?_)
      exact kk r.2 _ H locs ls (fun _ => hkp) hW (lv_sub hl [1, 2, 3, 4, 0, 5, 6] rfl)
  · refine lv_icmp_ne (tgt := 223) hx hb dL_law_184 (by decide) (fun _ => ?_) (fun c1 => absurd c1 (fun c2 => hk7 (nI_inj (by omega) (by decide) (c2 : nI (k % 7) = nI 3))))
    exact kk X z H locs ls (fun h3 => hkz (by omega)) hW (lv_sub hl [0, 1, 2, 3, 4, 5, 6] rfl)

set_option maxHeartbeats 8000000 in
set_option maxRecDepth 100000 in
theorem lw_s3 {p : Program} {l : Launch} {e : Env} {s : State} {m : MethodId} {below : List Frame} {meth : Method} {c : Code} {D : va_G} {cy : Nat → ClassId} {b L : Nat} {xs : Nat → Int32} {Q : State → Prop} {cells slots : Nat} {cA : ClassId} {β γ : Nat} {k : Nat} (C : lw_C D cy p s m c b L xs) (hA : ArrOfT s cA .long) (hc0 : cells ≤ 600000) (hs0 : slots ≤ 7302250) (hk80 : k ≤ 80) {X : gM} {f : Nat → Int64} {x2 x : Int32} {z : Int64} {H : Heap} {locs : List Loc} {ls : Array Slot} (hkz : 3 ≤ k → Kp X z) (hW : lw_I D cy s cA β γ X f H locs) (hl : lv_has ls 15 [(0, .ref b), (1, .ref β), (2, .int x2), (3, .ref γ), (4, .long z), (6, .int (nI k)), (7, .int x)])
    (kk : ∀ (X1 : gM) (H : Heap) (locs : List Loc) (ls : Array Slot), (3 ≤ k → Kp X1 z) → lw_I D cy s cA β γ X1 f H locs → lv_has ls 15 [(0, .ref b), (1, .ref β), (2, .int x2), (3, .ref γ), (4, .long z), (6, .int (nI k)), (7, .int x)] → W p l e room_1 s m #[Value.ref b] below meth c H locs cells slots Q (F0 m 300 ls [])) : W p l e room_1 s m #[Value.ref b] below meth c H locs cells slots Q (F0 m 223 ls []) := by
  obtain ⟨hx, hb, hml, hown, hts, hX, hbl, hK⟩ := C
  refine lv_iload hx hb dL_law_223 (lv_at hl 5 rfl) ?_
  refine lv_bipush (v := 7) hx hb dL_law_225 (by decide) ?_
  refine lv_irem hx hb dL_law_227 (by decide) ?_
  rw [show (nI k - nI k / 7 * 7 : Int32) = nI (k % 7) from pk_rem (d := 7) (by omega) (by decide) (by decide)]
  refine lv_bipush (v := 6) hx hb dL_law_228 (by decide) ?_
  by_cases hk7 : k % 7 = 6
  · rw [hk7]
    refine lv_icmp_ne (tgt := 300) hx hb dL_law_230 (by decide) (fun c1 => absurd rfl c1) (fun _ => ?_)
    have hkp := hkz (by omega)
    obtain ⟨n, hn4, e6, r1, r2, u1, u2, u3⟩ := rest_undo hW.2.2.1.1 hkp
    refine lv_aload_n hx hb dL_law_233 rfl (lv_at hl 1 rfl) ?_
    refine gm_cl (gm_callS (As := [.ref β]) (rest := []) ⟨hx, hb, hml, hown, hts⟩ hK (c_L_state l D cy β X hW.2.2.1.1) (va_cwS 1 hts ks_state rfl rfl rfl (by decide +kernel) ⟨Nat.le_of_ble_eq_true rfl, Nat.le_of_ble_eq_true rfl⟩) hW.1 rfl hl.1 rfl (Nat.le_of_ble_eq_true rfl) dL_law_234 hc0 hs0) hW.2.1 (fun _ h => h.elim) (fun H locs _ hz9 hfr hS => ?_)
    replace hW := hW.no hz9 hfr hS
    clear hfr hS hz9
    refine lv_lstore (lv' := [(12, .long (f_L_state X)), (0, .ref b), (1, .ref β), (2, .int x2), (3, .ref γ), (4, .long z), (6, .int (nI k)), (7, .int x)]) hx hb dL_law_237 hl (by decide) rfl (fun ls hl => ?_)
    refine lv_aload_n hx hb dL_law_239 rfl (lv_at hl 2 rfl) ?_
    refine lv_bipush (v := 19) hx hb dL_law_240 (by decide) ?_
    refine gm_ci (gm_call (As := [.int 19]) (rest := []) (ci := 8) (q := (RX8, TX8, 8)) ⟨hx, hb, hml, hown, hts⟩ hK (c_X8_count l D cy β X 19 ) (cwV 1 hts kv_count rfl rfl rfl (by decide +kernel) ⟨Nat.le_of_ble_eq_true rfl, Nat.le_of_ble_eq_true rfl⟩) (TR.mk0 hW.1) rfl hW.1 rfl hl.1 rfl (Nat.le_of_ble_eq_true rfl) dL_law_242 hc0 hs0) hW.2.1 (fun _ h => h.elim) (fun H locs hR hz9 hfr hS => ?_)
    replace hW := hW.no hz9 hfr hS
    clear hR hfr hS hz9
    rw [count19, e6]
    refine lv_istore (lv' := [(14, .int (nI n)), (12, .long (f_L_state X)), (0, .ref b), (1, .ref β), (2, .int x2), (3, .ref γ), (4, .long z), (6, .int (nI k)), (7, .int x)]) hx hb dL_law_245 hl (by decide) rfl (fun ls hl => ?_)
    refine lv_aload_n hx hb dL_law_247 rfl (lv_at hl 3 rfl) ?_
    refine gm_ci (gm_call (As := []) (rest := []) (ci := 8) (q := (RX8, TX8, 8)) ⟨hx, hb, hml, hown, hts⟩ hK (c_X8_restore l D cy β X hW.2.2.1.1.ok) (cwV 0 hts kv_restore rfl rfl rfl (by decide +kernel) ⟨Nat.le_of_ble_eq_true rfl, Nat.le_of_ble_eq_true rfl⟩) (TR.mk0 hW.1) rfl hW.1 rfl hl.1 rfl (Nat.le_of_ble_eq_true rfl) dL_law_248 hc0 hs0) hW.2.1 (TA_up hW.2.2.2.1.1) (fun H locs hR hz9 hfr hS => ?_)
    replace hW := hW.ta hR hz9 hfr hS (I_restore hW.2.2.1.1) (kA_restore hW.2.2.1.1 hW.2.2.1.2)
    clear hR hfr hS hz9
    generalize p_X8_restore X = r at r1 r2 u1 u2 u3 hW ⊢
    refine lv_aload_n hx hb dL_law_251 rfl (lv_at hl 3 rfl) ?_
    refine lv_iconst (v := 0) hx hb dL_law_252 (by decide) ?_
    refine gm_ci (gm_call (As := [.int 0]) (rest := [.int r.1]) (ci := 8) (q := (RX8, TX8, 8)) ⟨hx, hb, hml, hown, hts⟩ hK (c_X8_count l D cy β r.2 0 ) (cwV 1 hts kv_count rfl rfl rfl (by decide +kernel) ⟨Nat.le_of_ble_eq_true rfl, Nat.le_of_ble_eq_true rfl⟩) (TR.mk0 hW.1) rfl hW.1 rfl hl.1 rfl (Nat.le_of_ble_eq_true rfl) dL_law_253 hc0 hs0) hW.2.1 (fun _ h => h.elim) (fun H locs hR hz9 hfr hS => ?_)
    replace hW := hW.no hz9 hfr hS
    clear hR hfr hS hz9
    refine lv_icmp_ne (tgt := 298) hx hb dL_law_256 (by decide) (fun c1 => absurd r1 c1) (fun _ => ?_)
    refine lv_aload_n hx hb dL_law_259 rfl (lv_at hl 3 rfl) ?_
    refine gm_cl (gm_callS (As := [.ref β]) (rest := []) ⟨hx, hb, hml, hown, hts⟩ hK (c_L_state l D cy β r.2 hW.2.2.1.1) (va_cwS 1 hts ks_state rfl rfl rfl (by decide +kernel) ⟨Nat.le_of_ble_eq_true rfl, Nat.le_of_ble_eq_true rfl⟩) hW.1 rfl hl.1 rfl (Nat.le_of_ble_eq_true rfl) dL_law_260 hc0 hs0) hW.2.1 (fun _ h => h.elim) (fun H locs _ hz9 hfr hS => ?_)
    replace hW := hW.no hz9 hfr hS
    clear hfr hS hz9
    refine lv_lload hx hb dL_law_263 (lv_at hl 6 rfl) ?_
    refine W.lcmp hx hb dL_law_265 ?_
    rw [r2, lg_cmp_s]
    refine lv_if_ne (tgt := 298) hx hb dL_law_266 (by decide) (fun c2 => absurd rfl c2) (fun _ => ?_)
    refine lv_aload_n hx hb dL_law_269 rfl (lv_at hl 3 rfl) ?_
    refine gm_ci (gm_call (As := []) (rest := []) (ci := 8) (q := (RX8, TX8, 8)) ⟨hx, hb, hml, hown, hts⟩ hK (c_X8_undo l D cy β r.2 hW.2.2.1.1.ok) (cwV 0 hts kv_undo rfl rfl rfl (by decide +kernel) ⟨Nat.le_of_ble_eq_true rfl, Nat.le_of_ble_eq_true rfl⟩) (TR.mk0 hW.1) rfl hW.1 rfl hl.1 rfl (Nat.le_of_ble_eq_true rfl) dL_law_270 hc0 hs0) hW.2.1 (TA_up hW.2.2.2.1.1) (fun H locs hR hz9 hfr hS => ?_)
    replace hW := hW.ta hR hz9 hfr hS (I_undo hW.2.2.1.1) (kA_undo hW.2.2.1.1 hW.2.2.1.2)
    clear hR hfr hS hz9
    generalize p_X8_undo r.2 = t at u1 u2 u3 hW ⊢
    rw [u1]
    refine lv_iload hx hb dL_law_273 (lv_at hl 0 rfl) ?_
    refine lv_iconst (v := 4) hx hb dL_law_275 (by decide) ?_
    by_cases hn : n < 4
    · rw [if_pos hn]
      refine lv_icmp_ge (tgt := 284) hx hb dL_law_276 (by decide) (fun c3 => absurd c3 (lt_4 hn)) (fun _ => ?_)
      refine lv_iload hx hb dL_law_279 (lv_at hl 0 rfl) ?_
      refine lv_goto (tgt := 285) hx hb dL_law_281 (by decide) ?_
      refine lv_icmp_ne (tgt := 298) hx hb dL_law_285 (by decide) (fun c3 => absurd rfl c3) (fun _ => ?_)
      refine lv_aload_n hx hb dL_law_288 rfl (lv_at hl 3 rfl) ?_
      refine gm_cl (gm_callS (As := [.ref β]) (rest := []) ⟨hx, hb, hml, hown, hts⟩ hK (c_L_state l D cy β t.2 hW.2.2.1.1) (va_cwS 1 hts ks_state rfl rfl rfl (by decide +kernel) ⟨Nat.le_of_ble_eq_true rfl, Nat.le_of_ble_eq_true rfl⟩) hW.1 rfl hl.1 rfl (Nat.le_of_ble_eq_true rfl) dL_law_289 hc0 hs0) hW.2.1 (fun _ h => h.elim) (fun H locs _ hz9 hfr hS => ?_)
      replace hW := hW.no hz9 hfr hS
      clear hfr hS hz9
      refine lv_lload hx hb dL_law_292 (lv_at hl 1 rfl) ?_
      refine W.lcmp hx hb dL_law_294 ?_
      rw [u2, lg_cmp_s]
      refine lv_if_eq (tgt := 300) hx hb dL_law_295 (by decide) (fun _ => ?_) (fun c4 => absurd rfl c4)
      exact kk t.2 H locs ls (fun _ => u3) hW (lv_sub hl [2, 3, 4, 5, 6, 7, 8] rfl)
    · have hn4 : n = 4 := by omega
      subst hn4
      rw [if_neg hn]
      refine lv_icmp_ge (tgt := 284) hx hb dL_law_276 (by decide) (fun _ => ?_) (fun c3 => absurd (by decide) c3)
      refine lv_iconst (v := 3) hx hb dL_law_284 (by decide) ?_
      refine lv_icmp_ne (tgt := 298) hx hb dL_law_285 (by decide) (fun c3 => absurd rfl c3) (fun _ => ?_)
      refine lv_aload_n hx hb dL_law_288 rfl (lv_at hl 3 rfl) ?_
      refine gm_cl (gm_callS (As := [.ref β]) (rest := []) ⟨hx, hb, hml, hown, hts⟩ hK (c_L_state l D cy β t.2 hW.2.2.1.1) (va_cwS 1 hts ks_state rfl rfl rfl (by decide +kernel) ⟨Nat.le_of_ble_eq_true rfl, Nat.le_of_ble_eq_true rfl⟩) hW.1 rfl hl.1 rfl (Nat.le_of_ble_eq_true rfl) dL_law_289 hc0 hs0) hW.2.1 (fun _ h => h.elim) (fun H locs _ hz9 hfr hS => ?_)
      replace hW := hW.no hz9 hfr hS
      clear hfr hS hz9
      refine lv_lload hx hb dL_law_292 (lv_at hl 1 rfl) ?_
      refine W.lcmp hx hb dL_law_294 ?_
      rw [u2, lg_cmp_s]
      refine lv_if_eq (tgt := 300) hx hb dL_law_295 (by decide) (fun _ => ?_) (fun c4 => absurd rfl c4)
      exact kk t.2 H locs ls (fun _ => u3) hW (lv_sub hl [2, 3, 4, 5, 6, 7, 8] rfl)
  · refine lv_icmp_ne (tgt := 300) hx hb dL_law_230 (by decide) (fun _ => ?_) (fun c1 => absurd c1 (fun c2 => hk7 (nI_inj (by omega) (by decide) (c2 : nI (k % 7) = nI 6))))
    exact kk X H locs ls hkz hW (lv_sub hl [0, 1, 2, 3, 4, 5, 6] rfl)

