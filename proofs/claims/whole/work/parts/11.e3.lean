/-! the cases of the law -/
set_option maxHeartbeats 4000000 in
set_option maxRecDepth 100000 in
/-- ticket -/
theorem lw_c24 {p : Program} {l : Launch} {e : Env} {s : State} {m : MethodId} {below : List Frame} {meth : Method} {c : Code} {D : va_G} {cy : Nat → ClassId} {b L : Nat} {xs : Nat → Int32} {Q : State → Prop} {cells slots : Nat} (C : lw_C D cy p s m c b L xs) {x3 : Int32} (h_1 : vp_in (x3 + 1) L) (h_2 : vp_in (x3 + 2) L) (h_3 : vp_in (x3 + 3) L) (h_4 : vp_in (x3 + 4) L) (h_5 : vp_in (x3 + 5) L) {X Y : gM} {H : Heap} {locs : List Loc} {ls : Array Slot} (hI : lw_I D cy s X Y H locs) (hl : lv_has ls 4 [(0, .ref b), (1, .ref s.heap.size), (2, .ref (s.heap.size + 872)), (3, .int x3)]) (hc0 : cells ≤ 600000) (hs0 : slots ≤ 7302250)
    (kk : ∀ (X Y : gM) (H : Heap) (locs : List Loc), lw_I D cy s X Y H locs → W p l e room_1 s m #[Value.ref b] below meth c H locs cells slots Q (F0 m 1074 ls [])) : W p l e room_1 s m #[Value.ref b] below meth c H locs cells slots Q (F0 m 820 ls []) := by
  obtain ⟨hx, hb, hml, hown, hts, hX, hbl, hK⟩ := C
  obtain ⟨hR, hM, hrel, hS⟩ := hI
  have hbA : ¬ CA s.heap.size b := Nat.not_le.mpr hbl
  have hc8 := c_X8_ticket l D cy s.heap.size X (xs (x3 + 1).toNatClampNeg) (xs (x3 + 2).toNatClampNeg)
  have hs := q_ticket hrel (xs (x3 + 1).toNatClampNeg) (xs (x3 + 2).toNatClampNeg)
  have hs1 := hs.1
  have hc9 := c_X9_ticket l D cy (s.heap.size + 872) Y (xs (x3 + 1).toNatClampNeg) (xs (x3 + 2).toNatClampNeg) hs.2
  clear hs
  generalize f_X8_ticket X (xs (x3 + 1).toNatClampNeg) (xs (x3 + 2).toNatClampNeg) = P at hs1 hc8
  generalize f_X9_ticket Y (xs (x3 + 1).toNatClampNeg) (xs (x3 + 2).toNatClampNeg) = P2 at hs1 hc9
  refine lv_aload_n hx hb dL_law_820 rfl (lv_at hl 1 rfl) ?_
  refine lv_aload_n hx hb dL_law_821 rfl (lv_at hl 0 rfl) ?_
  refine lv_iload_n hx hb dL_law_822 rfl (lv_at hl 3 rfl) ?_
  refine lv_iconst (v := 1) hx hb dL_law_823 (by decide) ?_
  refine lv_iadd hx hb dL_law_824 ?_
  refine va_sld hx hb hX hbl hbA hS h_1 dL_law_825 ?_
  refine lv_aload_n hx hb dL_law_826 rfl (lv_at hl 0 rfl) ?_
  refine lv_iload_n hx hb dL_law_827 rfl (lv_at hl 3 rfl) ?_
  refine lv_iconst (v := 2) hx hb dL_law_828 (by decide) ?_
  refine lv_iadd hx hb dL_law_829 ?_
  refine va_sld hx hb hX hbl hbA hS h_2 dL_law_830 ?_
  refine gm_ci (gm_call (As := [.int (xs (x3 + 1).toNatClampNeg), .int (xs (x3 + 2).toNatClampNeg)]) (rest := []) (ci := 8) (q := (RX8, TX8, 8)) ⟨hx, hb, hml, hown, hts⟩ hK hc8 (cwV 2 hts gL_law_X8_ticket rfl rfl rfl (by decide +kernel) ⟨Nat.le_of_ble_eq_true rfl, Nat.le_of_ble_eq_true rfl⟩) (TR.mk0 hR) rfl hR rfl hl.1 rfl (Nat.le_of_ble_eq_true rfl) dL_law_831 hc0 hs0) hS (fun _ h => h.elim) (fun H locs _ _ hfr hS => ?_)
  have hR := lw_kT hR hfr (fun _ h => h.elim)
  have hM := lw_kM hM hfr (fun _ h => h.elim)
  refine lv_aload_n hx hb dL_law_834 rfl (lv_at hl 2 rfl) ?_
  refine lv_aload_n hx hb dL_law_835 rfl (lv_at hl 0 rfl) ?_
  refine lv_iload_n hx hb dL_law_836 rfl (lv_at hl 3 rfl) ?_
  refine lv_iconst (v := 1) hx hb dL_law_837 (by decide) ?_
  refine lv_iadd hx hb dL_law_838 ?_
  refine va_sld hx hb hX hbl hbA hS h_1 dL_law_839 ?_
  refine lv_aload_n hx hb dL_law_840 rfl (lv_at hl 0 rfl) ?_
  refine lv_iload_n hx hb dL_law_841 rfl (lv_at hl 3 rfl) ?_
  refine lv_iconst (v := 2) hx hb dL_law_842 (by decide) ?_
  refine lv_iadd hx hb dL_law_843 ?_
  refine va_sld hx hb hX hbl hbA hS h_2 dL_law_844 ?_
  refine gm_ci (gm_call (As := [.int (xs (x3 + 1).toNatClampNeg), .int (xs (x3 + 2).toNatClampNeg)]) (rest := [.int P]) (ci := 9) (q := (RX9, TX9, 15)) ⟨hx, hb, hml, hown, hts⟩ hK hc9 (cwV 2 hts gL_law_X9_ticket rfl rfl rfl (by decide +kernel) ⟨Nat.le_of_ble_eq_true rfl, Nat.le_of_ble_eq_true rfl⟩) (MR.mk0 hM) rfl hM rfl hl.1 rfl (Nat.le_of_ble_eq_true rfl) dL_law_845 hc0 hs0) hS (fun _ h => h.elim) (fun H locs _ _ hfr hS => ?_)
  have hR := lw_kT hR hfr (fun _ h => h.elim)
  have hM := lw_kM hM hfr (fun _ h => h.elim)
  refine lv_icmp_eq (tgt := 1074) hx hb dL_law_848 (by decide) (fun z => ?_) (fun z => ?_)
  · exact kk X Y H locs ⟨hR, hM, hrel, hS⟩
  · exact absurd hs1 z
set_option maxHeartbeats 4000000 in
set_option maxRecDepth 100000 in
/-- ordered -/
theorem lw_c25 {p : Program} {l : Launch} {e : Env} {s : State} {m : MethodId} {below : List Frame} {meth : Method} {c : Code} {D : va_G} {cy : Nat → ClassId} {b L : Nat} {xs : Nat → Int32} {Q : State → Prop} {cells slots : Nat} (C : lw_C D cy p s m c b L xs) {x3 : Int32} (h_1 : vp_in (x3 + 1) L) (h_2 : vp_in (x3 + 2) L) (h_3 : vp_in (x3 + 3) L) (h_4 : vp_in (x3 + 4) L) (h_5 : vp_in (x3 + 5) L) {X Y : gM} {H : Heap} {locs : List Loc} {ls : Array Slot} (hI : lw_I D cy s X Y H locs) (hl : lv_has ls 4 [(0, .ref b), (1, .ref s.heap.size), (2, .ref (s.heap.size + 872)), (3, .int x3)]) (hc0 : cells ≤ 600000) (hs0 : slots ≤ 7302250)
    (kk : ∀ (X Y : gM) (H : Heap) (locs : List Loc), lw_I D cy s X Y H locs → W p l e room_1 s m #[Value.ref b] below meth c H locs cells slots Q (F0 m 1074 ls [])) : W p l e room_1 s m #[Value.ref b] below meth c H locs cells slots Q (F0 m 853 ls []) := by
  obtain ⟨hx, hb, hml, hown, hts, hX, hbl, hK⟩ := C
  obtain ⟨hR, hM, hrel, hS⟩ := hI
  have hbA : ¬ CA s.heap.size b := Nat.not_le.mpr hbl
  have hc8 := c_X8_ordered l D cy s.heap.size X (xs (x3 + 1).toNatClampNeg) (xs (x3 + 2).toNatClampNeg)
  have hs := q_ordered hrel (xs (x3 + 1).toNatClampNeg) (xs (x3 + 2).toNatClampNeg)
  have hs1 := hs.1
  have hc9 := c_X9_ordered l D cy (s.heap.size + 872) Y (xs (x3 + 1).toNatClampNeg) (xs (x3 + 2).toNatClampNeg) hs.2
  clear hs
  generalize f_X8_ordered X (xs (x3 + 1).toNatClampNeg) (xs (x3 + 2).toNatClampNeg) = P at hs1 hc8
  generalize f_X9_ordered Y (xs (x3 + 1).toNatClampNeg) (xs (x3 + 2).toNatClampNeg) = P2 at hs1 hc9
  refine lv_aload_n hx hb dL_law_853 rfl (lv_at hl 1 rfl) ?_
  refine lv_aload_n hx hb dL_law_854 rfl (lv_at hl 0 rfl) ?_
  refine lv_iload_n hx hb dL_law_855 rfl (lv_at hl 3 rfl) ?_
  refine lv_iconst (v := 1) hx hb dL_law_856 (by decide) ?_
  refine lv_iadd hx hb dL_law_857 ?_
  refine va_sld hx hb hX hbl hbA hS h_1 dL_law_858 ?_
  refine lv_aload_n hx hb dL_law_859 rfl (lv_at hl 0 rfl) ?_
  refine lv_iload_n hx hb dL_law_860 rfl (lv_at hl 3 rfl) ?_
  refine lv_iconst (v := 2) hx hb dL_law_861 (by decide) ?_
  refine lv_iadd hx hb dL_law_862 ?_
  refine va_sld hx hb hX hbl hbA hS h_2 dL_law_863 ?_
  refine gm_ci (gm_call (As := [.int (xs (x3 + 1).toNatClampNeg), .int (xs (x3 + 2).toNatClampNeg)]) (rest := []) (ci := 8) (q := (RX8, TX8, 8)) ⟨hx, hb, hml, hown, hts⟩ hK hc8 (cwV 2 hts gL_law_X8_ordered rfl rfl rfl (by decide +kernel) ⟨Nat.le_of_ble_eq_true rfl, Nat.le_of_ble_eq_true rfl⟩) (TR.mk0 hR) rfl hR rfl hl.1 rfl (Nat.le_of_ble_eq_true rfl) dL_law_864 hc0 hs0) hS (fun _ h => h.elim) (fun H locs _ _ hfr hS => ?_)
  have hR := lw_kT hR hfr (fun _ h => h.elim)
  have hM := lw_kM hM hfr (fun _ h => h.elim)
  refine lv_aload_n hx hb dL_law_867 rfl (lv_at hl 2 rfl) ?_
  refine lv_aload_n hx hb dL_law_868 rfl (lv_at hl 0 rfl) ?_
  refine lv_iload_n hx hb dL_law_869 rfl (lv_at hl 3 rfl) ?_
  refine lv_iconst (v := 1) hx hb dL_law_870 (by decide) ?_
  refine lv_iadd hx hb dL_law_871 ?_
  refine va_sld hx hb hX hbl hbA hS h_1 dL_law_872 ?_
  refine lv_aload_n hx hb dL_law_873 rfl (lv_at hl 0 rfl) ?_
  refine lv_iload_n hx hb dL_law_874 rfl (lv_at hl 3 rfl) ?_
  refine lv_iconst (v := 2) hx hb dL_law_875 (by decide) ?_
  refine lv_iadd hx hb dL_law_876 ?_
  refine va_sld hx hb hX hbl hbA hS h_2 dL_law_877 ?_
  refine gm_ci (gm_call (As := [.int (xs (x3 + 1).toNatClampNeg), .int (xs (x3 + 2).toNatClampNeg)]) (rest := [.int P]) (ci := 9) (q := (RX9, TX9, 15)) ⟨hx, hb, hml, hown, hts⟩ hK hc9 (cwV 2 hts gL_law_X9_ordered rfl rfl rfl (by decide +kernel) ⟨Nat.le_of_ble_eq_true rfl, Nat.le_of_ble_eq_true rfl⟩) (MR.mk0 hM) rfl hM rfl hl.1 rfl (Nat.le_of_ble_eq_true rfl) dL_law_878 hc0 hs0) hS (fun _ h => h.elim) (fun H locs _ _ hfr hS => ?_)
  have hR := lw_kT hR hfr (fun _ h => h.elim)
  have hM := lw_kM hM hfr (fun _ h => h.elim)
  refine lv_icmp_eq (tgt := 1074) hx hb dL_law_881 (by decide) (fun z => ?_) (fun z => ?_)
  · exact kk X Y H locs ⟨hR, hM, hrel, hS⟩
  · exact absurd hs1 z
set_option maxHeartbeats 4000000 in
set_option maxRecDepth 100000 in
/-- price -/
theorem lw_c26 {p : Program} {l : Launch} {e : Env} {s : State} {m : MethodId} {below : List Frame} {meth : Method} {c : Code} {D : va_G} {cy : Nat → ClassId} {b L : Nat} {xs : Nat → Int32} {Q : State → Prop} {cells slots : Nat} (C : lw_C D cy p s m c b L xs) {x3 : Int32} (h_1 : vp_in (x3 + 1) L) (h_2 : vp_in (x3 + 2) L) (h_3 : vp_in (x3 + 3) L) (h_4 : vp_in (x3 + 4) L) (h_5 : vp_in (x3 + 5) L) {X Y : gM} {H : Heap} {locs : List Loc} {ls : Array Slot} (hI : lw_I D cy s X Y H locs) (hl : lv_has ls 4 [(0, .ref b), (1, .ref s.heap.size), (2, .ref (s.heap.size + 872)), (3, .int x3)]) (hc0 : cells ≤ 600000) (hs0 : slots ≤ 7302250)
    (kk : ∀ (X Y : gM) (H : Heap) (locs : List Loc), lw_I D cy s X Y H locs → W p l e room_1 s m #[Value.ref b] below meth c H locs cells slots Q (F0 m 1074 ls [])) : W p l e room_1 s m #[Value.ref b] below meth c H locs cells slots Q (F0 m 886 ls []) := by
  obtain ⟨hx, hb, hml, hown, hts, hX, hbl, hK⟩ := C
  obtain ⟨hR, hM, hrel, hS⟩ := hI
  have hbA : ¬ CA s.heap.size b := Nat.not_le.mpr hbl
  have hc8 := c_X8_price l D cy s.heap.size X (xs (x3 + 1).toNatClampNeg) (xs (x3 + 2).toNatClampNeg)
  have hs := q_price hrel (xs (x3 + 1).toNatClampNeg) (xs (x3 + 2).toNatClampNeg)
  have hs1 := hs
  have hc9 := c_X9_price l D cy (s.heap.size + 872) Y (xs (x3 + 1).toNatClampNeg) (xs (x3 + 2).toNatClampNeg)
  clear hs
  generalize f_X8_price X (xs (x3 + 1).toNatClampNeg) (xs (x3 + 2).toNatClampNeg) = P at hs1 hc8
  generalize f_X9_price Y (xs (x3 + 1).toNatClampNeg) (xs (x3 + 2).toNatClampNeg) = P2 at hs1 hc9
  refine lv_aload_n hx hb dL_law_886 rfl (lv_at hl 1 rfl) ?_
  refine lv_aload_n hx hb dL_law_887 rfl (lv_at hl 0 rfl) ?_
  refine lv_iload_n hx hb dL_law_888 rfl (lv_at hl 3 rfl) ?_
  refine lv_iconst (v := 1) hx hb dL_law_889 (by decide) ?_
  refine lv_iadd hx hb dL_law_890 ?_
  refine va_sld hx hb hX hbl hbA hS h_1 dL_law_891 ?_
  refine lv_aload_n hx hb dL_law_892 rfl (lv_at hl 0 rfl) ?_
  refine lv_iload_n hx hb dL_law_893 rfl (lv_at hl 3 rfl) ?_
  refine lv_iconst (v := 2) hx hb dL_law_894 (by decide) ?_
  refine lv_iadd hx hb dL_law_895 ?_
  refine va_sld hx hb hX hbl hbA hS h_2 dL_law_896 ?_
  refine gm_ci (gm_call (As := [.int (xs (x3 + 1).toNatClampNeg), .int (xs (x3 + 2).toNatClampNeg)]) (rest := []) (ci := 8) (q := (RX8, TX8, 8)) ⟨hx, hb, hml, hown, hts⟩ hK hc8 (cwV 2 hts gL_law_X8_price rfl rfl rfl (by decide +kernel) ⟨Nat.le_of_ble_eq_true rfl, Nat.le_of_ble_eq_true rfl⟩) (TR.mk0 hR) rfl hR rfl hl.1 rfl (Nat.le_of_ble_eq_true rfl) dL_law_897 hc0 hs0) hS (fun _ h => h.elim) (fun H locs _ _ hfr hS => ?_)
  have hR := lw_kT hR hfr (fun _ h => h.elim)
  have hM := lw_kM hM hfr (fun _ h => h.elim)
  refine lv_aload_n hx hb dL_law_900 rfl (lv_at hl 2 rfl) ?_
  refine lv_aload_n hx hb dL_law_901 rfl (lv_at hl 0 rfl) ?_
  refine lv_iload_n hx hb dL_law_902 rfl (lv_at hl 3 rfl) ?_
  refine lv_iconst (v := 1) hx hb dL_law_903 (by decide) ?_
  refine lv_iadd hx hb dL_law_904 ?_
  refine va_sld hx hb hX hbl hbA hS h_1 dL_law_905 ?_
  refine lv_aload_n hx hb dL_law_906 rfl (lv_at hl 0 rfl) ?_
  refine lv_iload_n hx hb dL_law_907 rfl (lv_at hl 3 rfl) ?_
  refine lv_iconst (v := 2) hx hb dL_law_908 (by decide) ?_
  refine lv_iadd hx hb dL_law_909 ?_
  refine va_sld hx hb hX hbl hbA hS h_2 dL_law_910 ?_
  refine gm_ci (gm_call (As := [.int (xs (x3 + 1).toNatClampNeg), .int (xs (x3 + 2).toNatClampNeg)]) (rest := [.int P]) (ci := 9) (q := (RX9, TX9, 15)) ⟨hx, hb, hml, hown, hts⟩ hK hc9 (cwV 2 hts gL_law_X9_price rfl rfl rfl (by decide +kernel) ⟨Nat.le_of_ble_eq_true rfl, Nat.le_of_ble_eq_true rfl⟩) (MR.mk0 hM) rfl hM rfl hl.1 rfl (Nat.le_of_ble_eq_true rfl) dL_law_911 hc0 hs0) hS (fun _ h => h.elim) (fun H locs _ _ hfr hS => ?_)
  have hR := lw_kT hR hfr (fun _ h => h.elim)
  have hM := lw_kM hM hfr (fun _ h => h.elim)
  refine lv_icmp_eq (tgt := 1074) hx hb dL_law_914 (by decide) (fun z => ?_) (fun z => ?_)
  · exact kk X Y H locs ⟨hR, hM, hrel, hS⟩
  · exact absurd hs1 z
set_option maxHeartbeats 4000000 in
set_option maxRecDepth 100000 in
/-- fate -/
theorem lw_c27 {p : Program} {l : Launch} {e : Env} {s : State} {m : MethodId} {below : List Frame} {meth : Method} {c : Code} {D : va_G} {cy : Nat → ClassId} {b L : Nat} {xs : Nat → Int32} {Q : State → Prop} {cells slots : Nat} (C : lw_C D cy p s m c b L xs) {x3 : Int32} (h_1 : vp_in (x3 + 1) L) (h_2 : vp_in (x3 + 2) L) (h_3 : vp_in (x3 + 3) L) (h_4 : vp_in (x3 + 4) L) (h_5 : vp_in (x3 + 5) L) {X Y : gM} {H : Heap} {locs : List Loc} {ls : Array Slot} (hI : lw_I D cy s X Y H locs) (hl : lv_has ls 4 [(0, .ref b), (1, .ref s.heap.size), (2, .ref (s.heap.size + 872)), (3, .int x3)]) (hc0 : cells ≤ 600000) (hs0 : slots ≤ 7302250)
    (kk : ∀ (X Y : gM) (H : Heap) (locs : List Loc), lw_I D cy s X Y H locs → W p l e room_1 s m #[Value.ref b] below meth c H locs cells slots Q (F0 m 1074 ls [])) : W p l e room_1 s m #[Value.ref b] below meth c H locs cells slots Q (F0 m 919 ls []) := by
  obtain ⟨hx, hb, hml, hown, hts, hX, hbl, hK⟩ := C
  obtain ⟨hR, hM, hrel, hS⟩ := hI
  have hbA : ¬ CA s.heap.size b := Nat.not_le.mpr hbl
  have hc8 := c_X8_fate l D cy s.heap.size X (xs (x3 + 1).toNatClampNeg) (xs (x3 + 2).toNatClampNeg)
  have hs := s_fate hrel (xs (x3 + 1).toNatClampNeg) (xs (x3 + 2).toNatClampNeg)
  have hs1 := hs.1
  have hs2 := hs.2.1
  have hc9 := c_X9_fate l D cy (s.heap.size + 872) Y (xs (x3 + 1).toNatClampNeg) (xs (x3 + 2).toNatClampNeg) hs.2.2
  clear hs
  generalize p_X8_fate X (xs (x3 + 1).toNatClampNeg) (xs (x3 + 2).toNatClampNeg) = P at hs1 hs2 hc8
  generalize p_X9_fate Y (xs (x3 + 1).toNatClampNeg) (xs (x3 + 2).toNatClampNeg) = P2 at hs1 hs2 hc9
  refine lv_aload_n hx hb dL_law_919 rfl (lv_at hl 1 rfl) ?_
  refine lv_aload_n hx hb dL_law_920 rfl (lv_at hl 0 rfl) ?_
  refine lv_iload_n hx hb dL_law_921 rfl (lv_at hl 3 rfl) ?_
  refine lv_iconst (v := 1) hx hb dL_law_922 (by decide) ?_
  refine lv_iadd hx hb dL_law_923 ?_
  refine va_sld hx hb hX hbl hbA hS h_1 dL_law_924 ?_
  refine lv_aload_n hx hb dL_law_925 rfl (lv_at hl 0 rfl) ?_
  refine lv_iload_n hx hb dL_law_926 rfl (lv_at hl 3 rfl) ?_
  refine lv_iconst (v := 2) hx hb dL_law_927 (by decide) ?_
  refine lv_iadd hx hb dL_law_928 ?_
  refine va_sld hx hb hX hbl hbA hS h_2 dL_law_929 ?_
  refine gm_ci (gm_call (As := [.int (xs (x3 + 1).toNatClampNeg), .int (xs (x3 + 2).toNatClampNeg)]) (rest := []) (ci := 8) (q := (RX8, TX8, 8)) ⟨hx, hb, hml, hown, hts⟩ hK hc8 (cwV 2 hts gL_law_X8_fate rfl rfl rfl (by decide +kernel) ⟨Nat.le_of_ble_eq_true rfl, Nat.le_of_ble_eq_true rfl⟩) (TR.mk0 hR) rfl hR rfl hl.1 rfl (Nat.le_of_ble_eq_true rfl) dL_law_930 hc0 hs0) hS (fun q h => gA_CA q h) (fun H locs hR _ hfr hS => ?_)
  have hM := lw_kM hM hfr (fun _ h => h)
  refine lv_aload_n hx hb dL_law_933 rfl (lv_at hl 2 rfl) ?_
  refine lv_aload_n hx hb dL_law_934 rfl (lv_at hl 0 rfl) ?_
  refine lv_iload_n hx hb dL_law_935 rfl (lv_at hl 3 rfl) ?_
  refine lv_iconst (v := 1) hx hb dL_law_936 (by decide) ?_
  refine lv_iadd hx hb dL_law_937 ?_
  refine va_sld hx hb hX hbl hbA hS h_1 dL_law_938 ?_
  refine lv_aload_n hx hb dL_law_939 rfl (lv_at hl 0 rfl) ?_
  refine lv_iload_n hx hb dL_law_940 rfl (lv_at hl 3 rfl) ?_
  refine lv_iconst (v := 2) hx hb dL_law_941 (by decide) ?_
  refine lv_iadd hx hb dL_law_942 ?_
  refine va_sld hx hb hX hbl hbA hS h_2 dL_law_943 ?_
  refine gm_ci (gm_call (As := [.int (xs (x3 + 1).toNatClampNeg), .int (xs (x3 + 2).toNatClampNeg)]) (rest := [.int P.1]) (ci := 9) (q := (RX9, TX9, 15)) ⟨hx, hb, hml, hown, hts⟩ hK hc9 (cwV 2 hts gL_law_X9_fate rfl rfl rfl (by decide +kernel) ⟨Nat.le_of_ble_eq_true rfl, Nat.le_of_ble_eq_true rfl⟩) (MR.mk0 hM) rfl hM rfl hl.1 rfl (Nat.le_of_ble_eq_true rfl) dL_law_944 hc0 hs0) hS lw_aM (fun H locs hM _ hfr hS => ?_)
  have hR := lw_kT hR hfr (fun _ h => h)
  refine lv_icmp_eq (tgt := 1074) hx hb dL_law_947 (by decide) (fun z => ?_) (fun z => ?_)
  · exact kk P.2 P2.2 H locs ⟨hR, hM, hs2, hS⟩
  · exact absurd hs1 z
set_option maxHeartbeats 4000000 in
set_option maxRecDepth 100000 in
/-- slotIn -/
theorem lw_c28 {p : Program} {l : Launch} {e : Env} {s : State} {m : MethodId} {below : List Frame} {meth : Method} {c : Code} {D : va_G} {cy : Nat → ClassId} {b L : Nat} {xs : Nat → Int32} {Q : State → Prop} {cells slots : Nat} (C : lw_C D cy p s m c b L xs) {x3 : Int32} (h_1 : vp_in (x3 + 1) L) (h_2 : vp_in (x3 + 2) L) (h_3 : vp_in (x3 + 3) L) (h_4 : vp_in (x3 + 4) L) (h_5 : vp_in (x3 + 5) L) {X Y : gM} {H : Heap} {locs : List Loc} {ls : Array Slot} (hI : lw_I D cy s X Y H locs) (hl : lv_has ls 4 [(0, .ref b), (1, .ref s.heap.size), (2, .ref (s.heap.size + 872)), (3, .int x3)]) (hc0 : cells ≤ 600000) (hs0 : slots ≤ 7302250)
    (kk : ∀ (X Y : gM) (H : Heap) (locs : List Loc), lw_I D cy s X Y H locs → W p l e room_1 s m #[Value.ref b] below meth c H locs cells slots Q (F0 m 1074 ls [])) : W p l e room_1 s m #[Value.ref b] below meth c H locs cells slots Q (F0 m 952 ls []) := by
  obtain ⟨hx, hb, hml, hown, hts, hX, hbl, hK⟩ := C
  obtain ⟨hR, hM, hrel, hS⟩ := hI
  have hbA : ¬ CA s.heap.size b := Nat.not_le.mpr hbl
  have hc8 := c_X8_slotIn l D cy s.heap.size X (xs (x3 + 1).toNatClampNeg) (xs (x3 + 2).toNatClampNeg)
  have hs := s_slotIn hrel (xs (x3 + 1).toNatClampNeg) (xs (x3 + 2).toNatClampNeg)
  have hs1 := hs.1
  have hs2 := hs.2.1
  have hc9 := c_X9_slotIn l D cy (s.heap.size + 872) Y (xs (x3 + 1).toNatClampNeg) (xs (x3 + 2).toNatClampNeg) hs.2.2
  clear hs
  generalize p_X8_slotIn X (xs (x3 + 1).toNatClampNeg) (xs (x3 + 2).toNatClampNeg) = P at hs1 hs2 hc8
  generalize p_X9_slotIn Y (xs (x3 + 1).toNatClampNeg) (xs (x3 + 2).toNatClampNeg) = P2 at hs1 hs2 hc9
  refine lv_aload_n hx hb dL_law_952 rfl (lv_at hl 1 rfl) ?_
  refine lv_aload_n hx hb dL_law_953 rfl (lv_at hl 0 rfl) ?_
  refine lv_iload_n hx hb dL_law_954 rfl (lv_at hl 3 rfl) ?_
  refine lv_iconst (v := 1) hx hb dL_law_955 (by decide) ?_
  refine lv_iadd hx hb dL_law_956 ?_
  refine va_sld hx hb hX hbl hbA hS h_1 dL_law_957 ?_
  refine lv_aload_n hx hb dL_law_958 rfl (lv_at hl 0 rfl) ?_
  refine lv_iload_n hx hb dL_law_959 rfl (lv_at hl 3 rfl) ?_
  refine lv_iconst (v := 2) hx hb dL_law_960 (by decide) ?_
  refine lv_iadd hx hb dL_law_961 ?_
  refine va_sld hx hb hX hbl hbA hS h_2 dL_law_962 ?_
  refine gm_ci (gm_call (As := [.int (xs (x3 + 1).toNatClampNeg), .int (xs (x3 + 2).toNatClampNeg)]) (rest := []) (ci := 8) (q := (RX8, TX8, 8)) ⟨hx, hb, hml, hown, hts⟩ hK hc8 (cwV 2 hts gL_law_X8_slotIn rfl rfl rfl (by decide +kernel) ⟨Nat.le_of_ble_eq_true rfl, Nat.le_of_ble_eq_true rfl⟩) (TR.mk0 hR) rfl hR rfl hl.1 rfl (Nat.le_of_ble_eq_true rfl) dL_law_963 hc0 hs0) hS (fun q h => gA_CA q h) (fun H locs hR _ hfr hS => ?_)
  have hM := lw_kM hM hfr (fun _ h => h)
  refine lv_aload_n hx hb dL_law_966 rfl (lv_at hl 2 rfl) ?_
  refine lv_aload_n hx hb dL_law_967 rfl (lv_at hl 0 rfl) ?_
  refine lv_iload_n hx hb dL_law_968 rfl (lv_at hl 3 rfl) ?_
  refine lv_iconst (v := 1) hx hb dL_law_969 (by decide) ?_
  refine lv_iadd hx hb dL_law_970 ?_
  refine va_sld hx hb hX hbl hbA hS h_1 dL_law_971 ?_
  refine lv_aload_n hx hb dL_law_972 rfl (lv_at hl 0 rfl) ?_
  refine lv_iload_n hx hb dL_law_973 rfl (lv_at hl 3 rfl) ?_
  refine lv_iconst (v := 2) hx hb dL_law_974 (by decide) ?_
  refine lv_iadd hx hb dL_law_975 ?_
  refine va_sld hx hb hX hbl hbA hS h_2 dL_law_976 ?_
  refine gm_ci (gm_call (As := [.int (xs (x3 + 1).toNatClampNeg), .int (xs (x3 + 2).toNatClampNeg)]) (rest := [.int P.1]) (ci := 9) (q := (RX9, TX9, 15)) ⟨hx, hb, hml, hown, hts⟩ hK hc9 (cwV 2 hts gL_law_X9_slotIn rfl rfl rfl (by decide +kernel) ⟨Nat.le_of_ble_eq_true rfl, Nat.le_of_ble_eq_true rfl⟩) (MR.mk0 hM) rfl hM rfl hl.1 rfl (Nat.le_of_ble_eq_true rfl) dL_law_977 hc0 hs0) hS lw_aM (fun H locs hM _ hfr hS => ?_)
  have hR := lw_kT hR hfr (fun _ h => h)
  refine lv_icmp_eq (tgt := 1074) hx hb dL_law_980 (by decide) (fun z => ?_) (fun z => ?_)
  · exact kk P.2 P2.2 H locs ⟨hR, hM, hs2, hS⟩
  · exact absurd hs1 z
set_option maxHeartbeats 4000000 in
set_option maxRecDepth 100000 in
/-- lapsNeeded -/
theorem lw_c29 {p : Program} {l : Launch} {e : Env} {s : State} {m : MethodId} {below : List Frame} {meth : Method} {c : Code} {D : va_G} {cy : Nat → ClassId} {b L : Nat} {xs : Nat → Int32} {Q : State → Prop} {cells slots : Nat} (C : lw_C D cy p s m c b L xs) {x3 : Int32} (h_1 : vp_in (x3 + 1) L) (h_2 : vp_in (x3 + 2) L) (h_3 : vp_in (x3 + 3) L) (h_4 : vp_in (x3 + 4) L) (h_5 : vp_in (x3 + 5) L) {X Y : gM} {H : Heap} {locs : List Loc} {ls : Array Slot} (hI : lw_I D cy s X Y H locs) (hl : lv_has ls 4 [(0, .ref b), (1, .ref s.heap.size), (2, .ref (s.heap.size + 872)), (3, .int x3)]) (hc0 : cells ≤ 600000) (hs0 : slots ≤ 7302250)
    (kk : ∀ (X Y : gM) (H : Heap) (locs : List Loc), lw_I D cy s X Y H locs → W p l e room_1 s m #[Value.ref b] below meth c H locs cells slots Q (F0 m 1074 ls [])) : W p l e room_1 s m #[Value.ref b] below meth c H locs cells slots Q (F0 m 985 ls []) := by
  obtain ⟨hx, hb, hml, hown, hts, hX, hbl, hK⟩ := C
  obtain ⟨hR, hM, hrel, hS⟩ := hI
  have hbA : ¬ CA s.heap.size b := Nat.not_le.mpr hbl
  have hc8 := c_X8_lapsNeeded l D cy s.heap.size X (xs (x3 + 1).toNatClampNeg) (xs (x3 + 2).toNatClampNeg)
  have hs := s_lapsNeeded hrel (xs (x3 + 1).toNatClampNeg) (xs (x3 + 2).toNatClampNeg)
  have hs1 := hs.1
  have hs2 := hs.2.1
  have hc9 := c_X9_lapsNeeded l D cy (s.heap.size + 872) Y (xs (x3 + 1).toNatClampNeg) (xs (x3 + 2).toNatClampNeg) hs.2.2
  clear hs
  generalize p_X8_lapsNeeded X (xs (x3 + 1).toNatClampNeg) (xs (x3 + 2).toNatClampNeg) = P at hs1 hs2 hc8
  generalize p_X9_lapsNeeded Y (xs (x3 + 1).toNatClampNeg) (xs (x3 + 2).toNatClampNeg) = P2 at hs1 hs2 hc9
  refine lv_aload_n hx hb dL_law_985 rfl (lv_at hl 1 rfl) ?_
  refine lv_aload_n hx hb dL_law_986 rfl (lv_at hl 0 rfl) ?_
  refine lv_iload_n hx hb dL_law_987 rfl (lv_at hl 3 rfl) ?_
  refine lv_iconst (v := 1) hx hb dL_law_988 (by decide) ?_
  refine lv_iadd hx hb dL_law_989 ?_
  refine va_sld hx hb hX hbl hbA hS h_1 dL_law_990 ?_
  refine lv_aload_n hx hb dL_law_991 rfl (lv_at hl 0 rfl) ?_
  refine lv_iload_n hx hb dL_law_992 rfl (lv_at hl 3 rfl) ?_
  refine lv_iconst (v := 2) hx hb dL_law_993 (by decide) ?_
  refine lv_iadd hx hb dL_law_994 ?_
  refine va_sld hx hb hX hbl hbA hS h_2 dL_law_995 ?_
  refine gm_ci (gm_call (As := [.int (xs (x3 + 1).toNatClampNeg), .int (xs (x3 + 2).toNatClampNeg)]) (rest := []) (ci := 8) (q := (RX8, TX8, 8)) ⟨hx, hb, hml, hown, hts⟩ hK hc8 (cwV 2 hts gL_law_X8_lapsNeeded rfl rfl rfl (by decide +kernel) ⟨Nat.le_of_ble_eq_true rfl, Nat.le_of_ble_eq_true rfl⟩) (TR.mk0 hR) rfl hR rfl hl.1 rfl (Nat.le_of_ble_eq_true rfl) dL_law_996 hc0 hs0) hS (fun q h => gA_CA q h) (fun H locs hR _ hfr hS => ?_)
  have hM := lw_kM hM hfr (fun _ h => h)
  refine lv_aload_n hx hb dL_law_999 rfl (lv_at hl 2 rfl) ?_
  refine lv_aload_n hx hb dL_law_1000 rfl (lv_at hl 0 rfl) ?_
  refine lv_iload_n hx hb dL_law_1001 rfl (lv_at hl 3 rfl) ?_
  refine lv_iconst (v := 1) hx hb dL_law_1002 (by decide) ?_
  refine lv_iadd hx hb dL_law_1003 ?_
  refine va_sld hx hb hX hbl hbA hS h_1 dL_law_1004 ?_
  refine lv_aload_n hx hb dL_law_1005 rfl (lv_at hl 0 rfl) ?_
  refine lv_iload_n hx hb dL_law_1006 rfl (lv_at hl 3 rfl) ?_
  refine lv_iconst (v := 2) hx hb dL_law_1007 (by decide) ?_
  refine lv_iadd hx hb dL_law_1008 ?_
  refine va_sld hx hb hX hbl hbA hS h_2 dL_law_1009 ?_
  refine gm_ci (gm_call (As := [.int (xs (x3 + 1).toNatClampNeg), .int (xs (x3 + 2).toNatClampNeg)]) (rest := [.int P.1]) (ci := 9) (q := (RX9, TX9, 15)) ⟨hx, hb, hml, hown, hts⟩ hK hc9 (cwV 2 hts gL_law_X9_lapsNeeded rfl rfl rfl (by decide +kernel) ⟨Nat.le_of_ble_eq_true rfl, Nat.le_of_ble_eq_true rfl⟩) (MR.mk0 hM) rfl hM rfl hl.1 rfl (Nat.le_of_ble_eq_true rfl) dL_law_1010 hc0 hs0) hS lw_aM (fun H locs hM _ hfr hS => ?_)
  have hR := lw_kT hR hfr (fun _ h => h)
  refine lv_icmp_eq (tgt := 1074) hx hb dL_law_1013 (by decide) (fun z => ?_) (fun z => ?_)
  · exact kk P.2 P2.2 H locs ⟨hR, hM, hs2, hS⟩
  · exact absurd hs1 z
set_option maxHeartbeats 4000000 in
set_option maxRecDepth 100000 in
/-- event -/
theorem lw_c30 {p : Program} {l : Launch} {e : Env} {s : State} {m : MethodId} {below : List Frame} {meth : Method} {c : Code} {D : va_G} {cy : Nat → ClassId} {b L : Nat} {xs : Nat → Int32} {Q : State → Prop} {cells slots : Nat} (C : lw_C D cy p s m c b L xs) {x3 : Int32} (h_1 : vp_in (x3 + 1) L) (h_2 : vp_in (x3 + 2) L) (h_3 : vp_in (x3 + 3) L) (h_4 : vp_in (x3 + 4) L) (h_5 : vp_in (x3 + 5) L) {X Y : gM} {H : Heap} {locs : List Loc} {ls : Array Slot} (hI : lw_I D cy s X Y H locs) (hl : lv_has ls 4 [(0, .ref b), (1, .ref s.heap.size), (2, .ref (s.heap.size + 872)), (3, .int x3)]) (hc0 : cells ≤ 600000) (hs0 : slots ≤ 7302250)
    (kk : ∀ (X Y : gM) (H : Heap) (locs : List Loc), lw_I D cy s X Y H locs → W p l e room_1 s m #[Value.ref b] below meth c H locs cells slots Q (F0 m 1074 ls [])) : W p l e room_1 s m #[Value.ref b] below meth c H locs cells slots Q (F0 m 1018 ls []) := by
  obtain ⟨hx, hb, hml, hown, hts, hX, hbl, hK⟩ := C
  obtain ⟨hR, hM, hrel, hS⟩ := hI
  have hbA : ¬ CA s.heap.size b := Nat.not_le.mpr hbl
  have hc8 := c_X8_event l D cy s.heap.size X (xs (x3 + 1).toNatClampNeg) (xs (x3 + 2).toNatClampNeg)
  have hs := q_event hrel (xs (x3 + 1).toNatClampNeg) (xs (x3 + 2).toNatClampNeg)
  have hs1 := hs.1
  have hc9 := c_X9_event l D cy (s.heap.size + 872) Y (xs (x3 + 1).toNatClampNeg) (xs (x3 + 2).toNatClampNeg) hs.2
  clear hs
  generalize f_X8_event X (xs (x3 + 1).toNatClampNeg) (xs (x3 + 2).toNatClampNeg) = P at hs1 hc8
  generalize f_X9_event Y (xs (x3 + 1).toNatClampNeg) (xs (x3 + 2).toNatClampNeg) = P2 at hs1 hc9
  refine lv_aload_n hx hb dL_law_1018 rfl (lv_at hl 1 rfl) ?_
  refine lv_aload_n hx hb dL_law_1019 rfl (lv_at hl 0 rfl) ?_
  refine lv_iload_n hx hb dL_law_1020 rfl (lv_at hl 3 rfl) ?_
  refine lv_iconst (v := 1) hx hb dL_law_1021 (by decide) ?_
  refine lv_iadd hx hb dL_law_1022 ?_
  refine va_sld hx hb hX hbl hbA hS h_1 dL_law_1023 ?_
  refine lv_aload_n hx hb dL_law_1024 rfl (lv_at hl 0 rfl) ?_
  refine lv_iload_n hx hb dL_law_1025 rfl (lv_at hl 3 rfl) ?_
  refine lv_iconst (v := 2) hx hb dL_law_1026 (by decide) ?_
  refine lv_iadd hx hb dL_law_1027 ?_
  refine va_sld hx hb hX hbl hbA hS h_2 dL_law_1028 ?_
  refine gm_ci (gm_call (As := [.int (xs (x3 + 1).toNatClampNeg), .int (xs (x3 + 2).toNatClampNeg)]) (rest := []) (ci := 8) (q := (RX8, TX8, 8)) ⟨hx, hb, hml, hown, hts⟩ hK hc8 (cwV 2 hts gL_law_X8_event rfl rfl rfl (by decide +kernel) ⟨Nat.le_of_ble_eq_true rfl, Nat.le_of_ble_eq_true rfl⟩) (TR.mk0 hR) rfl hR rfl hl.1 rfl (Nat.le_of_ble_eq_true rfl) dL_law_1029 hc0 hs0) hS (fun _ h => h.elim) (fun H locs _ _ hfr hS => ?_)
  have hR := lw_kT hR hfr (fun _ h => h.elim)
  have hM := lw_kM hM hfr (fun _ h => h.elim)
  refine lv_aload_n hx hb dL_law_1032 rfl (lv_at hl 2 rfl) ?_
  refine lv_aload_n hx hb dL_law_1033 rfl (lv_at hl 0 rfl) ?_
  refine lv_iload_n hx hb dL_law_1034 rfl (lv_at hl 3 rfl) ?_
  refine lv_iconst (v := 1) hx hb dL_law_1035 (by decide) ?_
  refine lv_iadd hx hb dL_law_1036 ?_
  refine va_sld hx hb hX hbl hbA hS h_1 dL_law_1037 ?_
  refine lv_aload_n hx hb dL_law_1038 rfl (lv_at hl 0 rfl) ?_
  refine lv_iload_n hx hb dL_law_1039 rfl (lv_at hl 3 rfl) ?_
  refine lv_iconst (v := 2) hx hb dL_law_1040 (by decide) ?_
  refine lv_iadd hx hb dL_law_1041 ?_
  refine va_sld hx hb hX hbl hbA hS h_2 dL_law_1042 ?_
  refine gm_ci (gm_call (As := [.int (xs (x3 + 1).toNatClampNeg), .int (xs (x3 + 2).toNatClampNeg)]) (rest := [.int P]) (ci := 9) (q := (RX9, TX9, 15)) ⟨hx, hb, hml, hown, hts⟩ hK hc9 (cwV 2 hts gL_law_X9_event rfl rfl rfl (by decide +kernel) ⟨Nat.le_of_ble_eq_true rfl, Nat.le_of_ble_eq_true rfl⟩) (MR.mk0 hM) rfl hM rfl hl.1 rfl (Nat.le_of_ble_eq_true rfl) dL_law_1043 hc0 hs0) hS (fun _ h => h.elim) (fun H locs _ _ hfr hS => ?_)
  have hR := lw_kT hR hfr (fun _ h => h.elim)
  have hM := lw_kM hM hfr (fun _ h => h.elim)
  refine lv_icmp_eq (tgt := 1074) hx hb dL_law_1046 (by decide) (fun z => ?_) (fun z => ?_)
  · exact kk X Y H locs ⟨hR, hM, hrel, hS⟩
  · exact absurd hs1 z
set_option maxHeartbeats 4000000 in
set_option maxRecDepth 100000 in
/-- count -/
theorem lw_c31 {p : Program} {l : Launch} {e : Env} {s : State} {m : MethodId} {below : List Frame} {meth : Method} {c : Code} {D : va_G} {cy : Nat → ClassId} {b L : Nat} {xs : Nat → Int32} {Q : State → Prop} {cells slots : Nat} (C : lw_C D cy p s m c b L xs) {x3 : Int32} (h_1 : vp_in (x3 + 1) L) (h_2 : vp_in (x3 + 2) L) (h_3 : vp_in (x3 + 3) L) (h_4 : vp_in (x3 + 4) L) (h_5 : vp_in (x3 + 5) L) {X Y : gM} {H : Heap} {locs : List Loc} {ls : Array Slot} (hI : lw_I D cy s X Y H locs) (hl : lv_has ls 4 [(0, .ref b), (1, .ref s.heap.size), (2, .ref (s.heap.size + 872)), (3, .int x3)]) (hc0 : cells ≤ 600000) (hs0 : slots ≤ 7302250)
    (kk : ∀ (X Y : gM) (H : Heap) (locs : List Loc), lw_I D cy s X Y H locs → W p l e room_1 s m #[Value.ref b] below meth c H locs cells slots Q (F0 m 1074 ls [])) : W p l e room_1 s m #[Value.ref b] below meth c H locs cells slots Q (F0 m 1051 ls []) := by
  obtain ⟨hx, hb, hml, hown, hts, hX, hbl, hK⟩ := C
  obtain ⟨hR, hM, hrel, hS⟩ := hI
  have hbA : ¬ CA s.heap.size b := Nat.not_le.mpr hbl
  have hc8 := c_X8_count l D cy s.heap.size X (xs (x3 + 1).toNatClampNeg)
  have hs := q_count hrel (xs (x3 + 1).toNatClampNeg)
  have hs1 := hs.1
  have hc9 := c_X9_count l D cy (s.heap.size + 872) Y (xs (x3 + 1).toNatClampNeg) hs.2
  clear hs
  generalize f_X8_count X (xs (x3 + 1).toNatClampNeg) = P at hs1 hc8
  generalize f_X9_count Y (xs (x3 + 1).toNatClampNeg) = P2 at hs1 hc9
  refine lv_aload_n hx hb dL_law_1051 rfl (lv_at hl 1 rfl) ?_
  refine lv_aload_n hx hb dL_law_1052 rfl (lv_at hl 0 rfl) ?_
  refine lv_iload_n hx hb dL_law_1053 rfl (lv_at hl 3 rfl) ?_
  refine lv_iconst (v := 1) hx hb dL_law_1054 (by decide) ?_
  refine lv_iadd hx hb dL_law_1055 ?_
  refine va_sld hx hb hX hbl hbA hS h_1 dL_law_1056 ?_
  refine gm_ci (gm_call (As := [.int (xs (x3 + 1).toNatClampNeg)]) (rest := []) (ci := 8) (q := (RX8, TX8, 8)) ⟨hx, hb, hml, hown, hts⟩ hK hc8 (cwV 1 hts gL_law_X8_count rfl rfl rfl (by decide +kernel) ⟨Nat.le_of_ble_eq_true rfl, Nat.le_of_ble_eq_true rfl⟩) (TR.mk0 hR) rfl hR rfl hl.1 rfl (Nat.le_of_ble_eq_true rfl) dL_law_1057 hc0 hs0) hS (fun _ h => h.elim) (fun H locs _ _ hfr hS => ?_)
  have hR := lw_kT hR hfr (fun _ h => h.elim)
  have hM := lw_kM hM hfr (fun _ h => h.elim)
  refine lv_aload_n hx hb dL_law_1060 rfl (lv_at hl 2 rfl) ?_
  refine lv_aload_n hx hb dL_law_1061 rfl (lv_at hl 0 rfl) ?_
  refine lv_iload_n hx hb dL_law_1062 rfl (lv_at hl 3 rfl) ?_
  refine lv_iconst (v := 1) hx hb dL_law_1063 (by decide) ?_
  refine lv_iadd hx hb dL_law_1064 ?_
  refine va_sld hx hb hX hbl hbA hS h_1 dL_law_1065 ?_
  refine gm_ci (gm_call (As := [.int (xs (x3 + 1).toNatClampNeg)]) (rest := [.int P]) (ci := 9) (q := (RX9, TX9, 15)) ⟨hx, hb, hml, hown, hts⟩ hK hc9 (cwV 1 hts gL_law_X9_count rfl rfl rfl (by decide +kernel) ⟨Nat.le_of_ble_eq_true rfl, Nat.le_of_ble_eq_true rfl⟩) (MR.mk0 hM) rfl hM rfl hl.1 rfl (Nat.le_of_ble_eq_true rfl) dL_law_1066 hc0 hs0) hS (fun _ h => h.elim) (fun H locs _ _ hfr hS => ?_)
  have hR := lw_kT hR hfr (fun _ h => h.elim)
  have hM := lw_kM hM hfr (fun _ h => h.elim)
  refine lv_icmp_eq (tgt := 1074) hx hb dL_law_1069 (by decide) (fun z => ?_) (fun z => ?_)
  · exact kk X Y H locs ⟨hR, hM, hrel, hS⟩
  · exact absurd hs1 z
