/-! the cases of the law -/
set_option maxHeartbeats 4000000 in
set_option maxRecDepth 100000 in
/-- undo -/
theorem lw_c16 {p : Program} {l : Launch} {e : Env} {s : State} {m : MethodId} {below : List Frame} {meth : Method} {c : Code} {D : va_G} {cy : Nat → ClassId} {b L : Nat} {xs : Nat → Int32} {Q : State → Prop} {cells slots : Nat} (C : lw_C D cy p s m c b L xs) {x3 : Int32} (h_1 : vp_in (x3 + 1) L) (h_2 : vp_in (x3 + 2) L) (h_3 : vp_in (x3 + 3) L) (h_4 : vp_in (x3 + 4) L) (h_5 : vp_in (x3 + 5) L) {X Y : gM} {H : Heap} {locs : List Loc} {ls : Array Slot} (hI : lw_I D cy s X Y H locs) (hl : lv_has ls 4 [(0, .ref b), (1, .ref s.heap.size), (2, .ref (s.heap.size + 872)), (3, .int x3)]) (hc0 : cells ≤ 600000) (hs0 : slots ≤ 7302250)
    (kk : ∀ (X Y : gM) (H : Heap) (locs : List Loc), lw_I D cy s X Y H locs → W p l e room_1 s m #[Value.ref b] below meth c H locs cells slots Q (F0 m 1074 ls [])) : W p l e room_1 s m #[Value.ref b] below meth c H locs cells slots Q (F0 m 616 ls []) := by
  obtain ⟨hx, hb, hml, hown, hts, hX, hbl, hK⟩ := C
  obtain ⟨hR, hM, hrel, hS⟩ := hI
  have hbA : ¬ CA s.heap.size b := Nat.not_le.mpr hbl
  have hc8 := c_X8_undo l D cy s.heap.size X  hrel.2.2.1.ok
  have hs := s_undo hrel 
  have hs1 := hs.1
  have hs2 := hs.2.1
  have hc9 := c_X9_undo l D cy (s.heap.size + 872) Y  hs.2.2
  clear hs
  generalize p_X8_undo X  = P at hs1 hs2 hc8
  generalize p_X9_undo Y  = P2 at hs1 hs2 hc9
  refine lv_aload_n hx hb dL_law_616 rfl (lv_at hl 1 rfl) ?_
  refine gm_ci (gm_call (As := []) (rest := []) (ci := 8) (q := (RX8, TX8, 8)) ⟨hx, hb, hml, hown, hts⟩ hK hc8 (cwV 0 hts gL_law_X8_undo rfl rfl rfl (by decide +kernel) ⟨Nat.le_of_ble_eq_true rfl, Nat.le_of_ble_eq_true rfl⟩) (TR.mk0 hR) rfl hR rfl hl.1 rfl (Nat.le_of_ble_eq_true rfl) dL_law_617 hc0 hs0) hS (fun q h => gA_CA q h) (fun H locs hR _ hfr hS => ?_)
  have hM := lw_kM hM hfr (fun _ h => h)
  refine lv_aload_n hx hb dL_law_620 rfl (lv_at hl 2 rfl) ?_
  refine gm_ci (gm_call (As := []) (rest := [.int P.1]) (ci := 9) (q := (RX9, TX9, 15)) ⟨hx, hb, hml, hown, hts⟩ hK hc9 (cwV 0 hts gL_law_X9_undo rfl rfl rfl (by decide +kernel) ⟨Nat.le_of_ble_eq_true rfl, Nat.le_of_ble_eq_true rfl⟩) (MR.mk0 hM) rfl hM rfl hl.1 rfl (Nat.le_of_ble_eq_true rfl) dL_law_621 hc0 hs0) hS lw_aM (fun H locs hM _ hfr hS => ?_)
  have hR := lw_kT hR hfr (fun _ h => h)
  refine lv_icmp_eq (tgt := 1074) hx hb dL_law_624 (by decide) (fun z => ?_) (fun z => ?_)
  · exact kk P.2 P2.2 H locs ⟨hR, hM, hs2, hS⟩
  · exact absurd hs1 z
set_option maxHeartbeats 4000000 in
set_option maxRecDepth 100000 in
/-- keep -/
theorem lw_c17 {p : Program} {l : Launch} {e : Env} {s : State} {m : MethodId} {below : List Frame} {meth : Method} {c : Code} {D : va_G} {cy : Nat → ClassId} {b L : Nat} {xs : Nat → Int32} {Q : State → Prop} {cells slots : Nat} (C : lw_C D cy p s m c b L xs) {x3 : Int32} (h_1 : vp_in (x3 + 1) L) (h_2 : vp_in (x3 + 2) L) (h_3 : vp_in (x3 + 3) L) (h_4 : vp_in (x3 + 4) L) (h_5 : vp_in (x3 + 5) L) {X Y : gM} {H : Heap} {locs : List Loc} {ls : Array Slot} (hI : lw_I D cy s X Y H locs) (hl : lv_has ls 4 [(0, .ref b), (1, .ref s.heap.size), (2, .ref (s.heap.size + 872)), (3, .int x3)]) (hc0 : cells ≤ 600000) (hs0 : slots ≤ 7302250)
    (kk : ∀ (X Y : gM) (H : Heap) (locs : List Loc), lw_I D cy s X Y H locs → W p l e room_1 s m #[Value.ref b] below meth c H locs cells slots Q (F0 m 1074 ls [])) : W p l e room_1 s m #[Value.ref b] below meth c H locs cells slots Q (F0 m 629 ls []) := by
  obtain ⟨hx, hb, hml, hown, hts, hX, hbl, hK⟩ := C
  obtain ⟨hR, hM, hrel, hS⟩ := hI
  have hbA : ¬ CA s.heap.size b := Nat.not_le.mpr hbl
  have hc8 := c_X8_keep l D cy s.heap.size X 
  have hs := s_keep hrel 
  have hs1 := hs.1
  have hs2 := hs.2.1
  have hc9 := c_X9_keep l D cy (s.heap.size + 872) Y  hs.2.2
  clear hs
  generalize p_X8_keep X  = P at hs1 hs2 hc8
  generalize p_X9_keep Y  = P2 at hs1 hs2 hc9
  refine lv_aload_n hx hb dL_law_629 rfl (lv_at hl 1 rfl) ?_
  refine gm_ci (gm_call (As := []) (rest := []) (ci := 8) (q := (RX8, TX8, 8)) ⟨hx, hb, hml, hown, hts⟩ hK hc8 (cwV 0 hts gL_law_X8_keep rfl rfl rfl (by decide +kernel) ⟨Nat.le_of_ble_eq_true rfl, Nat.le_of_ble_eq_true rfl⟩) (TR.mk0 hR) rfl hR rfl hl.1 rfl (Nat.le_of_ble_eq_true rfl) dL_law_630 hc0 hs0) hS (fun q h => gA_CA q h) (fun H locs hR _ hfr hS => ?_)
  have hM := lw_kM hM hfr (fun _ h => h)
  refine lv_aload_n hx hb dL_law_633 rfl (lv_at hl 2 rfl) ?_
  refine gm_ci (gm_call (As := []) (rest := [.int P.1]) (ci := 9) (q := (RX9, TX9, 15)) ⟨hx, hb, hml, hown, hts⟩ hK hc9 (cwV 0 hts gL_law_X9_keep rfl rfl rfl (by decide +kernel) ⟨Nat.le_of_ble_eq_true rfl, Nat.le_of_ble_eq_true rfl⟩) (MR.mk0 hM) rfl hM rfl hl.1 rfl (Nat.le_of_ble_eq_true rfl) dL_law_634 hc0 hs0) hS lw_aM (fun H locs hM _ hfr hS => ?_)
  have hR := lw_kT hR hfr (fun _ h => h)
  refine lv_icmp_eq (tgt := 1074) hx hb dL_law_637 (by decide) (fun z => ?_) (fun z => ?_)
  · exact kk P.2 P2.2 H locs ⟨hR, hM, hs2, hS⟩
  · exact absurd hs1 z
set_option maxHeartbeats 4000000 in
set_option maxRecDepth 100000 in
/-- restore -/
theorem lw_c18 {p : Program} {l : Launch} {e : Env} {s : State} {m : MethodId} {below : List Frame} {meth : Method} {c : Code} {D : va_G} {cy : Nat → ClassId} {b L : Nat} {xs : Nat → Int32} {Q : State → Prop} {cells slots : Nat} (C : lw_C D cy p s m c b L xs) {x3 : Int32} (h_1 : vp_in (x3 + 1) L) (h_2 : vp_in (x3 + 2) L) (h_3 : vp_in (x3 + 3) L) (h_4 : vp_in (x3 + 4) L) (h_5 : vp_in (x3 + 5) L) {X Y : gM} {H : Heap} {locs : List Loc} {ls : Array Slot} (hI : lw_I D cy s X Y H locs) (hl : lv_has ls 4 [(0, .ref b), (1, .ref s.heap.size), (2, .ref (s.heap.size + 872)), (3, .int x3)]) (hc0 : cells ≤ 600000) (hs0 : slots ≤ 7302250)
    (kk : ∀ (X Y : gM) (H : Heap) (locs : List Loc), lw_I D cy s X Y H locs → W p l e room_1 s m #[Value.ref b] below meth c H locs cells slots Q (F0 m 1074 ls [])) : W p l e room_1 s m #[Value.ref b] below meth c H locs cells slots Q (F0 m 642 ls []) := by
  obtain ⟨hx, hb, hml, hown, hts, hX, hbl, hK⟩ := C
  obtain ⟨hR, hM, hrel, hS⟩ := hI
  have hbA : ¬ CA s.heap.size b := Nat.not_le.mpr hbl
  have hc8 := c_X8_restore l D cy s.heap.size X  hrel.2.2.1.ok
  have hs := s_restore hrel 
  have hs1 := hs.1
  have hs2 := hs.2.1
  have hc9 := c_X9_restore l D cy (s.heap.size + 872) Y  hs.2.2
  clear hs
  generalize p_X8_restore X  = P at hs1 hs2 hc8
  generalize p_X9_restore Y  = P2 at hs1 hs2 hc9
  refine lv_aload_n hx hb dL_law_642 rfl (lv_at hl 1 rfl) ?_
  refine gm_ci (gm_call (As := []) (rest := []) (ci := 8) (q := (RX8, TX8, 8)) ⟨hx, hb, hml, hown, hts⟩ hK hc8 (cwV 0 hts gL_law_X8_restore rfl rfl rfl (by decide +kernel) ⟨Nat.le_of_ble_eq_true rfl, Nat.le_of_ble_eq_true rfl⟩) (TR.mk0 hR) rfl hR rfl hl.1 rfl (Nat.le_of_ble_eq_true rfl) dL_law_643 hc0 hs0) hS (fun q h => gA_CA q h) (fun H locs hR _ hfr hS => ?_)
  have hM := lw_kM hM hfr (fun _ h => h)
  refine lv_aload_n hx hb dL_law_646 rfl (lv_at hl 2 rfl) ?_
  refine gm_ci (gm_call (As := []) (rest := [.int P.1]) (ci := 9) (q := (RX9, TX9, 15)) ⟨hx, hb, hml, hown, hts⟩ hK hc9 (cwV 0 hts gL_law_X9_restore rfl rfl rfl (by decide +kernel) ⟨Nat.le_of_ble_eq_true rfl, Nat.le_of_ble_eq_true rfl⟩) (MR.mk0 hM) rfl hM rfl hl.1 rfl (Nat.le_of_ble_eq_true rfl) dL_law_647 hc0 hs0) hS lw_aM (fun H locs hM _ hfr hS => ?_)
  have hR := lw_kT hR hfr (fun _ h => h)
  refine lv_icmp_eq (tgt := 1074) hx hb dL_law_650 (by decide) (fun z => ?_) (fun z => ?_)
  · exact kk P.2 P2.2 H locs ⟨hR, hM, hs2, hS⟩
  · exact absurd hs1 z
set_option maxHeartbeats 4000000 in
set_option maxRecDepth 100000 in
/-- line -/
theorem lw_c19 {p : Program} {l : Launch} {e : Env} {s : State} {m : MethodId} {below : List Frame} {meth : Method} {c : Code} {D : va_G} {cy : Nat → ClassId} {b L : Nat} {xs : Nat → Int32} {Q : State → Prop} {cells slots : Nat} (C : lw_C D cy p s m c b L xs) {x3 : Int32} (h_1 : vp_in (x3 + 1) L) (h_2 : vp_in (x3 + 2) L) (h_3 : vp_in (x3 + 3) L) (h_4 : vp_in (x3 + 4) L) (h_5 : vp_in (x3 + 5) L) {X Y : gM} {H : Heap} {locs : List Loc} {ls : Array Slot} (hI : lw_I D cy s X Y H locs) (hl : lv_has ls 4 [(0, .ref b), (1, .ref s.heap.size), (2, .ref (s.heap.size + 872)), (3, .int x3)]) (hc0 : cells ≤ 600000) (hs0 : slots ≤ 7302250)
    (kk : ∀ (X Y : gM) (H : Heap) (locs : List Loc), lw_I D cy s X Y H locs → W p l e room_1 s m #[Value.ref b] below meth c H locs cells slots Q (F0 m 1074 ls [])) : W p l e room_1 s m #[Value.ref b] below meth c H locs cells slots Q (F0 m 655 ls []) := by
  obtain ⟨hx, hb, hml, hown, hts, hX, hbl, hK⟩ := C
  obtain ⟨hR, hM, hrel, hS⟩ := hI
  have hbA : ¬ CA s.heap.size b := Nat.not_le.mpr hbl
  have hc8 := c_X8_line l D cy s.heap.size X (xs (x3 + 1).toNatClampNeg) (xs (x3 + 2).toNatClampNeg)
  have hs := q_line hrel (xs (x3 + 1).toNatClampNeg) (xs (x3 + 2).toNatClampNeg)
  have hs1 := hs.1
  have hc9 := c_X9_line l D cy (s.heap.size + 872) Y (xs (x3 + 1).toNatClampNeg) (xs (x3 + 2).toNatClampNeg) hs.2
  clear hs
  generalize f_X8_line X (xs (x3 + 1).toNatClampNeg) (xs (x3 + 2).toNatClampNeg) = P at hs1 hc8
  generalize f_X9_line Y (xs (x3 + 1).toNatClampNeg) (xs (x3 + 2).toNatClampNeg) = P2 at hs1 hc9
  refine lv_aload_n hx hb dL_law_655 rfl (lv_at hl 1 rfl) ?_
  refine lv_aload_n hx hb dL_law_656 rfl (lv_at hl 0 rfl) ?_
  refine lv_iload_n hx hb dL_law_657 rfl (lv_at hl 3 rfl) ?_
  refine lv_iconst (v := 1) hx hb dL_law_658 (by decide) ?_
  refine lv_iadd hx hb dL_law_659 ?_
  refine va_sld hx hb hX hbl hbA hS h_1 dL_law_660 ?_
  refine lv_aload_n hx hb dL_law_661 rfl (lv_at hl 0 rfl) ?_
  refine lv_iload_n hx hb dL_law_662 rfl (lv_at hl 3 rfl) ?_
  refine lv_iconst (v := 2) hx hb dL_law_663 (by decide) ?_
  refine lv_iadd hx hb dL_law_664 ?_
  refine va_sld hx hb hX hbl hbA hS h_2 dL_law_665 ?_
  refine gm_ci (gm_call (As := [.int (xs (x3 + 1).toNatClampNeg), .int (xs (x3 + 2).toNatClampNeg)]) (rest := []) (ci := 8) (q := (RX8, TX8, 8)) ⟨hx, hb, hml, hown, hts⟩ hK hc8 (cwV 2 hts gL_law_X8_line rfl rfl rfl (by decide +kernel) ⟨Nat.le_of_ble_eq_true rfl, Nat.le_of_ble_eq_true rfl⟩) (TR.mk0 hR) rfl hR rfl hl.1 rfl (Nat.le_of_ble_eq_true rfl) dL_law_666 hc0 hs0) hS (fun _ h => h.elim) (fun H locs _ _ hfr hS => ?_)
  have hR := lw_kT hR hfr (fun _ h => h.elim)
  have hM := lw_kM hM hfr (fun _ h => h.elim)
  refine lv_aload_n hx hb dL_law_669 rfl (lv_at hl 2 rfl) ?_
  refine lv_aload_n hx hb dL_law_670 rfl (lv_at hl 0 rfl) ?_
  refine lv_iload_n hx hb dL_law_671 rfl (lv_at hl 3 rfl) ?_
  refine lv_iconst (v := 1) hx hb dL_law_672 (by decide) ?_
  refine lv_iadd hx hb dL_law_673 ?_
  refine va_sld hx hb hX hbl hbA hS h_1 dL_law_674 ?_
  refine lv_aload_n hx hb dL_law_675 rfl (lv_at hl 0 rfl) ?_
  refine lv_iload_n hx hb dL_law_676 rfl (lv_at hl 3 rfl) ?_
  refine lv_iconst (v := 2) hx hb dL_law_677 (by decide) ?_
  refine lv_iadd hx hb dL_law_678 ?_
  refine va_sld hx hb hX hbl hbA hS h_2 dL_law_679 ?_
  refine gm_ci (gm_call (As := [.int (xs (x3 + 1).toNatClampNeg), .int (xs (x3 + 2).toNatClampNeg)]) (rest := [.int P]) (ci := 9) (q := (RX9, TX9, 15)) ⟨hx, hb, hml, hown, hts⟩ hK hc9 (cwV 2 hts gL_law_X9_line rfl rfl rfl (by decide +kernel) ⟨Nat.le_of_ble_eq_true rfl, Nat.le_of_ble_eq_true rfl⟩) (MR.mk0 hM) rfl hM rfl hl.1 rfl (Nat.le_of_ble_eq_true rfl) dL_law_680 hc0 hs0) hS (fun _ h => h.elim) (fun H locs _ _ hfr hS => ?_)
  have hR := lw_kT hR hfr (fun _ h => h.elim)
  have hM := lw_kM hM hfr (fun _ h => h.elim)
  refine lv_icmp_eq (tgt := 1074) hx hb dL_law_683 (by decide) (fun z => ?_) (fun z => ?_)
  · exact kk X Y H locs ⟨hR, hM, hrel, hS⟩
  · exact absurd hs1 z
set_option maxHeartbeats 4000000 in
set_option maxRecDepth 100000 in
/-- slot -/
theorem lw_c20 {p : Program} {l : Launch} {e : Env} {s : State} {m : MethodId} {below : List Frame} {meth : Method} {c : Code} {D : va_G} {cy : Nat → ClassId} {b L : Nat} {xs : Nat → Int32} {Q : State → Prop} {cells slots : Nat} (C : lw_C D cy p s m c b L xs) {x3 : Int32} (h_1 : vp_in (x3 + 1) L) (h_2 : vp_in (x3 + 2) L) (h_3 : vp_in (x3 + 3) L) (h_4 : vp_in (x3 + 4) L) (h_5 : vp_in (x3 + 5) L) {X Y : gM} {H : Heap} {locs : List Loc} {ls : Array Slot} (hI : lw_I D cy s X Y H locs) (hl : lv_has ls 4 [(0, .ref b), (1, .ref s.heap.size), (2, .ref (s.heap.size + 872)), (3, .int x3)]) (hc0 : cells ≤ 600000) (hs0 : slots ≤ 7302250)
    (kk : ∀ (X Y : gM) (H : Heap) (locs : List Loc), lw_I D cy s X Y H locs → W p l e room_1 s m #[Value.ref b] below meth c H locs cells slots Q (F0 m 1074 ls [])) : W p l e room_1 s m #[Value.ref b] below meth c H locs cells slots Q (F0 m 688 ls []) := by
  obtain ⟨hx, hb, hml, hown, hts, hX, hbl, hK⟩ := C
  obtain ⟨hR, hM, hrel, hS⟩ := hI
  have hbA : ¬ CA s.heap.size b := Nat.not_le.mpr hbl
  have hc8 := c_X8_slot l D cy s.heap.size X (xs (x3 + 1).toNatClampNeg) (xs (x3 + 2).toNatClampNeg)
  have hs := q_slot hrel (xs (x3 + 1).toNatClampNeg) (xs (x3 + 2).toNatClampNeg)
  have hs1 := hs.1
  have hc9 := c_X9_slot l D cy (s.heap.size + 872) Y (xs (x3 + 1).toNatClampNeg) (xs (x3 + 2).toNatClampNeg) hs.2
  clear hs
  generalize f_X8_slot X (xs (x3 + 1).toNatClampNeg) (xs (x3 + 2).toNatClampNeg) = P at hs1 hc8
  generalize f_X9_slot Y (xs (x3 + 1).toNatClampNeg) (xs (x3 + 2).toNatClampNeg) = P2 at hs1 hc9
  refine lv_aload_n hx hb dL_law_688 rfl (lv_at hl 1 rfl) ?_
  refine lv_aload_n hx hb dL_law_689 rfl (lv_at hl 0 rfl) ?_
  refine lv_iload_n hx hb dL_law_690 rfl (lv_at hl 3 rfl) ?_
  refine lv_iconst (v := 1) hx hb dL_law_691 (by decide) ?_
  refine lv_iadd hx hb dL_law_692 ?_
  refine va_sld hx hb hX hbl hbA hS h_1 dL_law_693 ?_
  refine lv_aload_n hx hb dL_law_694 rfl (lv_at hl 0 rfl) ?_
  refine lv_iload_n hx hb dL_law_695 rfl (lv_at hl 3 rfl) ?_
  refine lv_iconst (v := 2) hx hb dL_law_696 (by decide) ?_
  refine lv_iadd hx hb dL_law_697 ?_
  refine va_sld hx hb hX hbl hbA hS h_2 dL_law_698 ?_
  refine gm_ci (gm_call (As := [.int (xs (x3 + 1).toNatClampNeg), .int (xs (x3 + 2).toNatClampNeg)]) (rest := []) (ci := 8) (q := (RX8, TX8, 8)) ⟨hx, hb, hml, hown, hts⟩ hK hc8 (cwV 2 hts gL_law_X8_slot rfl rfl rfl (by decide +kernel) ⟨Nat.le_of_ble_eq_true rfl, Nat.le_of_ble_eq_true rfl⟩) (TR.mk0 hR) rfl hR rfl hl.1 rfl (Nat.le_of_ble_eq_true rfl) dL_law_699 hc0 hs0) hS (fun _ h => h.elim) (fun H locs _ _ hfr hS => ?_)
  have hR := lw_kT hR hfr (fun _ h => h.elim)
  have hM := lw_kM hM hfr (fun _ h => h.elim)
  refine lv_aload_n hx hb dL_law_702 rfl (lv_at hl 2 rfl) ?_
  refine lv_aload_n hx hb dL_law_703 rfl (lv_at hl 0 rfl) ?_
  refine lv_iload_n hx hb dL_law_704 rfl (lv_at hl 3 rfl) ?_
  refine lv_iconst (v := 1) hx hb dL_law_705 (by decide) ?_
  refine lv_iadd hx hb dL_law_706 ?_
  refine va_sld hx hb hX hbl hbA hS h_1 dL_law_707 ?_
  refine lv_aload_n hx hb dL_law_708 rfl (lv_at hl 0 rfl) ?_
  refine lv_iload_n hx hb dL_law_709 rfl (lv_at hl 3 rfl) ?_
  refine lv_iconst (v := 2) hx hb dL_law_710 (by decide) ?_
  refine lv_iadd hx hb dL_law_711 ?_
  refine va_sld hx hb hX hbl hbA hS h_2 dL_law_712 ?_
  refine gm_ci (gm_call (As := [.int (xs (x3 + 1).toNatClampNeg), .int (xs (x3 + 2).toNatClampNeg)]) (rest := [.int P]) (ci := 9) (q := (RX9, TX9, 15)) ⟨hx, hb, hml, hown, hts⟩ hK hc9 (cwV 2 hts gL_law_X9_slot rfl rfl rfl (by decide +kernel) ⟨Nat.le_of_ble_eq_true rfl, Nat.le_of_ble_eq_true rfl⟩) (MR.mk0 hM) rfl hM rfl hl.1 rfl (Nat.le_of_ble_eq_true rfl) dL_law_713 hc0 hs0) hS (fun _ h => h.elim) (fun H locs _ _ hfr hS => ?_)
  have hR := lw_kT hR hfr (fun _ h => h.elim)
  have hM := lw_kM hM hfr (fun _ h => h.elim)
  refine lv_icmp_eq (tgt := 1074) hx hb dL_law_716 (by decide) (fun z => ?_) (fun z => ?_)
  · exact kk X Y H locs ⟨hR, hM, hrel, hS⟩
  · exact absurd hs1 z
set_option maxHeartbeats 4000000 in
set_option maxRecDepth 100000 in
/-- station -/
theorem lw_c21 {p : Program} {l : Launch} {e : Env} {s : State} {m : MethodId} {below : List Frame} {meth : Method} {c : Code} {D : va_G} {cy : Nat → ClassId} {b L : Nat} {xs : Nat → Int32} {Q : State → Prop} {cells slots : Nat} (C : lw_C D cy p s m c b L xs) {x3 : Int32} (h_1 : vp_in (x3 + 1) L) (h_2 : vp_in (x3 + 2) L) (h_3 : vp_in (x3 + 3) L) (h_4 : vp_in (x3 + 4) L) (h_5 : vp_in (x3 + 5) L) {X Y : gM} {H : Heap} {locs : List Loc} {ls : Array Slot} (hI : lw_I D cy s X Y H locs) (hl : lv_has ls 4 [(0, .ref b), (1, .ref s.heap.size), (2, .ref (s.heap.size + 872)), (3, .int x3)]) (hc0 : cells ≤ 600000) (hs0 : slots ≤ 7302250)
    (kk : ∀ (X Y : gM) (H : Heap) (locs : List Loc), lw_I D cy s X Y H locs → W p l e room_1 s m #[Value.ref b] below meth c H locs cells slots Q (F0 m 1074 ls [])) : W p l e room_1 s m #[Value.ref b] below meth c H locs cells slots Q (F0 m 721 ls []) := by
  obtain ⟨hx, hb, hml, hown, hts, hX, hbl, hK⟩ := C
  obtain ⟨hR, hM, hrel, hS⟩ := hI
  have hbA : ¬ CA s.heap.size b := Nat.not_le.mpr hbl
  have hc8 := c_X8_station l D cy s.heap.size X (xs (x3 + 1).toNatClampNeg) (xs (x3 + 2).toNatClampNeg)
  have hs := q_station hrel (xs (x3 + 1).toNatClampNeg) (xs (x3 + 2).toNatClampNeg)
  have hs1 := hs.1
  have hc9 := c_X9_station l D cy (s.heap.size + 872) Y (xs (x3 + 1).toNatClampNeg) (xs (x3 + 2).toNatClampNeg) hs.2
  clear hs
  generalize f_X8_station X (xs (x3 + 1).toNatClampNeg) (xs (x3 + 2).toNatClampNeg) = P at hs1 hc8
  generalize f_X9_station Y (xs (x3 + 1).toNatClampNeg) (xs (x3 + 2).toNatClampNeg) = P2 at hs1 hc9
  refine lv_aload_n hx hb dL_law_721 rfl (lv_at hl 1 rfl) ?_
  refine lv_aload_n hx hb dL_law_722 rfl (lv_at hl 0 rfl) ?_
  refine lv_iload_n hx hb dL_law_723 rfl (lv_at hl 3 rfl) ?_
  refine lv_iconst (v := 1) hx hb dL_law_724 (by decide) ?_
  refine lv_iadd hx hb dL_law_725 ?_
  refine va_sld hx hb hX hbl hbA hS h_1 dL_law_726 ?_
  refine lv_aload_n hx hb dL_law_727 rfl (lv_at hl 0 rfl) ?_
  refine lv_iload_n hx hb dL_law_728 rfl (lv_at hl 3 rfl) ?_
  refine lv_iconst (v := 2) hx hb dL_law_729 (by decide) ?_
  refine lv_iadd hx hb dL_law_730 ?_
  refine va_sld hx hb hX hbl hbA hS h_2 dL_law_731 ?_
  refine gm_ci (gm_call (As := [.int (xs (x3 + 1).toNatClampNeg), .int (xs (x3 + 2).toNatClampNeg)]) (rest := []) (ci := 8) (q := (RX8, TX8, 8)) ⟨hx, hb, hml, hown, hts⟩ hK hc8 (cwV 2 hts gL_law_X8_station rfl rfl rfl (by decide +kernel) ⟨Nat.le_of_ble_eq_true rfl, Nat.le_of_ble_eq_true rfl⟩) (TR.mk0 hR) rfl hR rfl hl.1 rfl (Nat.le_of_ble_eq_true rfl) dL_law_732 hc0 hs0) hS (fun _ h => h.elim) (fun H locs _ _ hfr hS => ?_)
  have hR := lw_kT hR hfr (fun _ h => h.elim)
  have hM := lw_kM hM hfr (fun _ h => h.elim)
  refine lv_aload_n hx hb dL_law_735 rfl (lv_at hl 2 rfl) ?_
  refine lv_aload_n hx hb dL_law_736 rfl (lv_at hl 0 rfl) ?_
  refine lv_iload_n hx hb dL_law_737 rfl (lv_at hl 3 rfl) ?_
  refine lv_iconst (v := 1) hx hb dL_law_738 (by decide) ?_
  refine lv_iadd hx hb dL_law_739 ?_
  refine va_sld hx hb hX hbl hbA hS h_1 dL_law_740 ?_
  refine lv_aload_n hx hb dL_law_741 rfl (lv_at hl 0 rfl) ?_
  refine lv_iload_n hx hb dL_law_742 rfl (lv_at hl 3 rfl) ?_
  refine lv_iconst (v := 2) hx hb dL_law_743 (by decide) ?_
  refine lv_iadd hx hb dL_law_744 ?_
  refine va_sld hx hb hX hbl hbA hS h_2 dL_law_745 ?_
  refine gm_ci (gm_call (As := [.int (xs (x3 + 1).toNatClampNeg), .int (xs (x3 + 2).toNatClampNeg)]) (rest := [.int P]) (ci := 9) (q := (RX9, TX9, 15)) ⟨hx, hb, hml, hown, hts⟩ hK hc9 (cwV 2 hts gL_law_X9_station rfl rfl rfl (by decide +kernel) ⟨Nat.le_of_ble_eq_true rfl, Nat.le_of_ble_eq_true rfl⟩) (MR.mk0 hM) rfl hM rfl hl.1 rfl (Nat.le_of_ble_eq_true rfl) dL_law_746 hc0 hs0) hS (fun _ h => h.elim) (fun H locs _ _ hfr hS => ?_)
  have hR := lw_kT hR hfr (fun _ h => h.elim)
  have hM := lw_kM hM hfr (fun _ h => h.elim)
  refine lv_icmp_eq (tgt := 1074) hx hb dL_law_749 (by decide) (fun z => ?_) (fun z => ?_)
  · exact kk X Y H locs ⟨hR, hM, hrel, hS⟩
  · exact absurd hs1 z
set_option maxHeartbeats 4000000 in
set_option maxRecDepth 100000 in
/-- waiting -/
theorem lw_c22 {p : Program} {l : Launch} {e : Env} {s : State} {m : MethodId} {below : List Frame} {meth : Method} {c : Code} {D : va_G} {cy : Nat → ClassId} {b L : Nat} {xs : Nat → Int32} {Q : State → Prop} {cells slots : Nat} (C : lw_C D cy p s m c b L xs) {x3 : Int32} (h_1 : vp_in (x3 + 1) L) (h_2 : vp_in (x3 + 2) L) (h_3 : vp_in (x3 + 3) L) (h_4 : vp_in (x3 + 4) L) (h_5 : vp_in (x3 + 5) L) {X Y : gM} {H : Heap} {locs : List Loc} {ls : Array Slot} (hI : lw_I D cy s X Y H locs) (hl : lv_has ls 4 [(0, .ref b), (1, .ref s.heap.size), (2, .ref (s.heap.size + 872)), (3, .int x3)]) (hc0 : cells ≤ 600000) (hs0 : slots ≤ 7302250)
    (kk : ∀ (X Y : gM) (H : Heap) (locs : List Loc), lw_I D cy s X Y H locs → W p l e room_1 s m #[Value.ref b] below meth c H locs cells slots Q (F0 m 1074 ls [])) : W p l e room_1 s m #[Value.ref b] below meth c H locs cells slots Q (F0 m 754 ls []) := by
  obtain ⟨hx, hb, hml, hown, hts, hX, hbl, hK⟩ := C
  obtain ⟨hR, hM, hrel, hS⟩ := hI
  have hbA : ¬ CA s.heap.size b := Nat.not_le.mpr hbl
  have hc8 := c_X8_waiting l D cy s.heap.size X (xs (x3 + 1).toNatClampNeg) (xs (x3 + 2).toNatClampNeg)
  have hs := q_waiting hrel (xs (x3 + 1).toNatClampNeg) (xs (x3 + 2).toNatClampNeg)
  have hs1 := hs.1
  have hc9 := c_X9_waiting l D cy (s.heap.size + 872) Y (xs (x3 + 1).toNatClampNeg) (xs (x3 + 2).toNatClampNeg) hs.2
  clear hs
  generalize f_X8_waiting X (xs (x3 + 1).toNatClampNeg) (xs (x3 + 2).toNatClampNeg) = P at hs1 hc8
  generalize f_X9_waiting Y (xs (x3 + 1).toNatClampNeg) (xs (x3 + 2).toNatClampNeg) = P2 at hs1 hc9
  refine lv_aload_n hx hb dL_law_754 rfl (lv_at hl 1 rfl) ?_
  refine lv_aload_n hx hb dL_law_755 rfl (lv_at hl 0 rfl) ?_
  refine lv_iload_n hx hb dL_law_756 rfl (lv_at hl 3 rfl) ?_
  refine lv_iconst (v := 1) hx hb dL_law_757 (by decide) ?_
  refine lv_iadd hx hb dL_law_758 ?_
  refine va_sld hx hb hX hbl hbA hS h_1 dL_law_759 ?_
  refine lv_aload_n hx hb dL_law_760 rfl (lv_at hl 0 rfl) ?_
  refine lv_iload_n hx hb dL_law_761 rfl (lv_at hl 3 rfl) ?_
  refine lv_iconst (v := 2) hx hb dL_law_762 (by decide) ?_
  refine lv_iadd hx hb dL_law_763 ?_
  refine va_sld hx hb hX hbl hbA hS h_2 dL_law_764 ?_
  refine gm_ci (gm_call (As := [.int (xs (x3 + 1).toNatClampNeg), .int (xs (x3 + 2).toNatClampNeg)]) (rest := []) (ci := 8) (q := (RX8, TX8, 8)) ⟨hx, hb, hml, hown, hts⟩ hK hc8 (cwV 2 hts gL_law_X8_waiting rfl rfl rfl (by decide +kernel) ⟨Nat.le_of_ble_eq_true rfl, Nat.le_of_ble_eq_true rfl⟩) (TR.mk0 hR) rfl hR rfl hl.1 rfl (Nat.le_of_ble_eq_true rfl) dL_law_765 hc0 hs0) hS (fun _ h => h.elim) (fun H locs _ _ hfr hS => ?_)
  have hR := lw_kT hR hfr (fun _ h => h.elim)
  have hM := lw_kM hM hfr (fun _ h => h.elim)
  refine lv_aload_n hx hb dL_law_768 rfl (lv_at hl 2 rfl) ?_
  refine lv_aload_n hx hb dL_law_769 rfl (lv_at hl 0 rfl) ?_
  refine lv_iload_n hx hb dL_law_770 rfl (lv_at hl 3 rfl) ?_
  refine lv_iconst (v := 1) hx hb dL_law_771 (by decide) ?_
  refine lv_iadd hx hb dL_law_772 ?_
  refine va_sld hx hb hX hbl hbA hS h_1 dL_law_773 ?_
  refine lv_aload_n hx hb dL_law_774 rfl (lv_at hl 0 rfl) ?_
  refine lv_iload_n hx hb dL_law_775 rfl (lv_at hl 3 rfl) ?_
  refine lv_iconst (v := 2) hx hb dL_law_776 (by decide) ?_
  refine lv_iadd hx hb dL_law_777 ?_
  refine va_sld hx hb hX hbl hbA hS h_2 dL_law_778 ?_
  refine gm_ci (gm_call (As := [.int (xs (x3 + 1).toNatClampNeg), .int (xs (x3 + 2).toNatClampNeg)]) (rest := [.int P]) (ci := 9) (q := (RX9, TX9, 15)) ⟨hx, hb, hml, hown, hts⟩ hK hc9 (cwV 2 hts gL_law_X9_waiting rfl rfl rfl (by decide +kernel) ⟨Nat.le_of_ble_eq_true rfl, Nat.le_of_ble_eq_true rfl⟩) (MR.mk0 hM) rfl hM rfl hl.1 rfl (Nat.le_of_ble_eq_true rfl) dL_law_779 hc0 hs0) hS (fun _ h => h.elim) (fun H locs _ _ hfr hS => ?_)
  have hR := lw_kT hR hfr (fun _ h => h.elim)
  have hM := lw_kM hM hfr (fun _ h => h.elim)
  refine lv_icmp_eq (tgt := 1074) hx hb dL_law_782 (by decide) (fun z => ?_) (fun z => ?_)
  · exact kk X Y H locs ⟨hR, hM, hrel, hS⟩
  · exact absurd hs1 z
set_option maxHeartbeats 4000000 in
set_option maxRecDepth 100000 in
/-- calls -/
theorem lw_c23 {p : Program} {l : Launch} {e : Env} {s : State} {m : MethodId} {below : List Frame} {meth : Method} {c : Code} {D : va_G} {cy : Nat → ClassId} {b L : Nat} {xs : Nat → Int32} {Q : State → Prop} {cells slots : Nat} (C : lw_C D cy p s m c b L xs) {x3 : Int32} (h_1 : vp_in (x3 + 1) L) (h_2 : vp_in (x3 + 2) L) (h_3 : vp_in (x3 + 3) L) (h_4 : vp_in (x3 + 4) L) (h_5 : vp_in (x3 + 5) L) {X Y : gM} {H : Heap} {locs : List Loc} {ls : Array Slot} (hI : lw_I D cy s X Y H locs) (hl : lv_has ls 4 [(0, .ref b), (1, .ref s.heap.size), (2, .ref (s.heap.size + 872)), (3, .int x3)]) (hc0 : cells ≤ 600000) (hs0 : slots ≤ 7302250)
    (kk : ∀ (X Y : gM) (H : Heap) (locs : List Loc), lw_I D cy s X Y H locs → W p l e room_1 s m #[Value.ref b] below meth c H locs cells slots Q (F0 m 1074 ls [])) : W p l e room_1 s m #[Value.ref b] below meth c H locs cells slots Q (F0 m 787 ls []) := by
  obtain ⟨hx, hb, hml, hown, hts, hX, hbl, hK⟩ := C
  obtain ⟨hR, hM, hrel, hS⟩ := hI
  have hbA : ¬ CA s.heap.size b := Nat.not_le.mpr hbl
  have hc8 := c_X8_calls l D cy s.heap.size X (xs (x3 + 1).toNatClampNeg) (xs (x3 + 2).toNatClampNeg)
  have hs := q_calls hrel (xs (x3 + 1).toNatClampNeg) (xs (x3 + 2).toNatClampNeg)
  have hs1 := hs.1
  have hc9 := c_X9_calls l D cy (s.heap.size + 872) Y (xs (x3 + 1).toNatClampNeg) (xs (x3 + 2).toNatClampNeg) hs.2
  clear hs
  generalize f_X8_calls X (xs (x3 + 1).toNatClampNeg) (xs (x3 + 2).toNatClampNeg) = P at hs1 hc8
  generalize f_X9_calls Y (xs (x3 + 1).toNatClampNeg) (xs (x3 + 2).toNatClampNeg) = P2 at hs1 hc9
  refine lv_aload_n hx hb dL_law_787 rfl (lv_at hl 1 rfl) ?_
  refine lv_aload_n hx hb dL_law_788 rfl (lv_at hl 0 rfl) ?_
  refine lv_iload_n hx hb dL_law_789 rfl (lv_at hl 3 rfl) ?_
  refine lv_iconst (v := 1) hx hb dL_law_790 (by decide) ?_
  refine lv_iadd hx hb dL_law_791 ?_
  refine va_sld hx hb hX hbl hbA hS h_1 dL_law_792 ?_
  refine lv_aload_n hx hb dL_law_793 rfl (lv_at hl 0 rfl) ?_
  refine lv_iload_n hx hb dL_law_794 rfl (lv_at hl 3 rfl) ?_
  refine lv_iconst (v := 2) hx hb dL_law_795 (by decide) ?_
  refine lv_iadd hx hb dL_law_796 ?_
  refine va_sld hx hb hX hbl hbA hS h_2 dL_law_797 ?_
  refine gm_ci (gm_call (As := [.int (xs (x3 + 1).toNatClampNeg), .int (xs (x3 + 2).toNatClampNeg)]) (rest := []) (ci := 8) (q := (RX8, TX8, 8)) ⟨hx, hb, hml, hown, hts⟩ hK hc8 (cwV 2 hts gL_law_X8_calls rfl rfl rfl (by decide +kernel) ⟨Nat.le_of_ble_eq_true rfl, Nat.le_of_ble_eq_true rfl⟩) (TR.mk0 hR) rfl hR rfl hl.1 rfl (Nat.le_of_ble_eq_true rfl) dL_law_798 hc0 hs0) hS (fun _ h => h.elim) (fun H locs _ _ hfr hS => ?_)
  have hR := lw_kT hR hfr (fun _ h => h.elim)
  have hM := lw_kM hM hfr (fun _ h => h.elim)
  refine lv_aload_n hx hb dL_law_801 rfl (lv_at hl 2 rfl) ?_
  refine lv_aload_n hx hb dL_law_802 rfl (lv_at hl 0 rfl) ?_
  refine lv_iload_n hx hb dL_law_803 rfl (lv_at hl 3 rfl) ?_
  refine lv_iconst (v := 1) hx hb dL_law_804 (by decide) ?_
  refine lv_iadd hx hb dL_law_805 ?_
  refine va_sld hx hb hX hbl hbA hS h_1 dL_law_806 ?_
  refine lv_aload_n hx hb dL_law_807 rfl (lv_at hl 0 rfl) ?_
  refine lv_iload_n hx hb dL_law_808 rfl (lv_at hl 3 rfl) ?_
  refine lv_iconst (v := 2) hx hb dL_law_809 (by decide) ?_
  refine lv_iadd hx hb dL_law_810 ?_
  refine va_sld hx hb hX hbl hbA hS h_2 dL_law_811 ?_
  refine gm_ci (gm_call (As := [.int (xs (x3 + 1).toNatClampNeg), .int (xs (x3 + 2).toNatClampNeg)]) (rest := [.int P]) (ci := 9) (q := (RX9, TX9, 15)) ⟨hx, hb, hml, hown, hts⟩ hK hc9 (cwV 2 hts gL_law_X9_calls rfl rfl rfl (by decide +kernel) ⟨Nat.le_of_ble_eq_true rfl, Nat.le_of_ble_eq_true rfl⟩) (MR.mk0 hM) rfl hM rfl hl.1 rfl (Nat.le_of_ble_eq_true rfl) dL_law_812 hc0 hs0) hS (fun _ h => h.elim) (fun H locs _ _ hfr hS => ?_)
  have hR := lw_kT hR hfr (fun _ h => h.elim)
  have hM := lw_kM hM hfr (fun _ h => h.elim)
  refine lv_icmp_eq (tgt := 1074) hx hb dL_law_815 (by decide) (fun z => ?_) (fun z => ?_)
  · exact kk X Y H locs ⟨hR, hM, hrel, hS⟩
  · exact absurd hs1 z
