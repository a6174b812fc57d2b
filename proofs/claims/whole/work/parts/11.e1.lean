/-! the cases of the law -/
set_option maxHeartbeats 4000000 in
set_option maxRecDepth 100000 in
/-- call -/
theorem lw_c8 {p : Program} {l : Launch} {e : Env} {s : State} {m : MethodId} {below : List Frame} {meth : Method} {c : Code} {D : va_G} {cy : Nat → ClassId} {b L : Nat} {xs : Nat → Int32} {Q : State → Prop} {cells slots : Nat} (C : lw_C D cy p s m c b L xs) {x3 : Int32} (h_1 : vp_in (x3 + 1) L) (h_2 : vp_in (x3 + 2) L) (h_3 : vp_in (x3 + 3) L) (h_4 : vp_in (x3 + 4) L) (h_5 : vp_in (x3 + 5) L) {X Y : gM} {H : Heap} {locs : List Loc} {ls : Array Slot} (hI : lw_I D cy s X Y H locs) (hl : lv_has ls 4 [(0, .ref b), (1, .ref s.heap.size), (2, .ref (s.heap.size + 872)), (3, .int x3)]) (hc0 : cells ≤ 600000) (hs0 : slots ≤ 7302250)
    (kk : ∀ (X Y : gM) (H : Heap) (locs : List Loc), lw_I D cy s X Y H locs → W p l e room_1 s m #[Value.ref b] below meth c H locs cells slots Q (F0 m 1074 ls [])) : W p l e room_1 s m #[Value.ref b] below meth c H locs cells slots Q (F0 m 430 ls []) := by
  obtain ⟨hx, hb, hml, hown, hts, hX, hbl, hK⟩ := C
  obtain ⟨hR, hM, hrel, hS⟩ := hI
  have hbA : ¬ CA s.heap.size b := Nat.not_le.mpr hbl
  have hc8 := c_X8_call l D cy s.heap.size X (xs (x3 + 1).toNatClampNeg) (xs (x3 + 2).toNatClampNeg) hrel.2.2.1.ok
  have hs := s_call hrel (xs (x3 + 1).toNatClampNeg) (xs (x3 + 2).toNatClampNeg)
  have hs1 := hs.1
  have hs2 := hs.2.1
  have hc9 := c_X9_call l D cy (s.heap.size + 872) Y (xs (x3 + 1).toNatClampNeg) (xs (x3 + 2).toNatClampNeg) hs.2.2
  clear hs
  generalize p_X8_call X (xs (x3 + 1).toNatClampNeg) (xs (x3 + 2).toNatClampNeg) = P at hs1 hs2 hc8
  generalize p_X9_call Y (xs (x3 + 1).toNatClampNeg) (xs (x3 + 2).toNatClampNeg) = P2 at hs1 hs2 hc9
  refine lv_aload_n hx hb dL_law_430 rfl (lv_at hl 1 rfl) ?_
  refine lv_aload_n hx hb dL_law_431 rfl (lv_at hl 0 rfl) ?_
  refine lv_iload_n hx hb dL_law_432 rfl (lv_at hl 3 rfl) ?_
  refine lv_iconst (v := 1) hx hb dL_law_433 (by decide) ?_
  refine lv_iadd hx hb dL_law_434 ?_
  refine va_sld hx hb hX hbl hbA hS h_1 dL_law_435 ?_
  refine lv_aload_n hx hb dL_law_436 rfl (lv_at hl 0 rfl) ?_
  refine lv_iload_n hx hb dL_law_437 rfl (lv_at hl 3 rfl) ?_
  refine lv_iconst (v := 2) hx hb dL_law_438 (by decide) ?_
  refine lv_iadd hx hb dL_law_439 ?_
  refine va_sld hx hb hX hbl hbA hS h_2 dL_law_440 ?_
  refine gm_ci (gm_call (As := [.int (xs (x3 + 1).toNatClampNeg), .int (xs (x3 + 2).toNatClampNeg)]) (rest := []) (ci := 8) (q := (RX8, TX8, 8)) ⟨hx, hb, hml, hown, hts⟩ hK hc8 (cwV 2 hts gL_law_X8_call rfl rfl rfl (by decide +kernel) ⟨Nat.le_of_ble_eq_true rfl, Nat.le_of_ble_eq_true rfl⟩) (TR.mk0 hR) rfl hR rfl hl.1 rfl (Nat.le_of_ble_eq_true rfl) dL_law_441 hc0 hs0) hS (fun q h => gA_CA q h) (fun H locs hR _ hfr hS => ?_)
  have hM := lw_kM hM hfr (fun _ h => h)
  refine lv_aload_n hx hb dL_law_444 rfl (lv_at hl 2 rfl) ?_
  refine lv_aload_n hx hb dL_law_445 rfl (lv_at hl 0 rfl) ?_
  refine lv_iload_n hx hb dL_law_446 rfl (lv_at hl 3 rfl) ?_
  refine lv_iconst (v := 1) hx hb dL_law_447 (by decide) ?_
  refine lv_iadd hx hb dL_law_448 ?_
  refine va_sld hx hb hX hbl hbA hS h_1 dL_law_449 ?_
  refine lv_aload_n hx hb dL_law_450 rfl (lv_at hl 0 rfl) ?_
  refine lv_iload_n hx hb dL_law_451 rfl (lv_at hl 3 rfl) ?_
  refine lv_iconst (v := 2) hx hb dL_law_452 (by decide) ?_
  refine lv_iadd hx hb dL_law_453 ?_
  refine va_sld hx hb hX hbl hbA hS h_2 dL_law_454 ?_
  refine gm_ci (gm_call (As := [.int (xs (x3 + 1).toNatClampNeg), .int (xs (x3 + 2).toNatClampNeg)]) (rest := [.int P.1]) (ci := 9) (q := (RX9, TX9, 15)) ⟨hx, hb, hml, hown, hts⟩ hK hc9 (cwV 2 hts gL_law_X9_call rfl rfl rfl (by decide +kernel) ⟨Nat.le_of_ble_eq_true rfl, Nat.le_of_ble_eq_true rfl⟩) (MR.mk0 hM) rfl hM rfl hl.1 rfl (Nat.le_of_ble_eq_true rfl) dL_law_455 hc0 hs0) hS lw_aM (fun H locs hM _ hfr hS => ?_)
  have hR := lw_kT hR hfr (fun _ h => h)
  refine lv_icmp_eq (tgt := 1074) hx hb dL_law_458 (by decide) (fun z => ?_) (fun z => ?_)
  · exact kk P.2 P2.2 H locs ⟨hR, hM, hs2, hS⟩
  · exact absurd hs1 z
set_option maxHeartbeats 4000000 in
set_option maxRecDepth 100000 in
/-- callBack -/
theorem lw_c9 {p : Program} {l : Launch} {e : Env} {s : State} {m : MethodId} {below : List Frame} {meth : Method} {c : Code} {D : va_G} {cy : Nat → ClassId} {b L : Nat} {xs : Nat → Int32} {Q : State → Prop} {cells slots : Nat} (C : lw_C D cy p s m c b L xs) {x3 : Int32} (h_1 : vp_in (x3 + 1) L) (h_2 : vp_in (x3 + 2) L) (h_3 : vp_in (x3 + 3) L) (h_4 : vp_in (x3 + 4) L) (h_5 : vp_in (x3 + 5) L) {X Y : gM} {H : Heap} {locs : List Loc} {ls : Array Slot} (hI : lw_I D cy s X Y H locs) (hl : lv_has ls 4 [(0, .ref b), (1, .ref s.heap.size), (2, .ref (s.heap.size + 872)), (3, .int x3)]) (hc0 : cells ≤ 600000) (hs0 : slots ≤ 7302250)
    (kk : ∀ (X Y : gM) (H : Heap) (locs : List Loc), lw_I D cy s X Y H locs → W p l e room_1 s m #[Value.ref b] below meth c H locs cells slots Q (F0 m 1074 ls [])) : W p l e room_1 s m #[Value.ref b] below meth c H locs cells slots Q (F0 m 463 ls []) := by
  obtain ⟨hx, hb, hml, hown, hts, hX, hbl, hK⟩ := C
  obtain ⟨hR, hM, hrel, hS⟩ := hI
  have hbA : ¬ CA s.heap.size b := Nat.not_le.mpr hbl
  have hc8 := c_X8_callBack l D cy s.heap.size X (xs (x3 + 1).toNatClampNeg) hrel.2.2.1.ok
  have hs := s_callBack hrel (xs (x3 + 1).toNatClampNeg)
  have hs1 := hs.1
  have hs2 := hs.2.1
  have hc9 := c_X9_callBack l D cy (s.heap.size + 872) Y (xs (x3 + 1).toNatClampNeg) hs.2.2
  clear hs
  generalize p_X8_callBack X (xs (x3 + 1).toNatClampNeg) = P at hs1 hs2 hc8
  generalize p_X9_callBack Y (xs (x3 + 1).toNatClampNeg) = P2 at hs1 hs2 hc9
  refine lv_aload_n hx hb dL_law_463 rfl (lv_at hl 1 rfl) ?_
  refine lv_aload_n hx hb dL_law_464 rfl (lv_at hl 0 rfl) ?_
  refine lv_iload_n hx hb dL_law_465 rfl (lv_at hl 3 rfl) ?_
  refine lv_iconst (v := 1) hx hb dL_law_466 (by decide) ?_
  refine lv_iadd hx hb dL_law_467 ?_
  refine va_sld hx hb hX hbl hbA hS h_1 dL_law_468 ?_
  refine gm_ci (gm_call (As := [.int (xs (x3 + 1).toNatClampNeg)]) (rest := []) (ci := 8) (q := (RX8, TX8, 8)) ⟨hx, hb, hml, hown, hts⟩ hK hc8 (cwV 1 hts gL_law_X8_callBack rfl rfl rfl (by decide +kernel) ⟨Nat.le_of_ble_eq_true rfl, Nat.le_of_ble_eq_true rfl⟩) (TR.mk0 hR) rfl hR rfl hl.1 rfl (Nat.le_of_ble_eq_true rfl) dL_law_469 hc0 hs0) hS (fun q h => gA_CA q h) (fun H locs hR _ hfr hS => ?_)
  have hM := lw_kM hM hfr (fun _ h => h)
  refine lv_aload_n hx hb dL_law_472 rfl (lv_at hl 2 rfl) ?_
  refine lv_aload_n hx hb dL_law_473 rfl (lv_at hl 0 rfl) ?_
  refine lv_iload_n hx hb dL_law_474 rfl (lv_at hl 3 rfl) ?_
  refine lv_iconst (v := 1) hx hb dL_law_475 (by decide) ?_
  refine lv_iadd hx hb dL_law_476 ?_
  refine va_sld hx hb hX hbl hbA hS h_1 dL_law_477 ?_
  refine gm_ci (gm_call (As := [.int (xs (x3 + 1).toNatClampNeg)]) (rest := [.int P.1]) (ci := 9) (q := (RX9, TX9, 15)) ⟨hx, hb, hml, hown, hts⟩ hK hc9 (cwV 1 hts gL_law_X9_callBack rfl rfl rfl (by decide +kernel) ⟨Nat.le_of_ble_eq_true rfl, Nat.le_of_ble_eq_true rfl⟩) (MR.mk0 hM) rfl hM rfl hl.1 rfl (Nat.le_of_ble_eq_true rfl) dL_law_478 hc0 hs0) hS lw_aM (fun H locs hM _ hfr hS => ?_)
  have hR := lw_kT hR hfr (fun _ h => h)
  refine lv_icmp_eq (tgt := 1074) hx hb dL_law_481 (by decide) (fun z => ?_) (fun z => ?_)
  · exact kk P.2 P2.2 H locs ⟨hR, hM, hs2, hS⟩
  · exact absurd hs1 z
set_option maxHeartbeats 4000000 in
set_option maxRecDepth 100000 in
/-- order -/
theorem lw_c10 {p : Program} {l : Launch} {e : Env} {s : State} {m : MethodId} {below : List Frame} {meth : Method} {c : Code} {D : va_G} {cy : Nat → ClassId} {b L : Nat} {xs : Nat → Int32} {Q : State → Prop} {cells slots : Nat} (C : lw_C D cy p s m c b L xs) {x3 : Int32} (h_1 : vp_in (x3 + 1) L) (h_2 : vp_in (x3 + 2) L) (h_3 : vp_in (x3 + 3) L) (h_4 : vp_in (x3 + 4) L) (h_5 : vp_in (x3 + 5) L) {X Y : gM} {H : Heap} {locs : List Loc} {ls : Array Slot} (hI : lw_I D cy s X Y H locs) (hl : lv_has ls 4 [(0, .ref b), (1, .ref s.heap.size), (2, .ref (s.heap.size + 872)), (3, .int x3)]) (hc0 : cells ≤ 600000) (hs0 : slots ≤ 7302250)
    (kk : ∀ (X Y : gM) (H : Heap) (locs : List Loc), lw_I D cy s X Y H locs → W p l e room_1 s m #[Value.ref b] below meth c H locs cells slots Q (F0 m 1074 ls [])) : W p l e room_1 s m #[Value.ref b] below meth c H locs cells slots Q (F0 m 486 ls []) := by
  obtain ⟨hx, hb, hml, hown, hts, hX, hbl, hK⟩ := C
  obtain ⟨hR, hM, hrel, hS⟩ := hI
  have hbA : ¬ CA s.heap.size b := Nat.not_le.mpr hbl
  have hc8 := c_X8_order l D cy s.heap.size X (xs (x3 + 1).toNatClampNeg) (xs (x3 + 2).toNatClampNeg) hrel.2.2.1.ok
  have hs := s_order hrel (xs (x3 + 1).toNatClampNeg) (xs (x3 + 2).toNatClampNeg)
  have hs1 := hs.1
  have hs2 := hs.2.1
  have hc9 := c_X9_order l D cy (s.heap.size + 872) Y (xs (x3 + 1).toNatClampNeg) (xs (x3 + 2).toNatClampNeg) hs.2.2
  clear hs
  generalize p_X8_order X (xs (x3 + 1).toNatClampNeg) (xs (x3 + 2).toNatClampNeg) = P at hs1 hs2 hc8
  generalize p_X9_order Y (xs (x3 + 1).toNatClampNeg) (xs (x3 + 2).toNatClampNeg) = P2 at hs1 hs2 hc9
  refine lv_aload_n hx hb dL_law_486 rfl (lv_at hl 1 rfl) ?_
  refine lv_aload_n hx hb dL_law_487 rfl (lv_at hl 0 rfl) ?_
  refine lv_iload_n hx hb dL_law_488 rfl (lv_at hl 3 rfl) ?_
  refine lv_iconst (v := 1) hx hb dL_law_489 (by decide) ?_
  refine lv_iadd hx hb dL_law_490 ?_
  refine va_sld hx hb hX hbl hbA hS h_1 dL_law_491 ?_
  refine lv_aload_n hx hb dL_law_492 rfl (lv_at hl 0 rfl) ?_
  refine lv_iload_n hx hb dL_law_493 rfl (lv_at hl 3 rfl) ?_
  refine lv_iconst (v := 2) hx hb dL_law_494 (by decide) ?_
  refine lv_iadd hx hb dL_law_495 ?_
  refine va_sld hx hb hX hbl hbA hS h_2 dL_law_496 ?_
  refine gm_ci (gm_call (As := [.int (xs (x3 + 1).toNatClampNeg), .int (xs (x3 + 2).toNatClampNeg)]) (rest := []) (ci := 8) (q := (RX8, TX8, 8)) ⟨hx, hb, hml, hown, hts⟩ hK hc8 (cwV 2 hts gL_law_X8_order rfl rfl rfl (by decide +kernel) ⟨Nat.le_of_ble_eq_true rfl, Nat.le_of_ble_eq_true rfl⟩) (TR.mk0 hR) rfl hR rfl hl.1 rfl (Nat.le_of_ble_eq_true rfl) dL_law_497 hc0 hs0) hS (fun q h => gA_CA q h) (fun H locs hR _ hfr hS => ?_)
  have hM := lw_kM hM hfr (fun _ h => h)
  refine lv_aload_n hx hb dL_law_500 rfl (lv_at hl 2 rfl) ?_
  refine lv_aload_n hx hb dL_law_501 rfl (lv_at hl 0 rfl) ?_
  refine lv_iload_n hx hb dL_law_502 rfl (lv_at hl 3 rfl) ?_
  refine lv_iconst (v := 1) hx hb dL_law_503 (by decide) ?_
  refine lv_iadd hx hb dL_law_504 ?_
  refine va_sld hx hb hX hbl hbA hS h_1 dL_law_505 ?_
  refine lv_aload_n hx hb dL_law_506 rfl (lv_at hl 0 rfl) ?_
  refine lv_iload_n hx hb dL_law_507 rfl (lv_at hl 3 rfl) ?_
  refine lv_iconst (v := 2) hx hb dL_law_508 (by decide) ?_
  refine lv_iadd hx hb dL_law_509 ?_
  refine va_sld hx hb hX hbl hbA hS h_2 dL_law_510 ?_
  refine gm_ci (gm_call (As := [.int (xs (x3 + 1).toNatClampNeg), .int (xs (x3 + 2).toNatClampNeg)]) (rest := [.int P.1]) (ci := 9) (q := (RX9, TX9, 15)) ⟨hx, hb, hml, hown, hts⟩ hK hc9 (cwV 2 hts gL_law_X9_order rfl rfl rfl (by decide +kernel) ⟨Nat.le_of_ble_eq_true rfl, Nat.le_of_ble_eq_true rfl⟩) (MR.mk0 hM) rfl hM rfl hl.1 rfl (Nat.le_of_ble_eq_true rfl) dL_law_511 hc0 hs0) hS lw_aM (fun H locs hM _ hfr hS => ?_)
  have hR := lw_kT hR hfr (fun _ h => h)
  refine lv_icmp_eq (tgt := 1074) hx hb dL_law_514 (by decide) (fun z => ?_) (fun z => ?_)
  · exact kk P.2 P2.2 H locs ⟨hR, hM, hs2, hS⟩
  · exact absurd hs1 z
set_option maxHeartbeats 4000000 in
set_option maxRecDepth 100000 in
/-- endOrder -/
theorem lw_c11 {p : Program} {l : Launch} {e : Env} {s : State} {m : MethodId} {below : List Frame} {meth : Method} {c : Code} {D : va_G} {cy : Nat → ClassId} {b L : Nat} {xs : Nat → Int32} {Q : State → Prop} {cells slots : Nat} (C : lw_C D cy p s m c b L xs) {x3 : Int32} (h_1 : vp_in (x3 + 1) L) (h_2 : vp_in (x3 + 2) L) (h_3 : vp_in (x3 + 3) L) (h_4 : vp_in (x3 + 4) L) (h_5 : vp_in (x3 + 5) L) {X Y : gM} {H : Heap} {locs : List Loc} {ls : Array Slot} (hI : lw_I D cy s X Y H locs) (hl : lv_has ls 4 [(0, .ref b), (1, .ref s.heap.size), (2, .ref (s.heap.size + 872)), (3, .int x3)]) (hc0 : cells ≤ 600000) (hs0 : slots ≤ 7302250)
    (kk : ∀ (X Y : gM) (H : Heap) (locs : List Loc), lw_I D cy s X Y H locs → W p l e room_1 s m #[Value.ref b] below meth c H locs cells slots Q (F0 m 1074 ls [])) : W p l e room_1 s m #[Value.ref b] below meth c H locs cells slots Q (F0 m 519 ls []) := by
  obtain ⟨hx, hb, hml, hown, hts, hX, hbl, hK⟩ := C
  obtain ⟨hR, hM, hrel, hS⟩ := hI
  have hbA : ¬ CA s.heap.size b := Nat.not_le.mpr hbl
  have hc8 := c_X8_endOrder l D cy s.heap.size X (xs (x3 + 1).toNatClampNeg) hrel.2.2.1.ok
  have hs := s_endOrder hrel (xs (x3 + 1).toNatClampNeg)
  have hs1 := hs.1
  have hs2 := hs.2.1
  have hc9 := c_X9_endOrder l D cy (s.heap.size + 872) Y (xs (x3 + 1).toNatClampNeg) hs.2.2
  clear hs
  generalize p_X8_endOrder X (xs (x3 + 1).toNatClampNeg) = P at hs1 hs2 hc8
  generalize p_X9_endOrder Y (xs (x3 + 1).toNatClampNeg) = P2 at hs1 hs2 hc9
  refine lv_aload_n hx hb dL_law_519 rfl (lv_at hl 1 rfl) ?_
  refine lv_aload_n hx hb dL_law_520 rfl (lv_at hl 0 rfl) ?_
  refine lv_iload_n hx hb dL_law_521 rfl (lv_at hl 3 rfl) ?_
  refine lv_iconst (v := 1) hx hb dL_law_522 (by decide) ?_
  refine lv_iadd hx hb dL_law_523 ?_
  refine va_sld hx hb hX hbl hbA hS h_1 dL_law_524 ?_
  refine gm_ci (gm_call (As := [.int (xs (x3 + 1).toNatClampNeg)]) (rest := []) (ci := 8) (q := (RX8, TX8, 8)) ⟨hx, hb, hml, hown, hts⟩ hK hc8 (cwV 1 hts gL_law_X8_endOrder rfl rfl rfl (by decide +kernel) ⟨Nat.le_of_ble_eq_true rfl, Nat.le_of_ble_eq_true rfl⟩) (TR.mk0 hR) rfl hR rfl hl.1 rfl (Nat.le_of_ble_eq_true rfl) dL_law_525 hc0 hs0) hS (fun q h => gA_CA q h) (fun H locs hR _ hfr hS => ?_)
  have hM := lw_kM hM hfr (fun _ h => h)
  refine lv_aload_n hx hb dL_law_528 rfl (lv_at hl 2 rfl) ?_
  refine lv_aload_n hx hb dL_law_529 rfl (lv_at hl 0 rfl) ?_
  refine lv_iload_n hx hb dL_law_530 rfl (lv_at hl 3 rfl) ?_
  refine lv_iconst (v := 1) hx hb dL_law_531 (by decide) ?_
  refine lv_iadd hx hb dL_law_532 ?_
  refine va_sld hx hb hX hbl hbA hS h_1 dL_law_533 ?_
  refine gm_ci (gm_call (As := [.int (xs (x3 + 1).toNatClampNeg)]) (rest := [.int P.1]) (ci := 9) (q := (RX9, TX9, 15)) ⟨hx, hb, hml, hown, hts⟩ hK hc9 (cwV 1 hts gL_law_X9_endOrder rfl rfl rfl (by decide +kernel) ⟨Nat.le_of_ble_eq_true rfl, Nat.le_of_ble_eq_true rfl⟩) (MR.mk0 hM) rfl hM rfl hl.1 rfl (Nat.le_of_ble_eq_true rfl) dL_law_534 hc0 hs0) hS lw_aM (fun H locs hM _ hfr hS => ?_)
  have hR := lw_kT hR hfr (fun _ h => h)
  refine lv_icmp_eq (tgt := 1074) hx hb dL_law_537 (by decide) (fun z => ?_) (fun z => ?_)
  · exact kk P.2 P2.2 H locs ⟨hR, hM, hs2, hS⟩
  · exact absurd hs1 z
set_option maxHeartbeats 4000000 in
set_option maxRecDepth 100000 in
/-- tick -/
theorem lw_c12 {p : Program} {l : Launch} {e : Env} {s : State} {m : MethodId} {below : List Frame} {meth : Method} {c : Code} {D : va_G} {cy : Nat → ClassId} {b L : Nat} {xs : Nat → Int32} {Q : State → Prop} {cells slots : Nat} (C : lw_C D cy p s m c b L xs) {x3 : Int32} (h_1 : vp_in (x3 + 1) L) (h_2 : vp_in (x3 + 2) L) (h_3 : vp_in (x3 + 3) L) (h_4 : vp_in (x3 + 4) L) (h_5 : vp_in (x3 + 5) L) {X Y : gM} {H : Heap} {locs : List Loc} {ls : Array Slot} (hI : lw_I D cy s X Y H locs) (hl : lv_has ls 4 [(0, .ref b), (1, .ref s.heap.size), (2, .ref (s.heap.size + 872)), (3, .int x3)]) (hc0 : cells ≤ 600000) (hs0 : slots ≤ 7302250)
    (kk : ∀ (X Y : gM) (H : Heap) (locs : List Loc), lw_I D cy s X Y H locs → W p l e room_1 s m #[Value.ref b] below meth c H locs cells slots Q (F0 m 1074 ls [])) : W p l e room_1 s m #[Value.ref b] below meth c H locs cells slots Q (F0 m 542 ls []) := by
  obtain ⟨hx, hb, hml, hown, hts, hX, hbl, hK⟩ := C
  obtain ⟨hR, hM, hrel, hS⟩ := hI
  have hbA : ¬ CA s.heap.size b := Nat.not_le.mpr hbl
  have hc8 := c_X8_tick l D cy s.heap.size X (xs (x3 + 1).toNatClampNeg) hrel.2.2.1.ok
  have hs := s_tick hrel (xs (x3 + 1).toNatClampNeg)
  have hs1 := hs.1
  have hs2 := hs.2.1
  have hc9 := c_X9_tick l D cy (s.heap.size + 872) Y (xs (x3 + 1).toNatClampNeg) hs.2.2
  clear hs
  generalize p_X8_tick X (xs (x3 + 1).toNatClampNeg) = P at hs1 hs2 hc8
  generalize p_X9_tick Y (xs (x3 + 1).toNatClampNeg) = P2 at hs1 hs2 hc9
  refine lv_aload_n hx hb dL_law_542 rfl (lv_at hl 1 rfl) ?_
  refine lv_aload_n hx hb dL_law_543 rfl (lv_at hl 0 rfl) ?_
  refine lv_iload_n hx hb dL_law_544 rfl (lv_at hl 3 rfl) ?_
  refine lv_iconst (v := 1) hx hb dL_law_545 (by decide) ?_
  refine lv_iadd hx hb dL_law_546 ?_
  refine va_sld hx hb hX hbl hbA hS h_1 dL_law_547 ?_
  refine gm_ci (gm_call (As := [.int (xs (x3 + 1).toNatClampNeg)]) (rest := []) (ci := 8) (q := (RX8, TX8, 8)) ⟨hx, hb, hml, hown, hts⟩ hK hc8 (cwV 1 hts gL_law_X8_tick rfl rfl rfl (by decide +kernel) ⟨Nat.le_of_ble_eq_true rfl, Nat.le_of_ble_eq_true rfl⟩) (TR.mk0 hR) rfl hR rfl hl.1 rfl (Nat.le_of_ble_eq_true rfl) dL_law_548 hc0 hs0) hS (fun q h => gA_CA q h) (fun H locs hR _ hfr hS => ?_)
  have hM := lw_kM hM hfr (fun _ h => h)
  refine lv_aload_n hx hb dL_law_551 rfl (lv_at hl 2 rfl) ?_
  refine lv_aload_n hx hb dL_law_552 rfl (lv_at hl 0 rfl) ?_
  refine lv_iload_n hx hb dL_law_553 rfl (lv_at hl 3 rfl) ?_
  refine lv_iconst (v := 1) hx hb dL_law_554 (by decide) ?_
  refine lv_iadd hx hb dL_law_555 ?_
  refine va_sld hx hb hX hbl hbA hS h_1 dL_law_556 ?_
  refine gm_ci (gm_call (As := [.int (xs (x3 + 1).toNatClampNeg)]) (rest := [.int P.1]) (ci := 9) (q := (RX9, TX9, 15)) ⟨hx, hb, hml, hown, hts⟩ hK hc9 (cwV 1 hts gL_law_X9_tick rfl rfl rfl (by decide +kernel) ⟨Nat.le_of_ble_eq_true rfl, Nat.le_of_ble_eq_true rfl⟩) (MR.mk0 hM) rfl hM rfl hl.1 rfl (Nat.le_of_ble_eq_true rfl) dL_law_557 hc0 hs0) hS lw_aM (fun H locs hM _ hfr hS => ?_)
  have hR := lw_kT hR hfr (fun _ h => h)
  refine lv_icmp_eq (tgt := 1074) hx hb dL_law_560 (by decide) (fun z => ?_) (fun z => ?_)
  · exact kk P.2 P2.2 H locs ⟨hR, hM, hs2, hS⟩
  · exact absurd hs1 z
set_option maxHeartbeats 4000000 in
set_option maxRecDepth 100000 in
/-- type -/
theorem lw_c13 {p : Program} {l : Launch} {e : Env} {s : State} {m : MethodId} {below : List Frame} {meth : Method} {c : Code} {D : va_G} {cy : Nat → ClassId} {b L : Nat} {xs : Nat → Int32} {Q : State → Prop} {cells slots : Nat} (C : lw_C D cy p s m c b L xs) {x3 : Int32} (h_1 : vp_in (x3 + 1) L) (h_2 : vp_in (x3 + 2) L) (h_3 : vp_in (x3 + 3) L) (h_4 : vp_in (x3 + 4) L) (h_5 : vp_in (x3 + 5) L) {X Y : gM} {H : Heap} {locs : List Loc} {ls : Array Slot} (hI : lw_I D cy s X Y H locs) (hl : lv_has ls 4 [(0, .ref b), (1, .ref s.heap.size), (2, .ref (s.heap.size + 872)), (3, .int x3)]) (hc0 : cells ≤ 600000) (hs0 : slots ≤ 7302250)
    (kk : ∀ (X Y : gM) (H : Heap) (locs : List Loc), lw_I D cy s X Y H locs → W p l e room_1 s m #[Value.ref b] below meth c H locs cells slots Q (F0 m 1074 ls [])) : W p l e room_1 s m #[Value.ref b] below meth c H locs cells slots Q (F0 m 565 ls []) := by
  obtain ⟨hx, hb, hml, hown, hts, hX, hbl, hK⟩ := C
  obtain ⟨hR, hM, hrel, hS⟩ := hI
  have hbA : ¬ CA s.heap.size b := Nat.not_le.mpr hbl
  have hc8 := c_X8_type l D cy s.heap.size X (vp_nar .char (xs (x3 + 1).toNatClampNeg))
  have hs := s_type hrel (vp_nar .char (xs (x3 + 1).toNatClampNeg))
  have hs1 := hs.1
  have hs2 := hs.2.1
  have hc9 := c_X9_type l D cy (s.heap.size + 872) Y (vp_nar .char (xs (x3 + 1).toNatClampNeg)) hs.2.2
  clear hs
  generalize p_X8_type X (vp_nar .char (xs (x3 + 1).toNatClampNeg)) = P at hs1 hs2 hc8
  generalize p_X9_type Y (vp_nar .char (xs (x3 + 1).toNatClampNeg)) = P2 at hs1 hs2 hc9
  refine lv_aload_n hx hb dL_law_565 rfl (lv_at hl 1 rfl) ?_
  refine lv_aload_n hx hb dL_law_566 rfl (lv_at hl 0 rfl) ?_
  refine lv_iload_n hx hb dL_law_567 rfl (lv_at hl 3 rfl) ?_
  refine lv_iconst (v := 1) hx hb dL_law_568 (by decide) ?_
  refine lv_iadd hx hb dL_law_569 ?_
  refine va_sld hx hb hX hbl hbA hS h_1 dL_law_570 ?_
  refine lv_i2c (v := vp_nar .char (xs (x3 + 1).toNatClampNeg)) hx hb dL_law_571 rfl ?_
  refine gm_ci (gm_call (As := [.int (vp_nar .char (xs (x3 + 1).toNatClampNeg))]) (rest := []) (ci := 8) (q := (RX8, TX8, 8)) ⟨hx, hb, hml, hown, hts⟩ hK hc8 (cwV 1 hts gL_law_X8_type rfl rfl rfl (by decide +kernel) ⟨Nat.le_of_ble_eq_true rfl, Nat.le_of_ble_eq_true rfl⟩) (TR.mk0 hR) rfl hR rfl hl.1 rfl (Nat.le_of_ble_eq_true rfl) dL_law_572 hc0 hs0) hS (fun q h => gA_CA q h) (fun H locs hR _ hfr hS => ?_)
  have hM := lw_kM hM hfr (fun _ h => h)
  refine lv_aload_n hx hb dL_law_575 rfl (lv_at hl 2 rfl) ?_
  refine lv_aload_n hx hb dL_law_576 rfl (lv_at hl 0 rfl) ?_
  refine lv_iload_n hx hb dL_law_577 rfl (lv_at hl 3 rfl) ?_
  refine lv_iconst (v := 1) hx hb dL_law_578 (by decide) ?_
  refine lv_iadd hx hb dL_law_579 ?_
  refine va_sld hx hb hX hbl hbA hS h_1 dL_law_580 ?_
  refine lv_i2c (v := vp_nar .char (xs (x3 + 1).toNatClampNeg)) hx hb dL_law_581 rfl ?_
  refine gm_ci (gm_call (As := [.int (vp_nar .char (xs (x3 + 1).toNatClampNeg))]) (rest := [.int P.1]) (ci := 9) (q := (RX9, TX9, 15)) ⟨hx, hb, hml, hown, hts⟩ hK hc9 (cwV 1 hts gL_law_X9_type rfl rfl rfl (by decide +kernel) ⟨Nat.le_of_ble_eq_true rfl, Nat.le_of_ble_eq_true rfl⟩) (MR.mk0 hM) rfl hM rfl hl.1 rfl (Nat.le_of_ble_eq_true rfl) dL_law_582 hc0 hs0) hS lw_aM (fun H locs hM _ hfr hS => ?_)
  have hR := lw_kT hR hfr (fun _ h => h)
  refine lv_icmp_eq (tgt := 1074) hx hb dL_law_585 (by decide) (fun z => ?_) (fun z => ?_)
  · exact kk P.2 P2.2 H locs ⟨hR, hM, hs2, hS⟩
  · exact absurd hs1 z
set_option maxHeartbeats 4000000 in
set_option maxRecDepth 100000 in
/-- clearText -/
theorem lw_c14 {p : Program} {l : Launch} {e : Env} {s : State} {m : MethodId} {below : List Frame} {meth : Method} {c : Code} {D : va_G} {cy : Nat → ClassId} {b L : Nat} {xs : Nat → Int32} {Q : State → Prop} {cells slots : Nat} (C : lw_C D cy p s m c b L xs) {x3 : Int32} (h_1 : vp_in (x3 + 1) L) (h_2 : vp_in (x3 + 2) L) (h_3 : vp_in (x3 + 3) L) (h_4 : vp_in (x3 + 4) L) (h_5 : vp_in (x3 + 5) L) {X Y : gM} {H : Heap} {locs : List Loc} {ls : Array Slot} (hI : lw_I D cy s X Y H locs) (hl : lv_has ls 4 [(0, .ref b), (1, .ref s.heap.size), (2, .ref (s.heap.size + 872)), (3, .int x3)]) (hc0 : cells ≤ 600000) (hs0 : slots ≤ 7302250)
    (kk : ∀ (X Y : gM) (H : Heap) (locs : List Loc), lw_I D cy s X Y H locs → W p l e room_1 s m #[Value.ref b] below meth c H locs cells slots Q (F0 m 1074 ls [])) : W p l e room_1 s m #[Value.ref b] below meth c H locs cells slots Q (F0 m 590 ls []) := by
  obtain ⟨hx, hb, hml, hown, hts, hX, hbl, hK⟩ := C
  obtain ⟨hR, hM, hrel, hS⟩ := hI
  have hbA : ¬ CA s.heap.size b := Nat.not_le.mpr hbl
  have hc8 := c_X8_clearText l D cy s.heap.size X 
  have hs := s_clearText hrel 
  have hs1 := hs.1
  have hs2 := hs.2
  have hc9 := c_X9_clearText l D cy (s.heap.size + 872) Y 
  clear hs
  generalize p_X8_clearText X  = P at hs1 hs2 hc8
  generalize p_X9_clearText Y  = P2 at hs1 hs2 hc9
  refine lv_aload_n hx hb dL_law_590 rfl (lv_at hl 1 rfl) ?_
  refine gm_ci (gm_call (As := []) (rest := []) (ci := 8) (q := (RX8, TX8, 8)) ⟨hx, hb, hml, hown, hts⟩ hK hc8 (cwV 0 hts gL_law_X8_clearText rfl rfl rfl (by decide +kernel) ⟨Nat.le_of_ble_eq_true rfl, Nat.le_of_ble_eq_true rfl⟩) (TR.mk0 hR) rfl hR rfl hl.1 rfl (Nat.le_of_ble_eq_true rfl) dL_law_591 hc0 hs0) hS (fun q h => gA_CA q h) (fun H locs hR _ hfr hS => ?_)
  have hM := lw_kM hM hfr (fun _ h => h)
  refine lv_aload_n hx hb dL_law_594 rfl (lv_at hl 2 rfl) ?_
  refine gm_ci (gm_call (As := []) (rest := [.int P.1]) (ci := 9) (q := (RX9, TX9, 15)) ⟨hx, hb, hml, hown, hts⟩ hK hc9 (cwV 0 hts gL_law_X9_clearText rfl rfl rfl (by decide +kernel) ⟨Nat.le_of_ble_eq_true rfl, Nat.le_of_ble_eq_true rfl⟩) (MR.mk0 hM) rfl hM rfl hl.1 rfl (Nat.le_of_ble_eq_true rfl) dL_law_595 hc0 hs0) hS lw_aM (fun H locs hM _ hfr hS => ?_)
  have hR := lw_kT hR hfr (fun _ h => h)
  refine lv_icmp_eq (tgt := 1074) hx hb dL_law_598 (by decide) (fun z => ?_) (fun z => ?_)
  · exact kk P.2 P2.2 H locs ⟨hR, hM, hs2, hS⟩
  · exact absurd hs1 z
set_option maxHeartbeats 4000000 in
set_option maxRecDepth 100000 in
/-- readTickets -/
theorem lw_c15 {p : Program} {l : Launch} {e : Env} {s : State} {m : MethodId} {below : List Frame} {meth : Method} {c : Code} {D : va_G} {cy : Nat → ClassId} {b L : Nat} {xs : Nat → Int32} {Q : State → Prop} {cells slots : Nat} (C : lw_C D cy p s m c b L xs) {x3 : Int32} (h_1 : vp_in (x3 + 1) L) (h_2 : vp_in (x3 + 2) L) (h_3 : vp_in (x3 + 3) L) (h_4 : vp_in (x3 + 4) L) (h_5 : vp_in (x3 + 5) L) {X Y : gM} {H : Heap} {locs : List Loc} {ls : Array Slot} (hI : lw_I D cy s X Y H locs) (hl : lv_has ls 4 [(0, .ref b), (1, .ref s.heap.size), (2, .ref (s.heap.size + 872)), (3, .int x3)]) (hc0 : cells ≤ 600000) (hs0 : slots ≤ 7302250)
    (kk : ∀ (X Y : gM) (H : Heap) (locs : List Loc), lw_I D cy s X Y H locs → W p l e room_1 s m #[Value.ref b] below meth c H locs cells slots Q (F0 m 1074 ls [])) : W p l e room_1 s m #[Value.ref b] below meth c H locs cells slots Q (F0 m 603 ls []) := by
  obtain ⟨hx, hb, hml, hown, hts, hX, hbl, hK⟩ := C
  obtain ⟨hR, hM, hrel, hS⟩ := hI
  have hbA : ¬ CA s.heap.size b := Nat.not_le.mpr hbl
  have hc8 := c_X8_readTickets l D cy s.heap.size X  hrel.2.2.1.ok
  have hs := s_readTickets hrel 
  have hs1 := hs.1
  have hs2 := hs.2.1
  have hc9 := c_X9_readTickets l D cy (s.heap.size + 872) Y  hs.2.2
  clear hs
  generalize p_X8_readTickets X  = P at hs1 hs2 hc8
  generalize p_X9_readTickets Y  = P2 at hs1 hs2 hc9
  refine lv_aload_n hx hb dL_law_603 rfl (lv_at hl 1 rfl) ?_
  refine gm_ci (gm_call (As := []) (rest := []) (ci := 8) (q := (RX8, TX8, 8)) ⟨hx, hb, hml, hown, hts⟩ hK hc8 (cwV 0 hts gL_law_X8_readTickets rfl rfl rfl (by decide +kernel) ⟨Nat.le_of_ble_eq_true rfl, Nat.le_of_ble_eq_true rfl⟩) (TR.mk0 hR) rfl hR rfl hl.1 rfl (Nat.le_of_ble_eq_true rfl) dL_law_604 hc0 hs0) hS (fun q h => gA_CA q h) (fun H locs hR _ hfr hS => ?_)
  have hM := lw_kM hM hfr (fun _ h => h)
  refine lv_aload_n hx hb dL_law_607 rfl (lv_at hl 2 rfl) ?_
  refine gm_ci (gm_call (As := []) (rest := [.int P.1]) (ci := 9) (q := (RX9, TX9, 15)) ⟨hx, hb, hml, hown, hts⟩ hK hc9 (cwV 0 hts gL_law_X9_readTickets rfl rfl rfl (by decide +kernel) ⟨Nat.le_of_ble_eq_true rfl, Nat.le_of_ble_eq_true rfl⟩) (MR.mk0 hM) rfl hM rfl hl.1 rfl (Nat.le_of_ble_eq_true rfl) dL_law_608 hc0 hs0) hS lw_aM (fun H locs hM _ hfr hS => ?_)
  have hR := lw_kT hR hfr (fun _ h => h)
  refine lv_icmp_eq (tgt := 1074) hx hb dL_law_611 (by decide) (fun z => ?_) (fun z => ?_)
  · exact kk P.2 P2.2 H locs ⟨hR, hM, hs2, hS⟩
  · exact absurd hs1 z
