/-! the law, walked: ticks and undos, the loop -/
set_option maxHeartbeats 8000000 in
set_option maxRecDepth 100000 in
theorem lw_tick {p : Program} {l : Launch} {e : Env} {s : State} {m : MethodId} {below : List Frame} {meth : Method} {c : Code} {D : va_G} {cy : Nat → ClassId} {b L : Nat} {xs : Nat → Int32} {Q : State → Prop} {cells slots : Nat} {cA : ClassId} {β γ : Nat} {k j : Nat} (C : lw_C D cy p s m c b L xs) (hA : ArrOfT s cA .long) (hc0 : cells ≤ 600000) (hs0 : slots ≤ 7302250) (hj : j < 6) {X : gM} {f : Nat → Int64} {x2 x : Int32} {z : Int64} {H : Heap} {locs : List Loc} {ls : Array Slot} (ht : TI j X f) (hW : lw_I D cy s cA β γ X f H locs) (hl : lv_has ls 15 [(0, .ref b), (1, .ref β), (2, .int x2), (3, .ref γ), (4, .long z), (6, .int (nI k)), (7, .int x), (12, .int (nI j))])
    (kk : ∀ (X1 : gM) (f1 : Nat → Int64) (H : Heap) (locs : List Loc) (ls : Array Slot), Rc X X1 → TI (j + 1) X1 f1 → lw_I D cy s cA β γ X1 f1 H locs → lv_has ls 15 [(0, .ref b), (1, .ref β), (2, .int x2), (3, .ref γ), (4, .long z), (6, .int (nI k)), (7, .int x), (12, .int (nI (j + 1)))] → W p l e room_1 s m #[Value.ref b] below meth c H locs cells slots Q (F0 m 311 ls [])) : W p l e room_1 s m #[Value.ref b] below meth c H locs cells slots Q (F0 m 311 ls []) := by
  obtain ⟨hx, hb, hml, hown, hts, hX, hbl, hK⟩ := C
  refine lv_iload hx hb dL_law_311 (lv_at hl 7 rfl) ?_
  refine lv_bipush (v := 6) hx hb dL_law_313 (by decide) ?_
  refine lv_icmp_ge (tgt := 352) hx hb dL_law_315 (by decide) (fun c1 => absurd c1 (nI_ge (b := 6) hj (by decide))) (fun _ => ?_)
  refine lv_aload_n hx hb dL_law_318 rfl (lv_at hl 3 rfl) ?_
  refine lv_iload hx hb dL_law_319 (lv_at hl 7 rfl) ?_
  refine lv_aload_n hx hb dL_law_321 rfl (lv_at hl 1 rfl) ?_
  refine gm_cl (gm_callS (As := [.ref β]) (rest := [.int (nI j), .ref γ]) ⟨hx, hb, hml, hown, hts⟩ hK (c_L_state l D cy β X hW.2.2.1.1) (va_cwS 1 hts ks_state rfl rfl rfl (by decide +kernel) ⟨Nat.le_of_ble_eq_true rfl, Nat.le_of_ble_eq_true rfl⟩) hW.1 rfl hl.1 rfl (Nat.le_of_ble_eq_true rfl) dL_law_322 hc0 hs0) hW.2.1 (fun _ h => h.elim) (fun H locs _ hz9 hfr hS => ?_)
  replace hW := hW.no hz9 hfr hS
  clear hfr hS hz9
  refine lw_last hx hb hA hW.2.2.2.2 hW.2.1 (show CA s.heap.size γ from by have h := hW.2.2.2.1; simp only [CA]; omega) (pk_in j 8 (by omega) rfl (by decide)) dL_law_325 (fun H locs ha hz9 hfr hS => ?_)
  rw [nI_clamp (n := j) (by omega)] at ha
  replace hW := hW.ar ha hz9 hfr hS
  clear ha hfr hS hz9
  refine lv_aload_n hx hb dL_law_326 rfl (lv_at hl 1 rfl) ?_
  refine lv_iconst (v := 1) hx hb dL_law_327 (by decide) ?_
  refine lv_iload hx hb dL_law_328 (lv_at hl 6 rfl) ?_
  refine lv_iload hx hb dL_law_330 (lv_at hl 7 rfl) ?_
  refine lv_ishr hx hb dL_law_332 ?_
  refine lv_iconst (v := 4) hx hb dL_law_333 (by decide) ?_
  generalize x >>> (nI j &&& 31) = y
  refine gm_ci (gm_callS (As := [.int y, .int 4]) (rest := [.int 1, .ref β]) ⟨hx, hb, hml, hown, hts⟩ hK (c_L_part l D cy y 4 (by decide)) (va_cwS 2 hts ks_part rfl rfl rfl (by decide +kernel) ⟨Nat.le_of_ble_eq_true rfl, Nat.le_of_ble_eq_true rfl⟩) trivial rfl hl.1 rfl (Nat.le_of_ble_eq_true rfl) dL_law_334 hc0 hs0) hW.2.1 (fun _ h => h.elim) (fun H locs _ hz9 hfr hS => ?_)
  replace hW := hW.no hz9 hfr hS
  clear hfr hS hz9
  refine lv_iadd hx hb dL_law_337 ?_
  have hp := part_pos y
  generalize 1 + f_L_part y 4 = y1 at hp ⊢
  refine gm_ci (gm_call (As := [.int y1]) (rest := []) (ci := 8) (q := (RX8, TX8, 8)) ⟨hx, hb, hml, hown, hts⟩ hK (c_X8_tick l D cy β X y1 hW.2.2.1.1.ok) (cwV 1 hts kv_tick rfl rfl rfl (by decide +kernel) ⟨Nat.le_of_ble_eq_true rfl, Nat.le_of_ble_eq_true rfl⟩) (TR.mk0 hW.1) rfl hW.1 rfl hl.1 rfl (Nat.le_of_ble_eq_true rfl) dL_law_338 hc0 hs0) hW.2.1 (TA_up hW.2.2.2.1.1) (fun H locs hR hz9 hfr hS => ?_)
  have hy := tick_yes hW.2.2.1.1 y1 hp
  have hRc := (act_tick hW.2.2.1.1 y1).pos hy
  have ht := TI.tick hW.2.2.1.1 ht hRc
  replace hW := hW.ta hR hz9 hfr hS (I_tick hW.2.2.1.1 y1) (kA_tick hW.2.2.1.1 hW.2.2.1.2 y1)
  clear hR hfr hS hz9
  refine lv_if_ge (tgt := 346) hx hb dL_law_341 (by decide) (fun _ => ?_) (fun c1 => absurd hy c1)
  refine lv_iinc (v := nI (j + 1)) (lv' := [(12, .int (nI (j + 1))), (0, .ref b), (1, .ref β), (2, .int x2), (3, .ref γ), (4, .long z), (6, .int (nI k)), (7, .int x)]) hx hb dL_law_346 hl (k := 7) rfl (nI_1 j) (by decide) rfl (fun ls hl => ?_)
  refine lv_goto (tgt := 311) hx hb dL_law_349 (by decide) ?_
  exact kk _ _ H locs ls hRc ht hW (lv_sub hl [1, 2, 3, 4, 5, 6, 7, 0] rfl)

set_option maxHeartbeats 8000000 in
set_option maxRecDepth 100000 in
theorem lw_undo {p : Program} {l : Launch} {e : Env} {s : State} {m : MethodId} {below : List Frame} {meth : Method} {c : Code} {D : va_G} {cy : Nat → ClassId} {b L : Nat} {xs : Nat → Int32} {Q : State → Prop} {cells slots : Nat} {cA : ClassId} {β γ : Nat} {k n : Nat} (C : lw_C D cy p s m c b L xs) (hA : ArrOfT s cA .long) (hc0 : cells ≤ 600000) (hs0 : slots ≤ 7302250) (hn : n < 4) {X : gM} {f : Nat → Int64} {x2 x : Int32} {z : Int64} {H : Heap} {locs : List Loc} {ls : Array Slot} (hu : UI (n + 1) X f) (hW : lw_I D cy s cA β γ X f H locs) (hl : lv_has ls 15 [(0, .ref b), (1, .ref β), (2, .int x2), (3, .ref γ), (4, .long z), (6, .int (nI k)), (7, .int x), (12, .int (nI (3 - n)))])
    (kk : ∀ (X1 : gM) (H : Heap) (locs : List Loc) (ls : Array Slot), UI n X1 f → (∀ z, Kp X z → Kp X1 z) → lw_I D cy s cA β γ X1 f H locs → lv_has ls 15 [(0, .ref b), (1, .ref β), (2, .int x2), (3, .ref γ), (4, .long z), (6, .int (nI k)), (7, .int x), (12, .int (nI (3 - n + 1)))] → W p l e room_1 s m #[Value.ref b] below meth c H locs cells slots Q (F0 m 355 ls [])) : W p l e room_1 s m #[Value.ref b] below meth c H locs cells slots Q (F0 m 355 ls []) := by
  obtain ⟨hx, hb, hml, hown, hts, hX, hbl, hK⟩ := C
  refine lv_iload hx hb dL_law_355 (lv_at hl 7 rfl) ?_
  refine lv_iconst (v := 5) hx hb dL_law_357 (by decide) ?_
  refine lv_icmp_ge (tgt := 411) hx hb dL_law_358 (by decide) (fun c1 => absurd c1 (nI_ge (b := 5) (by omega) (by decide))) (fun _ => ?_)
  refine lv_aload_n hx hb dL_law_361 rfl (lv_at hl 1 rfl) ?_
  obtain ⟨u1, u2, u3, u4, u5⟩ := UI.undo hW.2.2.1.1 hu
  refine gm_ci (gm_call (As := []) (rest := []) (ci := 8) (q := (RX8, TX8, 8)) ⟨hx, hb, hml, hown, hts⟩ hK (c_X8_undo l D cy β X hW.2.2.1.1.ok) (cwV 0 hts kv_undo rfl rfl rfl (by decide +kernel) ⟨Nat.le_of_ble_eq_true rfl, Nat.le_of_ble_eq_true rfl⟩) (TR.mk0 hW.1) rfl hW.1 rfl hl.1 rfl (Nat.le_of_ble_eq_true rfl) dL_law_362 hc0 hs0) hW.2.1 (TA_up hW.2.2.2.1.1) (fun H locs hR hz9 hfr hS => ?_)
  replace hW := hW.ta hR hz9 hfr hS (I_undo hW.2.2.1.1) (kA_undo hW.2.2.1.1 hW.2.2.1.2)
  clear hR hfr hS hz9
  generalize p_X8_undo X = r at u1 u2 u3 u4 u5 hW ⊢
  rw [u1]
  refine lv_iload hx hb dL_law_365 (lv_at hl 7 rfl) ?_
  refine lv_iconst (v := 4) hx hb dL_law_367 (by decide) ?_
  refine lv_icmp_ge (tgt := 378) hx hb dL_law_368 (by decide) (fun c1 => absurd c1 (lt_4 (by omega))) (fun _ => ?_)
  refine lv_iconst (v := 3) hx hb dL_law_371 (by decide) ?_
  refine lv_iload hx hb dL_law_372 (lv_at hl 7 rfl) ?_
  refine lv_isub hx hb dL_law_374 ?_
  rw [show (3 - nI (3 - n) : Int32) = nI (3 - (3 - n)) from pk_sub (a := 3) (b := 3 - n) (by omega), show 3 - (3 - n) = n by omega]
  refine lv_goto (tgt := 380) hx hb dL_law_375 (by decide) ?_
  refine lv_icmp_ne (tgt := 403) hx hb dL_law_380 (by decide) (fun c1 => absurd rfl c1) (fun _ => ?_)
  refine lv_iload hx hb dL_law_383 (lv_at hl 7 rfl) ?_
  refine lv_iconst (v := 4) hx hb dL_law_385 (by decide) ?_
  refine lv_icmp_ge (tgt := 405) hx hb dL_law_386 (by decide) (fun c1 => absurd c1 (lt_4 (by omega))) (fun _ => ?_)
  refine lv_aload_n hx hb dL_law_389 rfl (lv_at hl 1 rfl) ?_
  refine gm_cl (gm_callS (As := [.ref β]) (rest := []) ⟨hx, hb, hml, hown, hts⟩ hK (c_L_state l D cy β r.2 hW.2.2.1.1) (va_cwS 1 hts ks_state rfl rfl rfl (by decide +kernel) ⟨Nat.le_of_ble_eq_true rfl, Nat.le_of_ble_eq_true rfl⟩) hW.1 rfl hl.1 rfl (Nat.le_of_ble_eq_true rfl) dL_law_390 hc0 hs0) hW.2.1 (fun _ h => h.elim) (fun H locs _ hz9 hfr hS => ?_)
  replace hW := hW.no hz9 hfr hS
  clear hfr hS hz9
  refine lv_aload_n hx hb dL_law_393 rfl (lv_at hl 3 rfl) ?_
  refine lv_iconst (v := 5) hx hb dL_law_394 (by decide) ?_
  refine lv_iload hx hb dL_law_395 (lv_at hl 7 rfl) ?_
  refine lv_isub hx hb dL_law_397 ?_
  rw [show (5 - nI (3 - n) : Int32) = nI (5 - (3 - n)) from pk_sub (a := 5) (b := 3 - n) (by omega), show 5 - (3 - n) = n + 2 by omega]
  refine lw_lald hx hb hA hW.2.2.2.2 (pk_in (n + 2) 8 (by omega) rfl (by decide)) dL_law_398 ?_
  refine W.lcmp hx hb dL_law_399 ?_
  rw [nI_clamp (n := n + 2) (by omega), u2, lg_cmp_s]
  refine lv_if_eq (tgt := 405) hx hb dL_law_400 (by decide) (fun _ => ?_) (fun c4 => absurd rfl c4)
  refine lv_iinc (v := nI (3 - n + 1)) (lv' := [(12, .int (nI (3 - n + 1))), (0, .ref b), (1, .ref β), (2, .int x2), (3, .ref γ), (4, .long z), (6, .int (nI k)), (7, .int x)]) hx hb dL_law_405 hl (k := 7) rfl (nI_1 _) (by decide) rfl (fun ls hl => ?_)
  refine lv_goto (tgt := 355) hx hb dL_law_408 (by decide) ?_
  exact kk _ H locs ls u3 (fun z hz => hz.cg u4 u5) hW (lv_sub hl [1, 2, 3, 4, 5, 6, 7, 0] rfl)

set_option maxHeartbeats 8000000 in
set_option maxRecDepth 100000 in
theorem lw_s4 {p : Program} {l : Launch} {e : Env} {s : State} {m : MethodId} {below : List Frame} {meth : Method} {c : Code} {D : va_G} {cy : Nat → ClassId} {b L : Nat} {xs : Nat → Int32} {Q : State → Prop} {cells slots : Nat} {cA : ClassId} {β γ : Nat} {k : Nat} (C : lw_C D cy p s m c b L xs) (hA : ArrOfT s cA .long) (hc0 : cells ≤ 600000) (hs0 : slots ≤ 7302250) (hk80 : k ≤ 80) {X : gM} {f : Nat → Int64} {x2 x : Int32} {z : Int64} {H : Heap} {locs : List Loc} {ls : Array Slot} (hkz : 3 ≤ k → Kp X z) (hW : lw_I D cy s cA β γ X f H locs) (hl : lv_has ls 15 [(0, .ref b), (1, .ref β), (2, .int x2), (3, .ref γ), (4, .long z), (6, .int (nI k)), (7, .int x)])
    (kk : ∀ (X1 : gM) (f1 : Nat → Int64) (H : Heap) (locs : List Loc) (ls : Array Slot), (3 ≤ k → Kp X1 z) → lw_I D cy s cA β γ X1 f1 H locs → lv_has ls 15 [(0, .ref b), (1, .ref β), (2, .int x2), (3, .ref γ), (4, .long z), (6, .int (nI (k + 1)))] → W p l e room_1 s m #[Value.ref b] below meth c H locs cells slots Q (F0 m 83 ls [])) : W p l e room_1 s m #[Value.ref b] below meth c H locs cells slots Q (F0 m 300 ls []) := by
  have C2 := C
  obtain ⟨hx, hb, hml, hown, hts, hX, hbl, hK⟩ := C
  refine lv_iload hx hb dL_law_300 (lv_at hl 5 rfl) ?_
  refine lv_iconst (v := 5) hx hb dL_law_302 (by decide) ?_
  refine lv_irem hx hb dL_law_303 (by decide) ?_
  rw [show (nI k - nI k / 5 * 5 : Int32) = nI (k % 5) from pk_rem (d := 5) (by omega) (by decide) (by decide)]
  refine lv_iconst (v := 4) hx hb dL_law_304 (by decide) ?_
  by_cases hk5 : k % 5 = 4
  · rw [hk5]
    refine lv_icmp_ne (tgt := 411) hx hb dL_law_305 (by decide) (fun c1 => absurd rfl c1) (fun _ => ?_)
    refine lv_iconst (v := 0) hx hb dL_law_308 (by decide) ?_
    refine lv_istore (lv' := [(12, .int 0), (0, .ref b), (1, .ref β), (2, .int x2), (3, .ref γ), (4, .long z), (6, .int (nI k)), (7, .int x)]) hx hb dL_law_309 hl (by decide) rfl (fun ls hl => ?_)
    have ht := TI.zero hW.2.2.1.1 f
    refine lw_tick (j := 0) C2 hA hc0 hs0 (by decide) ht hW (lv_sub hl [1, 2, 3, 4, 5, 6, 7, 0] rfl) (fun X f H locs ls hRc ht hW hl => ?_)
    replace hkz := fun h3 => (hkz h3).rc hRc
    clear hRc
    refine lw_tick (j := 1) C2 hA hc0 hs0 (by decide) ht hW hl (fun X f H locs ls hRc ht hW hl => ?_)
    replace hkz := fun h3 => (hkz h3).rc hRc
    clear hRc
    refine lw_tick (j := 2) C2 hA hc0 hs0 (by decide) ht hW hl (fun X f H locs ls hRc ht hW hl => ?_)
    replace hkz := fun h3 => (hkz h3).rc hRc
    clear hRc
    refine lw_tick (j := 3) C2 hA hc0 hs0 (by decide) ht hW hl (fun X f H locs ls hRc ht hW hl => ?_)
    replace hkz := fun h3 => (hkz h3).rc hRc
    clear hRc
    refine lw_tick (j := 4) C2 hA hc0 hs0 (by decide) ht hW hl (fun X f H locs ls hRc ht hW hl => ?_)
    replace hkz := fun h3 => (hkz h3).rc hRc
    clear hRc
    refine lw_tick (j := 5) C2 hA hc0 hs0 (by decide) ht hW hl (fun X f H locs ls hRc ht hW hl => ?_)
    replace hkz := fun h3 => (hkz h3).rc hRc
    clear hRc
    have hu := ht.six
    refine lv_iload hx hb dL_law_311 (lv_at hl 7 rfl) ?_
    refine lv_bipush (v := 6) hx hb dL_law_313 (by decide) ?_
    refine lv_icmp_ge (tgt := 352) hx hb dL_law_315 (by decide) (fun _ => ?_) (fun c1 => absurd (by decide) c1)
    refine lv_iconst (v := 0) hx hb dL_law_352 (by decide) ?_
    refine lv_istore (lv' := [(12, .int 0), (0, .ref b), (1, .ref β), (2, .int x2), (3, .ref γ), (4, .long z), (6, .int (nI k)), (7, .int x)]) hx hb dL_law_353 hl (by decide) rfl (fun ls hl => ?_)
    refine lw_undo (n := 3) C2 hA hc0 hs0 (by decide) hu hW (lv_sub hl [1, 2, 3, 4, 5, 6, 7, 0] rfl) (fun X H locs ls hu hkk hW hl => ?_)
    replace hkz := fun h3 => hkk _ (hkz h3)
    clear hkk
    refine lw_undo (n := 2) C2 hA hc0 hs0 (by decide) hu hW hl (fun X H locs ls hu hkk hW hl => ?_)
    replace hkz := fun h3 => hkk _ (hkz h3)
    clear hkk
    refine lw_undo (n := 1) C2 hA hc0 hs0 (by decide) hu hW hl (fun X H locs ls hu hkk hW hl => ?_)
    replace hkz := fun h3 => hkk _ (hkz h3)
    clear hkk
    refine lw_undo (n := 0) C2 hA hc0 hs0 (by decide) hu hW hl (fun X H locs ls hu hkk hW hl => ?_)
    replace hkz := fun h3 => hkk _ (hkz h3)
    clear hkk
    have hl : lv_has ls 15 [(0, .ref b), (1, .ref β), (2, .int x2), (3, .ref γ), (4, .long z), (6, .int (nI k)), (7, .int x), (12, .int (nI 4))] := hl
    refine lv_iload hx hb dL_law_355 (lv_at hl 7 rfl) ?_
    refine lv_iconst (v := 5) hx hb dL_law_357 (by decide) ?_
    refine lv_icmp_ge (tgt := 411) hx hb dL_law_358 (by decide) (fun c1 => absurd c1 (by decide)) (fun _ => ?_)
    refine lv_aload_n hx hb dL_law_361 rfl (lv_at hl 1 rfl) ?_
    refine gm_ci (gm_call (As := []) (rest := []) (ci := 8) (q := (RX8, TX8, 8)) ⟨hx, hb, hml, hown, hts⟩ hK (c_X8_undo l D cy β X hW.2.2.1.1.ok) (cwV 0 hts kv_undo rfl rfl rfl (by decide +kernel) ⟨Nat.le_of_ble_eq_true rfl, Nat.le_of_ble_eq_true rfl⟩) (TR.mk0 hW.1) rfl hW.1 rfl hl.1 rfl (Nat.le_of_ble_eq_true rfl) dL_law_362 hc0 hs0) hW.2.1 (TA_up hW.2.2.2.1.1) (fun H locs hR hz9 hfr hS => ?_)
    rw [hu.fin] at hR ⊢
    replace hW := hW.ta hR hz9 hfr hS hW.2.2.1.1 hW.2.2.1.2
    clear hR hfr hS hz9
    refine lv_iload hx hb dL_law_365 (lv_at hl 7 rfl) ?_
    refine lv_iconst (v := 4) hx hb dL_law_367 (by decide) ?_
    refine lv_icmp_ge (tgt := 378) hx hb dL_law_368 (by decide) (fun _ => ?_) (fun c1 => absurd (by decide) c1)
    refine lv_bipush (v := (-5)) hx hb dL_law_378 (by decide) ?_
    refine lv_icmp_ne (tgt := 403) hx hb dL_law_380 (by decide) (fun c1 => absurd rfl c1) (fun _ => ?_)
    refine lv_iload hx hb dL_law_383 (lv_at hl 7 rfl) ?_
    refine lv_iconst (v := 4) hx hb dL_law_385 (by decide) ?_
    refine lv_icmp_ge (tgt := 405) hx hb dL_law_386 (by decide) (fun _ => ?_) (fun c1 => absurd (by decide) c1)
    refine lv_iinc (v := nI 5) (lv' := [(12, .int (nI 5)), (0, .ref b), (1, .ref β), (2, .int x2), (3, .ref γ), (4, .long z), (6, .int (nI k)), (7, .int x)]) hx hb dL_law_405 hl (k := 7) rfl (nI_1 4) (by decide) rfl (fun ls hl => ?_)
    refine lv_goto (tgt := 355) hx hb dL_law_408 (by decide) ?_
    refine lv_iload hx hb dL_law_355 (lv_at hl 0 rfl) ?_
    refine lv_iconst (v := 5) hx hb dL_law_357 (by decide) ?_
    refine lv_icmp_ge (tgt := 411) hx hb dL_law_358 (by decide) (fun _ => ?_) (fun c1 => absurd (by decide) c1)
    refine lv_iinc (v := nI (k + 1)) (lv' := [(6, .int (nI (k + 1))), (12, .int (nI 5)), (0, .ref b), (1, .ref β), (2, .int x2), (3, .ref γ), (4, .long z), (7, .int x)]) hx hb dL_law_411 hl (k := 6) rfl (nI_1 k) (by decide) rfl (fun ls hl => ?_)
    refine lv_goto (tgt := 83) hx hb dL_law_414 (by decide) ?_
    exact kk _ _ H locs ls hkz hW (lv_sub hl [2, 3, 4, 5, 6, 0] rfl)
  · refine lv_icmp_ne (tgt := 411) hx hb dL_law_305 (by decide) (fun _ => ?_) (fun c1 => absurd c1 (fun c2 => hk5 (nI_inj (by omega) (by decide) (c2 : nI (k % 5) = nI 4))))
    refine lv_iinc (v := nI (k + 1)) (lv' := [(6, .int (nI (k + 1))), (0, .ref b), (1, .ref β), (2, .int x2), (3, .ref γ), (4, .long z), (7, .int x)]) hx hb dL_law_411 hl (k := 5) rfl (nI_1 k) (by decide) rfl (fun ls hl => ?_)
    refine lv_goto (tgt := 83) hx hb dL_law_414 (by decide) ?_
    exact kk _ _ H locs ls hkz hW (lv_sub hl [1, 2, 3, 4, 5, 0] rfl)

set_option maxHeartbeats 8000000 in
set_option maxRecDepth 100000 in
theorem lw_loop {p : Program} {l : Launch} {e : Env} {s : State} {m : MethodId} {below : List Frame} {meth : Method} {c : Code} {D : va_G} {cy : Nat → ClassId} {b L : Nat} {xs : Nat → Int32} {Q : State → Prop} {cells slots : Nat} {cA : ClassId} {β γ : Nat} (C : lw_C D cy p s m c b L xs) (hA : ArrOfT s cA .long) (hc0 : cells ≤ 600000) (hs0 : slots ≤ 7302250) (hL : L ≤ 260) {x2 : Int32}
    (kk : ∀ (H : Heap) (locs : List Loc) (ls : Array Slot), va_S (CA s.heap.size) s.heap H locs → lv_has ls 15 [(0, .ref b), (2, .int x2)] → W p l e room_1 s m #[Value.ref b] below meth c H locs cells slots Q (F0 m 417 ls [])) :
    ∀ (d k : Nat), k + d = 45 → ∀ (X : gM) (f : Nat → Int64) (z : Int64) (H : Heap) (locs : List Loc) (ls : Array Slot), (4 ≤ k → Kp X z) → lw_I D cy s cA β γ X f H locs → lv_has ls 15 [(0, .ref b), (1, .ref β), (2, .int x2), (3, .ref γ), (4, .long z), (6, .int (nI k))] → W p l e room_1 s m #[Value.ref b] below meth c H locs cells slots Q (F0 m 83 ls []) := by
  have C2 := C
  obtain ⟨hx, hb, hml, hown, hts, hX, hbl, hK⟩ := C
  intro d
  induction d with
  | zero =>
    intro k hk X f z H locs ls hkz hW hl
    have e : k = 45 := by omega
    subst e
    refine lv_iload hx hb dL_law_83 (lv_at hl 5 rfl) ?_
    refine lv_bipush (v := 45) hx hb dL_law_85 (by decide) ?_
    refine lv_icmp_ge (tgt := 417) hx hb dL_law_87 (by decide) (fun _ => ?_) (fun c1 => absurd (by decide) c1)
    exact kk H locs ls hW.2.1 (lv_sub hl [0, 2] rfl)
  | succ d ih =>
    intro k hk X f z H locs ls hkz hW hl
    refine lv_iload hx hb dL_law_83 (lv_at hl 5 rfl) ?_
    refine lv_bipush (v := 45) hx hb dL_law_85 (by decide) ?_
    refine lv_icmp_ge (tgt := 417) hx hb dL_law_87 (by decide) (fun c1 => absurd c1 (nI_ge (b := 45) (by omega) (by decide))) (fun _ => ?_)
    refine lw_s1 C2 hA hc0 hs0 hL (by omega) hW hl (fun X1 x w v H locs ls hv hkk hW hl => ?_)
    refine lw_s2 C2 hA hc0 hs0 (by omega) hv (fun h4 => hkk _ (hkz h4)) hW hl (fun X2 z2 H locs ls hkz hW hl => ?_)
    refine lw_s3 C2 hA hc0 hs0 (by omega) hkz hW hl (fun X3 H locs ls hkz hW hl => ?_)
    refine lw_s4 C2 hA hc0 hs0 (by omega) hkz hW hl (fun X4 f4 H locs ls hkz hW hl => ?_)
    exact ih (k + 1) (by omega) X4 f4 z2 H locs ls (fun h4 => hkz (by omega)) hW hl

