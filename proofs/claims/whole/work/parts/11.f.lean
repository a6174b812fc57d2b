/-! the law's switch -/
set_option maxHeartbeats 4000000 in
set_option maxRecDepth 100000 in
theorem law_sw {p : Program} {l : Launch} {e : Env} {s : State} {m : MethodId} {below : List Frame} {meth : Method} {c : Code} {D : va_G} {cy : Nat → ClassId} {b L : Nat} {xs : Nat → Int32} {Q : State → Prop} {cells slots : Nat} (C : lw_C D cy p s m c b L xs) {x3 : Int32} (h_1 : vp_in (x3 + 1) L) (h_2 : vp_in (x3 + 2) L) (h_3 : vp_in (x3 + 3) L) (h_4 : vp_in (x3 + 4) L) (h_5 : vp_in (x3 + 5) L) {X Y : gM} {H : Heap} {locs : List Loc} {ls : Array Slot} (hI : lw_I D cy s X Y H locs) (hl : lv_has ls 4 [(0, .ref b), (1, .ref s.heap.size), (2, .ref (s.heap.size + 872)), (3, .int x3)]) (hc0 : cells ≤ 600000) (hs0 : slots ≤ 7302250)
    (kk : ∀ (X Y : gM) (H : Heap) (locs : List Loc), lw_I D cy s X Y H locs → W p l e room_1 s m #[Value.ref b] below meth c H locs cells slots Q (F0 m 1074 ls [])) (x : Int32) : W p l e room_1 s m #[Value.ref b] below meth c H locs cells slots Q (F0 m 33 ls [.int (x &&& 31)]) := by
  obtain ⟨hx, hb, hml, hown, hts, hX, hbl, hK⟩ := id C
  obtain ⟨k, hk, ek⟩ := and31 x
  rw [ek]
  clear ek
  rcases (show k = 0 ∨ k = 1 ∨ k = 2 ∨ k = 3 ∨ k = 4 ∨ k = 5 ∨ k = 6 ∨ k = 7 ∨ k = 8 ∨ k = 9 ∨ k = 10 ∨ k = 11 ∨ k = 12 ∨ k = 13 ∨ k = 14 ∨ k = 15 ∨ k = 16 ∨ k = 17 ∨ k = 18 ∨ k = 19 ∨ k = 20 ∨ k = 21 ∨ k = 22 ∨ k = 23 ∨ k = 24 ∨ k = 25 ∨ k = 26 ∨ k = 27 ∨ k = 28 ∨ k = 29 ∨ k = 30 ∨ k = 31 by omega) with rfl | rfl | rfl | rfl | rfl | rfl | rfl | rfl | rfl | rfl | rfl | rfl | rfl | rfl | rfl | rfl | rfl | rfl | rfl | rfl | rfl | rfl | rfl | rfl | rfl | rfl | rfl | rfl | rfl | rfl | rfl | rfl
  · exact lv_tableIn (x := nI 0) (off := 143) (tgt := 176) hx hb dL_law_33 (by decide +kernel) (by decide +kernel) (by decide +kernel) (by decide) (lw_c0 C h_1 h_2 h_3 h_4 h_5 hI hl hc0 hs0 kk)
  · exact lv_tableIn (x := nI 1) (off := 176) (tgt := 209) hx hb dL_law_33 (by decide +kernel) (by decide +kernel) (by decide +kernel) (by decide) (lw_c1 C h_1 h_2 h_3 h_4 h_5 hI hl hc0 hs0 kk)
  · exact lv_tableIn (x := nI 2) (off := 209) (tgt := 242) hx hb dL_law_33 (by decide +kernel) (by decide +kernel) (by decide +kernel) (by decide) (lw_c2 C h_1 h_2 h_3 h_4 h_5 hI hl hc0 hs0 kk)
  · exact lv_tableIn (x := nI 3) (off := 242) (tgt := 275) hx hb dL_law_33 (by decide +kernel) (by decide +kernel) (by decide +kernel) (by decide) (lw_c3 C h_1 h_2 h_3 h_4 h_5 hI hl hc0 hs0 kk)
  · exact lv_tableIn (x := nI 4) (off := 265) (tgt := 298) hx hb dL_law_33 (by decide +kernel) (by decide +kernel) (by decide +kernel) (by decide) (lw_c4 C h_1 h_2 h_3 h_4 h_5 hI hl hc0 hs0 kk)
  · exact lv_tableIn (x := nI 5) (off := 288) (tgt := 321) hx hb dL_law_33 (by decide +kernel) (by decide +kernel) (by decide +kernel) (by decide) (lw_c5 C h_1 h_2 h_3 h_4 h_5 hI hl hc0 hs0 kk)
  · exact lv_tableIn (x := nI 6) (off := 311) (tgt := 344) hx hb dL_law_33 (by decide +kernel) (by decide +kernel) (by decide +kernel) (by decide) (lw_c6 C h_1 h_2 h_3 h_4 h_5 hI hl hc0 hs0 kk)
  · exact lv_tableIn (x := nI 7) (off := 374) (tgt := 407) hx hb dL_law_33 (by decide +kernel) (by decide +kernel) (by decide +kernel) (by decide) (lw_c7 C h_1 h_2 h_3 h_4 h_5 hI hl hc0 hs0 kk)
  · exact lv_tableIn (x := nI 8) (off := 397) (tgt := 430) hx hb dL_law_33 (by decide +kernel) (by decide +kernel) (by decide +kernel) (by decide) (lw_c8 C h_1 h_2 h_3 h_4 h_5 hI hl hc0 hs0 kk)
  · exact lv_tableIn (x := nI 9) (off := 430) (tgt := 463) hx hb dL_law_33 (by decide +kernel) (by decide +kernel) (by decide +kernel) (by decide) (lw_c9 C h_1 h_2 h_3 h_4 h_5 hI hl hc0 hs0 kk)
  · exact lv_tableIn (x := nI 10) (off := 453) (tgt := 486) hx hb dL_law_33 (by decide +kernel) (by decide +kernel) (by decide +kernel) (by decide) (lw_c10 C h_1 h_2 h_3 h_4 h_5 hI hl hc0 hs0 kk)
  · exact lv_tableIn (x := nI 11) (off := 486) (tgt := 519) hx hb dL_law_33 (by decide +kernel) (by decide +kernel) (by decide +kernel) (by decide) (lw_c11 C h_1 h_2 h_3 h_4 h_5 hI hl hc0 hs0 kk)
  · exact lv_tableIn (x := nI 12) (off := 509) (tgt := 542) hx hb dL_law_33 (by decide +kernel) (by decide +kernel) (by decide +kernel) (by decide) (lw_c12 C h_1 h_2 h_3 h_4 h_5 hI hl hc0 hs0 kk)
  · exact lv_tableIn (x := nI 13) (off := 532) (tgt := 565) hx hb dL_law_33 (by decide +kernel) (by decide +kernel) (by decide +kernel) (by decide) (lw_c13 C h_1 h_2 h_3 h_4 h_5 hI hl hc0 hs0 kk)
  · exact lv_tableIn (x := nI 14) (off := 557) (tgt := 590) hx hb dL_law_33 (by decide +kernel) (by decide +kernel) (by decide +kernel) (by decide) (lw_c14 C h_1 h_2 h_3 h_4 h_5 hI hl hc0 hs0 kk)
  · exact lv_tableIn (x := nI 15) (off := 570) (tgt := 603) hx hb dL_law_33 (by decide +kernel) (by decide +kernel) (by decide +kernel) (by decide) (lw_c15 C h_1 h_2 h_3 h_4 h_5 hI hl hc0 hs0 kk)
  · exact lv_tableIn (x := nI 16) (off := 583) (tgt := 616) hx hb dL_law_33 (by decide +kernel) (by decide +kernel) (by decide +kernel) (by decide) (lw_c16 C h_1 h_2 h_3 h_4 h_5 hI hl hc0 hs0 kk)
  · exact lv_tableIn (x := nI 17) (off := 596) (tgt := 629) hx hb dL_law_33 (by decide +kernel) (by decide +kernel) (by decide +kernel) (by decide) (lw_c17 C h_1 h_2 h_3 h_4 h_5 hI hl hc0 hs0 kk)
  · exact lv_tableIn (x := nI 18) (off := 609) (tgt := 642) hx hb dL_law_33 (by decide +kernel) (by decide +kernel) (by decide +kernel) (by decide) (lw_c18 C h_1 h_2 h_3 h_4 h_5 hI hl hc0 hs0 kk)
  · exact lv_tableIn (x := nI 19) (off := 622) (tgt := 655) hx hb dL_law_33 (by decide +kernel) (by decide +kernel) (by decide +kernel) (by decide) (lw_c19 C h_1 h_2 h_3 h_4 h_5 hI hl hc0 hs0 kk)
  · exact lv_tableIn (x := nI 20) (off := 655) (tgt := 688) hx hb dL_law_33 (by decide +kernel) (by decide +kernel) (by decide +kernel) (by decide) (lw_c20 C h_1 h_2 h_3 h_4 h_5 hI hl hc0 hs0 kk)
  · exact lv_tableIn (x := nI 21) (off := 688) (tgt := 721) hx hb dL_law_33 (by decide +kernel) (by decide +kernel) (by decide +kernel) (by decide) (lw_c21 C h_1 h_2 h_3 h_4 h_5 hI hl hc0 hs0 kk)
  · exact lv_tableIn (x := nI 22) (off := 721) (tgt := 754) hx hb dL_law_33 (by decide +kernel) (by decide +kernel) (by decide +kernel) (by decide) (lw_c22 C h_1 h_2 h_3 h_4 h_5 hI hl hc0 hs0 kk)
  · exact lv_tableIn (x := nI 23) (off := 754) (tgt := 787) hx hb dL_law_33 (by decide +kernel) (by decide +kernel) (by decide +kernel) (by decide) (lw_c23 C h_1 h_2 h_3 h_4 h_5 hI hl hc0 hs0 kk)
  · exact lv_tableIn (x := nI 24) (off := 787) (tgt := 820) hx hb dL_law_33 (by decide +kernel) (by decide +kernel) (by decide +kernel) (by decide) (lw_c24 C h_1 h_2 h_3 h_4 h_5 hI hl hc0 hs0 kk)
  · exact lv_tableIn (x := nI 25) (off := 820) (tgt := 853) hx hb dL_law_33 (by decide +kernel) (by decide +kernel) (by decide +kernel) (by decide) (lw_c25 C h_1 h_2 h_3 h_4 h_5 hI hl hc0 hs0 kk)
  · exact lv_tableIn (x := nI 26) (off := 853) (tgt := 886) hx hb dL_law_33 (by decide +kernel) (by decide +kernel) (by decide +kernel) (by decide) (lw_c26 C h_1 h_2 h_3 h_4 h_5 hI hl hc0 hs0 kk)
  · exact lv_tableIn (x := nI 27) (off := 886) (tgt := 919) hx hb dL_law_33 (by decide +kernel) (by decide +kernel) (by decide +kernel) (by decide) (lw_c27 C h_1 h_2 h_3 h_4 h_5 hI hl hc0 hs0 kk)
  · exact lv_tableIn (x := nI 28) (off := 919) (tgt := 952) hx hb dL_law_33 (by decide +kernel) (by decide +kernel) (by decide +kernel) (by decide) (lw_c28 C h_1 h_2 h_3 h_4 h_5 hI hl hc0 hs0 kk)
  · exact lv_tableIn (x := nI 29) (off := 952) (tgt := 985) hx hb dL_law_33 (by decide +kernel) (by decide +kernel) (by decide +kernel) (by decide) (lw_c29 C h_1 h_2 h_3 h_4 h_5 hI hl hc0 hs0 kk)
  · exact lv_tableIn (x := nI 30) (off := 985) (tgt := 1018) hx hb dL_law_33 (by decide +kernel) (by decide +kernel) (by decide +kernel) (by decide) (lw_c30 C h_1 h_2 h_3 h_4 h_5 hI hl hc0 hs0 kk)
  · exact lv_tableIn (x := nI 31) (off := 1018) (tgt := 1051) hx hb dL_law_33 (by decide +kernel) (by decide +kernel) (by decide +kernel) (by decide) (lw_c31 C h_1 h_2 h_3 h_4 h_5 hI hl hc0 hs0 kk)
