def f_X3_lineOf (X : gM) (a1 : Int32) : Nat :=
  if a1 = 0 then
    1
  else
    16
set_option maxHeartbeats 4000000 in
set_option maxRecDepth 100000 in
theorem c_X3_lineOf (l : Launch) (D : va_G) (cy : Nat → ClassId) (σ : Nat) (X : gM) (a1 : Int32)  : Met l yX3_lineOf wsX3_lineOf ({ frames := 0, cells := 0, slots := 0, locals := 0 }) (gP [.ref σ, .int a1] D cy (SR D cy σ X)) (gQq (some (σ + (f_X3_lineOf X a1))) (fun _ => True) gNo) 0 0 gNo := by
  refine gm_met (cc := cX3_lineOf) (maxL := 2) (ret := (some (.object "MercuryLine$Line"))) [.ref σ, .int a1] (by decide) rfl (Nat.le_of_ble_eq_true rfl) ?_
  intro p e s m args below meth c0 ls C hR hl
  obtain ⟨hx, hb, hr, hts, hown, hlocks, hml, hK⟩ := C
  have hl : lv_has ls 2 [(0, .ref σ), (1, .int a1)] := hl
  have hS : va_S gNo s.heap s.heap [] := va_S.rf
  have lk20 := hts (.fieldLink RX3 20 "MercuryLine$State" "one" "LMercuryLine$Line;") (by decide +kernel)
  have inX3 : ∀ w ∈ u_ws RX3 TX3 14, w ∈ wsX3_lineOf := by decide +kernel
  have lk14 := hts (.fieldLink RX3 14 "MercuryLine$State" "zero" "LMercuryLine$Line;") (by decide +kernel)
  refine lv_iload_n hx hb dX3_lineOf_0 rfl (lv_at hl 1 rfl) ?_
  refine lv_if_ne (tgt := 11) hx hb dX3_lineOf_1 (by decide) (fun c_1 => ?_) (fun c_1 => ?_)
  · refine lv_aload_n hx hb dX3_lineOf_11 rfl (lv_at hl 0 rfl) ?_
    refine va_get (D := D) (ci := 3) (v := .ref (σ + 16)) (C := RX3) (T := TX3) (N := 14) hx hb hts inX3 hown hK.1 (SR.mk0 hR) 0 rfl rfl 1 (by decide) lk20 (fun _ h9 => h9) rfl dX3_lineOf_12 ?_
    exact gm_aret hx hb hr hlocks hS (by (try simp only [f_X3_lineOf, ↓if_neg c_1]); (try rfl)) trivial dX3_lineOf_15
  · refine lv_aload_n hx hb dX3_lineOf_4 rfl (lv_at hl 0 rfl) ?_
    refine va_get (D := D) (ci := 3) (v := .ref (σ + 1)) (C := RX3) (T := TX3) (N := 14) hx hb hts inX3 hown hK.1 (SR.mk0 hR) 0 rfl rfl 0 (by decide) lk14 (fun _ h9 => h9) rfl dX3_lineOf_5 ?_
    refine lv_goto (tgt := 15) hx hb dX3_lineOf_8 (by decide) ?_
    exact gm_aret hx hb hr hlocks hS (by (try simp only [f_X3_lineOf, ↓if_pos c_1]); (try rfl)) trivial dX3_lineOf_15
theorem fk_X3_lineOf (X : gM) (a : Int32) : f_X3_lineOf X a < 123 ∧ kdS (f_X3_lineOf X a) = 0 := by
  unfold f_X3_lineOf
  split <;> decide
def f_X3_stationOf (X : gM) (a1 : Int32) : Option Nat :=
  if f_X8_within a1 0 19 = 0 then
    none
  else
    gOpt (f_X0_stationAt X (f_X3_lineOf X (a1 / 10)) (a1 - a1 / 10 * 10)) (
      none) (fun q2 =>
      some q2)
set_option maxHeartbeats 4000000 in
set_option maxRecDepth 100000 in
theorem c_X3_stationOf (l : Launch) (D : va_G) (cy : Nat → ClassId) (σ : Nat) (X : gM) (a1 : Int32)  : Met l yX3_stationOf wsX3_stationOf ({ frames := 2, cells := 0, slots := 0, locals := 44 }) (gP [.ref σ, .int a1] D cy (SR D cy σ X)) (gQq (Option.map (fun c => σ + c) (f_X3_stationOf X a1)) (fun _ => True) gNo) 0 0 gNo := by
  refine gm_met (cc := cX3_stationOf) (maxL := 2) (ret := (some (.object "MercuryLine$Station"))) [.ref σ, .int a1] (by decide) rfl (Nat.le_of_ble_eq_true rfl) ?_
  intro p e s m args below meth c0 ls C hR hl
  obtain ⟨hx, hb, hr, hts, hown, hlocks, hml, hK⟩ := C
  have hl : lv_has ls 2 [(0, .ref σ), (1, .int a1)] := hl
  have hS : va_S gNo s.heap s.heap [] := va_S.rf
  refine lv_iload_n hx hb dX3_stationOf_0 rfl (lv_at hl 1 rfl) ?_
  refine lv_iconst (v := 0) hx hb dX3_stationOf_1 (by decide) ?_
  refine lv_bipush (v := 19) hx hb dX3_stationOf_2 (by decide) ?_
  refine gm_ci (gm_callN (As := [.int a1, .int 0, .int 19]) (rest := []) ⟨hx, hb, hml, hown, hts⟩ hK (c_X8_within l D cy a1 0 19) ⟨va_cnB 3 hts gX3_stationOf_X8_within_n85 rfl rfl rfl (hK.2.1 (RX3, 85, yX8_within, "MercuryLine") (by decide +kernel)) (hts (.initialized RX8) (by decide +kernel)) (by decide +kernel) ⟨Nat.le_of_ble_eq_true rfl, Nat.le_of_ble_eq_true rfl⟩, hts (.static yX8_within) (by decide +kernel), trivial⟩ trivial rfl hl.1 rfl (Nat.le_of_ble_eq_true rfl) dX3_stationOf_4 (Nat.zero_le _) (Nat.zero_le _)) hS (fun _ h => h.elim) (fun H locs _ _ hfr hS => ?_)
  have hR := gRep.keep hR hfr (fun _ _ h => h)
  refine lv_if_eq (tgt := 28) hx hb dX3_stationOf_7 (by decide) (fun c_1 => ?_) (fun c_1 => ?_)
  · refine lv_null hx hb dX3_stationOf_28 ?_
    exact gm_aret hx hb hr hlocks hS (by (try simp only [f_X3_stationOf, ↓if_pos c_1]); (try rfl)) trivial dX3_stationOf_29
  · refine lv_aload_n hx hb dX3_stationOf_10 rfl (lv_at hl 0 rfl) ?_
    refine lv_iload_n hx hb dX3_stationOf_11 rfl (lv_at hl 1 rfl) ?_
    refine lv_bipush (v := 10) hx hb dX3_stationOf_12 (by decide) ?_
    refine lv_idiv hx hb dX3_stationOf_14 (by decide) ?_
    refine gm_cq (gm_call (As := [.int (a1 / 10)]) (rest := []) (ci := 3) (q := (RX3, TX3, 14)) ⟨hx, hb, hml, hown, hts⟩ hK (c_X3_lineOf l D cy σ X (a1 / 10)) (cwV 1 hts gX3_stationOf_X3_lineOf rfl rfl rfl (by decide +kernel) ⟨Nat.le_of_ble_eq_true rfl, Nat.le_of_ble_eq_true rfl⟩) (SR.mk0 hR) rfl hR rfl hl.1 rfl (Nat.le_of_ble_eq_true rfl) dX3_stationOf_15 (Nat.zero_le _) (Nat.zero_le _)) hS (fun _ h => h.elim) (fun H locs _ _ hfr hS => ?_)
    have hR := gRep.keep hR hfr (fun _ _ h => h)
    refine W.eq (g2 := F0 m 18 ls [.ref (σ + (f_X3_lineOf X (a1 / 10)))]) rfl ?_
    refine lv_iload_n hx hb dX3_stationOf_18 rfl (lv_at hl 1 rfl) ?_
    refine lv_bipush (v := 10) hx hb dX3_stationOf_19 (by decide) ?_
    refine lv_irem hx hb dX3_stationOf_21 (by decide) ?_
    refine gm_cq (gm_call (As := [.int (a1 - a1 / 10 * 10)]) (rest := []) (ci := 0) (q := (RX0, TX0, 10)) ⟨hx, hb, hml, hown, hts⟩ hK (c_X0_stationAt l D cy σ X (f_X3_lineOf X (a1 / 10)) (a1 - a1 / 10 * 10) (fk_X3_lineOf X (a1 / 10)).1 (fk_X3_lineOf X (a1 / 10)).2) (cwV 1 hts gX3_stationOf_X0_stationAt rfl rfl rfl (by decide +kernel) ⟨Nat.le_of_ble_eq_true rfl, Nat.le_of_ble_eq_true rfl⟩) (SR.mk1 hR (c := f_X3_lineOf X (a1 / 10)) (fk_X3_lineOf X (a1 / 10)).1 (bS_0 (fk_X3_lineOf X (a1 / 10)).2)) rfl hR rfl hl.1 rfl (Nat.le_of_ble_eq_true rfl) dX3_stationOf_22 (Nat.zero_le _) (Nat.zero_le _)) hS (fun _ h => h.elim) (fun H locs _ _ hfr hS => ?_)
    have hR := gRep.keep hR hfr (fun _ _ h => h)
    rcases hq2 : f_X0_stationAt X (f_X3_lineOf X (a1 / 10)) (a1 - a1 / 10 * 10) with _ | q2
    · refine W.eq (g2 := F0 m 25 ls [.null]) rfl ?_
      refine lv_goto (tgt := 29) hx hb dX3_stationOf_25 (by decide) ?_
      exact gm_aret hx hb hr hlocks hS (by (try simp only [f_X3_stationOf, ↓if_neg c_1, ↓gOpt_n hq2]); (try rfl)) trivial dX3_stationOf_29
    · refine W.eq (g2 := F0 m 25 ls [.ref (σ + q2)]) rfl ?_
      refine lv_goto (tgt := 29) hx hb dX3_stationOf_25 (by decide) ?_
      exact gm_aret hx hb hr hlocks hS (by (try simp only [f_X3_stationOf, ↓if_neg c_1, ↓gOpt_s hq2]); (try rfl)) trivial dX3_stationOf_29
theorem fk_X3_stationOf {X : gM} {a1 : Int32} {q : Nat} (h : f_X3_stationOf X a1 = some q) : q < 123 ∧ kdS q = 4 := by
  unfold f_X3_stationOf at h
  simp only [gOpt] at h
  split at h
  · cases h
  · split at h
    · cases h
    · rename_i h2
      cases h
      exact fk_X0_stationAt (fk_X3_lineOf X _).1 (fk_X3_lineOf X _).2 h2
def f_X3_ticketOf (X : gM) (a1 : Int32) : Option Nat :=
  if f_X8_within a1 0 ((X 0 5) - 1) = 0 then
    none
  else
    if 40 ≤ a1 then
      none
    else
      some (35 + 2 * a1.toNatClampNeg)
set_option maxHeartbeats 4000000 in
set_option maxRecDepth 100000 in
theorem c_X3_ticketOf (l : Launch) (D : va_G) (cy : Nat → ClassId) (σ : Nat) (X : gM) (a1 : Int32)  : Met l yX3_ticketOf wsX3_ticketOf ({ frames := 1, cells := 0, slots := 0, locals := 22 }) (gP [.ref σ, .int a1] D cy (SR D cy σ X)) (gQq (Option.map (fun c => σ + c) (f_X3_ticketOf X a1)) (fun _ => True) gNo) 0 0 gNo := by
  refine gm_met (cc := cX3_ticketOf) (maxL := 3) (ret := (some (.object "MercuryLine$Ticket"))) [.ref σ, .int a1] (by decide) rfl (Nat.le_of_ble_eq_true rfl) ?_
  intro p e s m args below meth c0 ls C hR hl
  obtain ⟨hx, hb, hr, hts, hown, hlocks, hml, hK⟩ := C
  have hl : lv_has ls 3 [(0, .ref σ), (1, .int a1)] := hl
  have hS : va_S gNo s.heap s.heap [] := va_S.rf
  have lk64 := hts (.fieldLink RX3 64 "MercuryLine$State" "ticketCount" "I") (by decide +kernel)
  have inX3 : ∀ w ∈ u_ws RX3 TX3 14, w ∈ wsX3_ticketOf := by decide +kernel
  have lk25 := hts (.fieldLink RX3 25 "MercuryLine$State" "tickets" "[LMercuryLine$Ticket;") (by decide +kernel)
  refine lv_iload_n hx hb dX3_ticketOf_0 rfl (lv_at hl 1 rfl) ?_
  refine lv_iconst (v := 0) hx hb dX3_ticketOf_1 (by decide) ?_
  refine lv_aload_n hx hb dX3_ticketOf_2 rfl (lv_at hl 0 rfl) ?_
  refine va_get (D := D) (ci := 3) (v := .int (X 0 5)) (C := RX3) (T := TX3) (N := 14) hx hb hts inX3 hown hK.1 (SR.mk0 hR) 0 rfl rfl 5 (by decide) lk64 (fun _ h9 => h9) rfl dX3_ticketOf_3 ?_
  refine lv_iconst (v := 1) hx hb dX3_ticketOf_6 (by decide) ?_
  refine lv_isub hx hb dX3_ticketOf_7 ?_
  refine gm_ci (gm_callN (As := [.int a1, .int 0, .int ((X 0 5) - 1)]) (rest := []) ⟨hx, hb, hml, hown, hts⟩ hK (c_X8_within l D cy a1 0 ((X 0 5) - 1)) ⟨va_cnB 3 hts gX3_ticketOf_X8_within_n85 rfl rfl rfl (hK.2.1 (RX3, 85, yX8_within, "MercuryLine") (by decide +kernel)) (hts (.initialized RX8) (by decide +kernel)) (by decide +kernel) ⟨Nat.le_of_ble_eq_true rfl, Nat.le_of_ble_eq_true rfl⟩, hts (.static yX8_within) (by decide +kernel), trivial⟩ trivial rfl hl.1 rfl (Nat.le_of_ble_eq_true rfl) dX3_ticketOf_8 (Nat.zero_le _) (Nat.zero_le _)) hS (fun _ h => h.elim) (fun H locs _ _ hfr hS => ?_)
  have hR := gRep.keep hR hfr (fun _ _ h => h)
  refine lv_if_eq (tgt := 27) hx hb dX3_ticketOf_11 (by decide) (fun c_1 => ?_) (fun c_1 => ?_)
  · refine lv_iconst (v := 0) hx hb dX3_ticketOf_27 (by decide) ?_
    refine lv_istore_n (lv' := [(2, .int 0), (0, .ref σ), (1, .int a1)]) hx hb dX3_ticketOf_28 rfl hl (by decide) rfl (fun ls hl => ?_)
    refine lv_iload_n hx hb dX3_ticketOf_29 rfl (lv_at hl 0 rfl) ?_
    refine lv_if_eq (tgt := 42) hx hb dX3_ticketOf_30 (by decide) (fun c_2 => ?_) (fun c_2 => ?_)
    · refine lv_null hx hb dX3_ticketOf_42 ?_
      exact gm_aret hx hb hr hlocks hS (by (try simp only [f_X3_ticketOf, ↓if_pos c_1]); (try rfl)) trivial dX3_ticketOf_43
    · exact absurd c_2 (by decide)
  · refine lv_iload_n hx hb dX3_ticketOf_14 rfl (lv_at hl 1 rfl) ?_
    refine lv_aload_n hx hb dX3_ticketOf_15 rfl (lv_at hl 0 rfl) ?_
    refine va_get (D := D) (ci := 3) (v := .ref (σ + 31)) (C := RX3) (T := TX3) (N := 14) hx hb hts inX3 hown hK.1 (SR.mk0 hR) 0 rfl rfl 2 (by decide) lk25 (fun _ h9 => h9) rfl dX3_ticketOf_16 ?_
    refine va_alen (v := 40) hx hb hK.1 (SR.mk1 hR (c := 31) (by decide) (bS_25 (by decide))) 0 5 rfl rfl rfl dX3_ticketOf_19 ?_
    refine lv_icmp_ge (tgt := 27) hx hb dX3_ticketOf_20 (by decide) (fun c_3 => ?_) (fun c_3 => ?_)
    · refine lv_iconst (v := 0) hx hb dX3_ticketOf_27 (by decide) ?_
      refine lv_istore_n (lv' := [(2, .int 0), (0, .ref σ), (1, .int a1)]) hx hb dX3_ticketOf_28 rfl hl (by decide) rfl (fun ls hl => ?_)
      refine lv_iload_n hx hb dX3_ticketOf_29 rfl (lv_at hl 0 rfl) ?_
      refine lv_if_eq (tgt := 42) hx hb dX3_ticketOf_30 (by decide) (fun c_4 => ?_) (fun c_4 => ?_)
      · refine lv_null hx hb dX3_ticketOf_42 ?_
        exact gm_aret hx hb hr hlocks hS (by (try simp only [f_X3_ticketOf, ↓if_neg c_1, ↓if_pos c_3]); (try rfl)) trivial dX3_ticketOf_43
      · exact absurd c_4 (by decide)
    · refine lv_iconst (v := 1) hx hb dX3_ticketOf_23 (by decide) ?_
      refine lv_goto (tgt := 28) hx hb dX3_ticketOf_24 (by decide) ?_
      refine lv_istore_n (lv' := [(2, .int 1), (0, .ref σ), (1, .int a1)]) hx hb dX3_ticketOf_28 rfl hl (by decide) rfl (fun ls hl => ?_)
      refine lv_iload_n hx hb dX3_ticketOf_29 rfl (lv_at hl 0 rfl) ?_
      refine lv_if_eq (tgt := 42) hx hb dX3_ticketOf_30 (by decide) (fun c_5 => ?_) (fun c_5 => ?_)
      · exact absurd c_5 (by decide)
      · refine lv_aload_n hx hb dX3_ticketOf_33 rfl (lv_at hl 1 rfl) ?_
        refine va_get (D := D) (ci := 3) (v := .ref (σ + 31)) (C := RX3) (T := TX3) (N := 14) hx hb hts inX3 hown hK.1 (SR.mk0 hR) 0 rfl rfl 2 (by decide) lk25 (fun _ h9 => h9) rfl dX3_ticketOf_34 ?_
        refine lv_iload_n hx hb dX3_ticketOf_37 rfl (lv_at hl 2 rfl) ?_
        refine gm_aald (b := (σ + (35 + 2 * a1.toNatClampNeg))) hx hb hK.1 (SR.mk1 hR (c := 31) (by decide) (bS_25 (by decide))) 5 rfl (by
      refine vp_in_iff.mpr ?_
      try simp only [w_ne] at c_1 c_3
      simp only [Int32.le_iff_toInt_le, Int32.lt_iff_toInt_lt, ← Int32.toInt_inj, ti_m5, ti_0, ti_1, ti_2, ti_3, ti_4, ti_5, ti_6, ti_12, ti_19, ti_23, ti_24, ti_39, ti_40, ti_59, ti_60] at c_1 c_3 ⊢
      omega) rfl dX3_ticketOf_38 ?_
        refine lv_goto (tgt := 43) hx hb dX3_ticketOf_39 (by decide) ?_
        exact gm_aret hx hb hr hlocks hS (by (try simp only [f_X3_ticketOf, ↓if_neg c_1, ↓if_neg c_3]); (try rfl)) trivial dX3_ticketOf_43
theorem fk_X3_ticketOf {X : gM} {a1 : Int32} {q : Nat} (h : f_X3_ticketOf X a1 = some q) : q < 123 ∧ kdS q = 5 := by
  unfold f_X3_ticketOf at h
  split at h
  · cases h
  · rename_i h1
    split at h
    · cases h
    · rename_i h2
      cases h
      have hv : a1.toNatClampNeg < 40 := g_vl (n := 40) (vp_in_iff.mpr (by
        simp only [w_ne] at h1
        simp only [Int32.le_iff_toInt_le, Int32.lt_iff_toInt_lt, ti_0, ti_40] at h1 h2 ⊢
        omega))
      exact ⟨(kd_T _ hv).1, (kd_T _ hv).2.1⟩
def f_X3_orderOf (X : gM) (a1 : Int32) : Option Nat :=
  if f_X8_within a1 0 ((X 0 6) - 1) = 0 then
    none
  else
    if 4 ≤ a1 then
      none
    else
      some (115 + 2 * a1.toNatClampNeg)
set_option maxHeartbeats 4000000 in
set_option maxRecDepth 100000 in
theorem c_X3_orderOf (l : Launch) (D : va_G) (cy : Nat → ClassId) (σ : Nat) (X : gM) (a1 : Int32)  : Met l yX3_orderOf wsX3_orderOf ({ frames := 1, cells := 0, slots := 0, locals := 22 }) (gP [.ref σ, .int a1] D cy (SR D cy σ X)) (gQq (Option.map (fun c => σ + c) (f_X3_orderOf X a1)) (fun _ => True) gNo) 0 0 gNo := by
  refine gm_met (cc := cX3_orderOf) (maxL := 3) (ret := (some (.object "MercuryLine$Order"))) [.ref σ, .int a1] (by decide) rfl (Nat.le_of_ble_eq_true rfl) ?_
  intro p e s m args below meth c0 ls C hR hl
  obtain ⟨hx, hb, hr, hts, hown, hlocks, hml, hK⟩ := C
  have hl : lv_has ls 3 [(0, .ref σ), (1, .int a1)] := hl
  have hS : va_S gNo s.heap s.heap [] := va_S.rf
  have lk67 := hts (.fieldLink RX3 67 "MercuryLine$State" "orderCount" "I") (by decide +kernel)
  have inX3 : ∀ w ∈ u_ws RX3 TX3 14, w ∈ wsX3_orderOf := by decide +kernel
  have lk31 := hts (.fieldLink RX3 31 "MercuryLine$State" "orders" "[LMercuryLine$Order;") (by decide +kernel)
  refine lv_iload_n hx hb dX3_orderOf_0 rfl (lv_at hl 1 rfl) ?_
  refine lv_iconst (v := 0) hx hb dX3_orderOf_1 (by decide) ?_
  refine lv_aload_n hx hb dX3_orderOf_2 rfl (lv_at hl 0 rfl) ?_
  refine va_get (D := D) (ci := 3) (v := .int (X 0 6)) (C := RX3) (T := TX3) (N := 14) hx hb hts inX3 hown hK.1 (SR.mk0 hR) 0 rfl rfl 6 (by decide) lk67 (fun _ h9 => h9) rfl dX3_orderOf_3 ?_
  refine lv_iconst (v := 1) hx hb dX3_orderOf_6 (by decide) ?_
  refine lv_isub hx hb dX3_orderOf_7 ?_
  refine gm_ci (gm_callN (As := [.int a1, .int 0, .int ((X 0 6) - 1)]) (rest := []) ⟨hx, hb, hml, hown, hts⟩ hK (c_X8_within l D cy a1 0 ((X 0 6) - 1)) ⟨va_cnB 3 hts gX3_orderOf_X8_within_n85 rfl rfl rfl (hK.2.1 (RX3, 85, yX8_within, "MercuryLine") (by decide +kernel)) (hts (.initialized RX8) (by decide +kernel)) (by decide +kernel) ⟨Nat.le_of_ble_eq_true rfl, Nat.le_of_ble_eq_true rfl⟩, hts (.static yX8_within) (by decide +kernel), trivial⟩ trivial rfl hl.1 rfl (Nat.le_of_ble_eq_true rfl) dX3_orderOf_8 (Nat.zero_le _) (Nat.zero_le _)) hS (fun _ h => h.elim) (fun H locs _ _ hfr hS => ?_)
  have hR := gRep.keep hR hfr (fun _ _ h => h)
  refine lv_if_eq (tgt := 27) hx hb dX3_orderOf_11 (by decide) (fun c_1 => ?_) (fun c_1 => ?_)
  · refine lv_iconst (v := 0) hx hb dX3_orderOf_27 (by decide) ?_
    refine lv_istore_n (lv' := [(2, .int 0), (0, .ref σ), (1, .int a1)]) hx hb dX3_orderOf_28 rfl hl (by decide) rfl (fun ls hl => ?_)
    refine lv_iload_n hx hb dX3_orderOf_29 rfl (lv_at hl 0 rfl) ?_
    refine lv_if_eq (tgt := 42) hx hb dX3_orderOf_30 (by decide) (fun c_2 => ?_) (fun c_2 => ?_)
    · refine lv_null hx hb dX3_orderOf_42 ?_
      exact gm_aret hx hb hr hlocks hS (by (try simp only [f_X3_orderOf, ↓if_pos c_1]); (try rfl)) trivial dX3_orderOf_43
    · exact absurd c_2 (by decide)
  · refine lv_iload_n hx hb dX3_orderOf_14 rfl (lv_at hl 1 rfl) ?_
    refine lv_aload_n hx hb dX3_orderOf_15 rfl (lv_at hl 0 rfl) ?_
    refine va_get (D := D) (ci := 3) (v := .ref (σ + 32)) (C := RX3) (T := TX3) (N := 14) hx hb hts inX3 hown hK.1 (SR.mk0 hR) 0 rfl rfl 3 (by decide) lk31 (fun _ h9 => h9) rfl dX3_orderOf_16 ?_
    refine va_alen (v := 4) hx hb hK.1 (SR.mk1 hR (c := 32) (by decide) (bS_26 (by decide))) 0 2 rfl rfl rfl dX3_orderOf_19 ?_
    refine lv_icmp_ge (tgt := 27) hx hb dX3_orderOf_20 (by decide) (fun c_3 => ?_) (fun c_3 => ?_)
    · refine lv_iconst (v := 0) hx hb dX3_orderOf_27 (by decide) ?_
      refine lv_istore_n (lv' := [(2, .int 0), (0, .ref σ), (1, .int a1)]) hx hb dX3_orderOf_28 rfl hl (by decide) rfl (fun ls hl => ?_)
      refine lv_iload_n hx hb dX3_orderOf_29 rfl (lv_at hl 0 rfl) ?_
      refine lv_if_eq (tgt := 42) hx hb dX3_orderOf_30 (by decide) (fun c_4 => ?_) (fun c_4 => ?_)
      · refine lv_null hx hb dX3_orderOf_42 ?_
        exact gm_aret hx hb hr hlocks hS (by (try simp only [f_X3_orderOf, ↓if_neg c_1, ↓if_pos c_3]); (try rfl)) trivial dX3_orderOf_43
      · exact absurd c_4 (by decide)
    · refine lv_iconst (v := 1) hx hb dX3_orderOf_23 (by decide) ?_
      refine lv_goto (tgt := 28) hx hb dX3_orderOf_24 (by decide) ?_
      refine lv_istore_n (lv' := [(2, .int 1), (0, .ref σ), (1, .int a1)]) hx hb dX3_orderOf_28 rfl hl (by decide) rfl (fun ls hl => ?_)
      refine lv_iload_n hx hb dX3_orderOf_29 rfl (lv_at hl 0 rfl) ?_
      refine lv_if_eq (tgt := 42) hx hb dX3_orderOf_30 (by decide) (fun c_5 => ?_) (fun c_5 => ?_)
      · exact absurd c_5 (by decide)
      · refine lv_aload_n hx hb dX3_orderOf_33 rfl (lv_at hl 1 rfl) ?_
        refine va_get (D := D) (ci := 3) (v := .ref (σ + 32)) (C := RX3) (T := TX3) (N := 14) hx hb hts inX3 hown hK.1 (SR.mk0 hR) 0 rfl rfl 3 (by decide) lk31 (fun _ h9 => h9) rfl dX3_orderOf_34 ?_
        refine lv_iload_n hx hb dX3_orderOf_37 rfl (lv_at hl 2 rfl) ?_
        refine gm_aald (b := (σ + (115 + 2 * a1.toNatClampNeg))) hx hb hK.1 (SR.mk1 hR (c := 32) (by decide) (bS_26 (by decide))) 2 rfl (by
      refine vp_in_iff.mpr ?_
      try simp only [w_ne] at c_1 c_3
      simp only [Int32.le_iff_toInt_le, Int32.lt_iff_toInt_lt, ← Int32.toInt_inj, ti_m5, ti_0, ti_1, ti_2, ti_3, ti_4, ti_5, ti_6, ti_12, ti_19, ti_23, ti_24, ti_39, ti_40, ti_59, ti_60] at c_1 c_3 ⊢
      omega) rfl dX3_orderOf_38 ?_
        refine lv_goto (tgt := 43) hx hb dX3_orderOf_39 (by decide) ?_
        exact gm_aret hx hb hr hlocks hS (by (try simp only [f_X3_orderOf, ↓if_neg c_1, ↓if_neg c_3]); (try rfl)) trivial dX3_orderOf_43
theorem fk_X3_orderOf {X : gM} {a1 : Int32} {q : Nat} (h : f_X3_orderOf X a1 = some q) : q < 123 ∧ kdS q = 2 := by
  unfold f_X3_orderOf at h
  split at h
  · cases h
  · rename_i h1
    split at h
    · cases h
    · rename_i h2
      cases h
      have hv : a1.toNatClampNeg < 4 := g_vl (n := 4) (vp_in_iff.mpr (by
        simp only [w_ne] at h1
        simp only [Int32.le_iff_toInt_le, Int32.lt_iff_toInt_lt, ti_0, ti_4] at h1 h2 ⊢
        omega))
      exact kd_O _ hv
def f_X3_hasTickets (X : gM) (a1 : Int32) : Int32 :=
  if 40 < (X 0 5) + a1 then
    0
  else
    1
set_option maxHeartbeats 4000000 in
set_option maxRecDepth 100000 in
theorem c_X3_hasTickets (l : Launch) (D : va_G) (cy : Nat → ClassId) (σ : Nat) (X : gM) (a1 : Int32)  : Met l yX3_hasTickets wsX3_hasTickets ({ frames := 0, cells := 0, slots := 0, locals := 0 }) (gP [.ref σ, .int a1] D cy (SR D cy σ X)) (gQi (f_X3_hasTickets X a1) (fun _ => True) gNo) 0 0 gNo := by
  refine gm_met (cc := cX3_hasTickets) (maxL := 2) (ret := (some .boolean)) [.ref σ, .int a1] (by decide) rfl (Nat.le_of_ble_eq_true rfl) ?_
  intro p e s m args below meth c0 ls C hR hl
  obtain ⟨hx, hb, hr, hts, hown, hlocks, hml, hK⟩ := C
  have hl : lv_has ls 2 [(0, .ref σ), (1, .int a1)] := hl
  have hS : va_S gNo s.heap s.heap [] := va_S.rf
  have lk64 := hts (.fieldLink RX3 64 "MercuryLine$State" "ticketCount" "I") (by decide +kernel)
  have inX3 : ∀ w ∈ u_ws RX3 TX3 14, w ∈ wsX3_hasTickets := by decide +kernel
  refine lv_aload_n hx hb dX3_hasTickets_0 rfl (lv_at hl 0 rfl) ?_
  refine va_get (D := D) (ci := 3) (v := .int (X 0 5)) (C := RX3) (T := TX3) (N := 14) hx hb hts inX3 hown hK.1 (SR.mk0 hR) 0 rfl rfl 5 (by decide) lk64 (fun _ h9 => h9) rfl dX3_hasTickets_1 ?_
  refine lv_iload_n hx hb dX3_hasTickets_4 rfl (lv_at hl 1 rfl) ?_
  refine lv_iadd hx hb dX3_hasTickets_5 ?_
  refine lv_bipush (v := 40) hx hb dX3_hasTickets_6 (by decide) ?_
  refine lv_icmp_gt (tgt := 15) hx hb dX3_hasTickets_8 (by decide) (fun c_1 => ?_) (fun c_1 => ?_)
  · refine lv_iconst (v := 0) hx hb dX3_hasTickets_15 (by decide) ?_
    exact gm_zret hx hb hr hlocks rfl hS (by (try simp only [f_X3_hasTickets, ↓if_pos c_1]); (try rfl)) trivial dX3_hasTickets_16
  · refine lv_iconst (v := 1) hx hb dX3_hasTickets_11 (by decide) ?_
    refine lv_goto (tgt := 16) hx hb dX3_hasTickets_12 (by decide) ?_
    exact gm_zret hx hb hr hlocks rfl hS (by (try simp only [f_X3_hasTickets, ↓if_neg c_1]); (try rfl)) trivial dX3_hasTickets_16
def f_X3_priceOf (X : gM) (a1 : Int32) (a2 : Int32) : Int32 :=
  if a1 = 3 then
    ((a1 * a2) * (X 0 8)) + 25
  else
    ((a1 * a2) * (X 0 8)) + 0
set_option maxHeartbeats 4000000 in
set_option maxRecDepth 100000 in
theorem c_X3_priceOf (l : Launch) (D : va_G) (cy : Nat → ClassId) (σ : Nat) (X : gM) (a1 : Int32) (a2 : Int32)  : Met l yX3_priceOf wsX3_priceOf ({ frames := 0, cells := 0, slots := 0, locals := 0 }) (gP [.ref σ, .int a1, .int a2] D cy (SR D cy σ X)) (gQi (f_X3_priceOf X a1 a2) (fun _ => True) gNo) 0 0 gNo := by
  refine gm_met (cc := cX3_priceOf) (maxL := 3) (ret := (some .int)) [.ref σ, .int a1, .int a2] (by decide) rfl (Nat.le_of_ble_eq_true rfl) ?_
  intro p e s m args below meth c0 ls C hR hl
  obtain ⟨hx, hb, hr, hts, hown, hlocks, hml, hK⟩ := C
  have hl : lv_has ls 3 [(0, .ref σ), (1, .int a1), (2, .int a2)] := hl
  have hS : va_S gNo s.heap s.heap [] := va_S.rf
  have lk42 := hts (.fieldLink RX3 42 "MercuryLine$State" "fare" "I") (by decide +kernel)
  have inX3 : ∀ w ∈ u_ws RX3 TX3 14, w ∈ wsX3_priceOf := by decide +kernel
  refine lv_iload_n hx hb dX3_priceOf_0 rfl (lv_at hl 1 rfl) ?_
  refine lv_iload_n hx hb dX3_priceOf_1 rfl (lv_at hl 2 rfl) ?_
  refine lv_imul hx hb dX3_priceOf_2 ?_
  refine lv_aload_n hx hb dX3_priceOf_3 rfl (lv_at hl 0 rfl) ?_
  refine va_get (D := D) (ci := 3) (v := .int (X 0 8)) (C := RX3) (T := TX3) (N := 14) hx hb hts inX3 hown hK.1 (SR.mk0 hR) 0 rfl rfl 8 (by decide) lk42 (fun _ h9 => h9) rfl dX3_priceOf_4 ?_
  refine lv_imul hx hb dX3_priceOf_7 ?_
  refine lv_iload_n hx hb dX3_priceOf_8 rfl (lv_at hl 1 rfl) ?_
  refine lv_iconst (v := 3) hx hb dX3_priceOf_9 (by decide) ?_
  refine lv_icmp_ne (tgt := 18) hx hb dX3_priceOf_10 (by decide) (fun c_1 => ?_) (fun c_1 => ?_)
  · refine lv_iconst (v := 0) hx hb dX3_priceOf_18 (by decide) ?_
    refine lv_iadd hx hb dX3_priceOf_19 ?_
    exact gm_iret hx hb hr hlocks hS (by (try simp only [f_X3_priceOf, ↓if_neg c_1]); (try rfl)) trivial dX3_priceOf_20
  · refine lv_bipush (v := 25) hx hb dX3_priceOf_13 (by decide) ?_
    refine lv_goto (tgt := 19) hx hb dX3_priceOf_15 (by decide) ?_
    refine lv_iadd hx hb dX3_priceOf_19 ?_
    exact gm_iret hx hb hr hlocks hS (by (try simp only [f_X3_priceOf, ↓if_pos c_1]); (try rfl)) trivial dX3_priceOf_20
def lf_X3_countIn_4 (X : gM) (a1 : Int32) (K : (Int32) → (Nat) → (Int32)) : Nat → (Int32) → (Nat) → (Int32)
  | 0, x_2, k_3 => K x_2 k_3
  | n + 1, x_2, k_3 =>
    if X 0 5 ≤ nI k_3 then
      K x_2 k_3
    else
      if 40 ≤ nI k_3 then
        K x_2 k_3
      else
        if X (35 + 2 * k_3) 4 = a1 then
          lf_X3_countIn_4 X a1 K n (x_2 + 1) (k_3 + 1)
        else
          lf_X3_countIn_4 X a1 K n x_2 (k_3 + 1)
def f_X3_countIn (X : gM) (a1 : Int32) : Int32 :=
  lf_X3_countIn_4 X a1 (fun x_2w1 k_3w1 =>
        x_2w1) 41 0 0
set_option maxHeartbeats 4000000 in
set_option maxRecDepth 100000 in
theorem lp_X3_countIn_4 {p : Program} {l : Launch} {e : Env} {s : State} {m : MethodId} {args : Array Value} {below : List Frame} {meth : Method} {c0 : Code} {D : va_G} {cy : Nat → ClassId} (C : gCtx cX3_countIn 4 (some .int) RX3 wsX3_countIn D cy p s m args meth c0) (σ : Nat) (X : gM) (a1 : Int32) 
    (K : (Int32) → (Nat) → (Int32)) (hexit : ∀ (x_2 : Int32) (k_3 : Nat), k_3 ≤ 40 → ∀ (H : Heap) (locs : List Loc) (ls : Array Slot), SR D cy σ X H → va_S gNo s.heap H locs → lv_has ls 4 [(0, .ref σ), (1, .int a1), (2, .int x_2), (3, .int (nI k_3))] → W p l e { frames := 0, cells := 0, slots := 0, locals := 0 } s m args below meth c0 H locs 0 0 (MQ below (gQi (K x_2 k_3) (fun _ => True) gNo) args s 0 0 gNo) (F0 m 43 ls [])) :
    ∀ (n : Nat) (x_2 : Int32) (k_3 : Nat), k_3 ≤ 40 → 40 < k_3 + n → ∀ (H : Heap) (locs : List Loc) (ls : Array Slot), SR D cy σ X H → va_S gNo s.heap H locs → lv_has ls 4 [(0, .ref σ), (1, .int a1), (2, .int x_2), (3, .int (nI k_3))] → W p l e { frames := 0, cells := 0, slots := 0, locals := 0 } s m args below meth c0 H locs 0 0 (MQ below (gQi (lf_X3_countIn_4 X a1 K n x_2 k_3) (fun _ => True) gNo) args s 0 0 gNo) (F0 m 4 ls []) := by
  obtain ⟨hx, hb, hr, hts, hown, hlocks, hml, hK⟩ := C
  have lk64 := hts (.fieldLink RX3 64 "MercuryLine$State" "ticketCount" "I") (by decide +kernel)
  have inX3 : ∀ w ∈ u_ws RX3 TX3 14, w ∈ wsX3_countIn := by decide +kernel
  have lk25 := hts (.fieldLink RX3 25 "MercuryLine$State" "tickets" "[LMercuryLine$Ticket;") (by decide +kernel)
  have lk112 := hts (.fieldLink RX3 112 "MercuryLine$Ticket" "state" "I") (by decide +kernel)
  have inX5 : ∀ w ∈ u_ws RX5 TX5 14, w ∈ wsX3_countIn := by decide +kernel
  intro n
  induction n with
  | zero =>
    intro x_2 k_3 hb_3 hme
    exact absurd hme (by omega)
  | succ n ih =>
    intro x_2 k_3 hb_3 hme H locs ls hR hS hl
    refine lv_iload_n hx hb dX3_countIn_4 rfl (lv_at hl 3 rfl) ?_
    refine lv_aload_n hx hb dX3_countIn_5 rfl (lv_at hl 0 rfl) ?_
    refine va_get (D := D) (ci := 3) (v := .int (X 0 5)) (C := RX3) (T := TX3) (N := 14) hx hb hts inX3 hown hK.1 (SR.mk0 hR) 0 rfl rfl 5 (by decide) lk64 (fun _ h9 => h9) rfl dX3_countIn_6 ?_
    refine lv_icmp_ge (tgt := 43) hx hb dX3_countIn_9 (by decide) (fun c_1 => ?_) (fun c_1 => ?_)
    · refine gm_q (Q2 := MQ below (gQi (K x_2 k_3) (fun _ => True) gNo) args s 0 0 gNo) (by simp only [lf_X3_countIn_4, ↓if_pos c_1]) ?_
      exact hexit x_2 k_3 hb_3  _ _ _ hR hS (lv_sub hl [0, 1, 2, 3] rfl)
    · have lt_2 : k_3 < 2147483647 := g_big (Nat.lt_of_le_of_lt hb_3 (by decide)) c_1
      refine lv_iload_n hx hb dX3_countIn_12 rfl (lv_at hl 3 rfl) ?_
      refine lv_aload_n hx hb dX3_countIn_13 rfl (lv_at hl 0 rfl) ?_
      refine va_get (D := D) (ci := 3) (v := .ref (σ + 31)) (C := RX3) (T := TX3) (N := 14) hx hb hts inX3 hown hK.1 (SR.mk0 hR) 0 rfl rfl 2 (by decide) lk25 (fun _ h9 => h9) rfl dX3_countIn_14 ?_
      refine va_alen (v := 40) hx hb hK.1 (SR.mk1 hR (c := 31) (by decide) (bS_25 (by decide))) 0 5 rfl rfl rfl dX3_countIn_17 ?_
      refine lv_icmp_ge (tgt := 43) hx hb dX3_countIn_18 (by decide) (fun c_3 => ?_) (fun c_3 => ?_)
      · have ge_4 : 40 ≤ k_3 := g_ge2 (Nat.lt_of_le_of_lt hb_3 (by decide)) (by decide) c_3
        refine gm_q (Q2 := MQ below (gQi (K x_2 k_3) (fun _ => True) gNo) args s 0 0 gNo) (by simp only [lf_X3_countIn_4, ↓if_neg c_1, ↓if_pos c_3]) ?_
        exact hexit x_2 k_3 hb_3  _ _ _ hR hS (lv_sub hl [0, 1, 2, 3] rfl)
      · have lt_5 : k_3 < 40 := g_lt (Nat.lt_of_le_of_lt hb_3 (by decide)) (by decide) c_3
        refine lv_aload_n hx hb dX3_countIn_21 rfl (lv_at hl 0 rfl) ?_
        refine va_get (D := D) (ci := 3) (v := .ref (σ + 31)) (C := RX3) (T := TX3) (N := 14) hx hb hts inX3 hown hK.1 (SR.mk0 hR) 0 rfl rfl 2 (by decide) lk25 (fun _ h9 => h9) rfl dX3_countIn_22 ?_
        refine lv_iload_n hx hb dX3_countIn_25 rfl (lv_at hl 3 rfl) ?_
        refine gm_aald (b := (σ + (35 + 2 * k_3))) hx hb hK.1 (SR.mk1 hR (c := 31) (by decide) (bS_25 (by decide))) 5 rfl (vp_in_nI lt_5 (by decide)) (by rw [nI_clamp (n := k_3) (by omega)]) dX3_countIn_26 ?_
        refine va_get (D := D) (ci := 5) (v := .int (X (35 + 2 * k_3) 4)) (C := RX5) (T := TX5) (N := 14) hx hb hts inX5 hown hK.1 (SR.mk1 hR (c := 35 + 2 * k_3) (kd_T k_3 lt_5).1 (bS_5 (kd_T k_3 lt_5).2.1)) 0 rfl rfl 4 (by decide) lk112 (fun _ h9 => h9) rfl dX3_countIn_27 ?_
        refine lv_iload_n hx hb dX3_countIn_30 rfl (lv_at hl 1 rfl) ?_
        refine lv_icmp_ne (tgt := 37) hx hb dX3_countIn_31 (by decide) (fun c_6 => ?_) (fun c_6 => ?_)
        · refine lv_iinc (v := nI (k_3 + 1)) (lv' := [(3, .int (nI (k_3 + 1))), (0, .ref σ), (1, .int a1), (2, .int x_2)]) hx hb dX3_countIn_37 hl (k := 3) rfl (nI_1 _) (by decide) rfl (fun ls hl => ?_)
          refine lv_goto (tgt := 4) hx hb dX3_countIn_40 (by decide) ?_
          refine gm_q (Q2 := MQ below (gQi (lf_X3_countIn_4 X a1 K n x_2 (k_3 + 1)) (fun _ => True) gNo) args s 0 0 gNo) (by simp only [lf_X3_countIn_4, ↓if_neg c_1, ↓if_neg c_3, ↓if_neg c_6]) ?_
          exact ih x_2 (k_3 + 1) lt_5 (by omega) _ _ _ hR hS (lv_sub hl [1, 2, 3, 0] rfl)
        · refine lv_iinc (v := x_2 + 1) (lv' := [(2, .int (x_2 + 1)), (0, .ref σ), (1, .int a1), (3, .int (nI k_3))]) hx hb dX3_countIn_34 hl (k := 2) rfl rfl (by decide) rfl (fun ls hl => ?_)
          refine lv_iinc (v := nI (k_3 + 1)) (lv' := [(3, .int (nI (k_3 + 1))), (2, .int (x_2 + 1)), (0, .ref σ), (1, .int a1)]) hx hb dX3_countIn_37 hl (k := 3) rfl (nI_1 _) (by decide) rfl (fun ls hl => ?_)
          refine lv_goto (tgt := 4) hx hb dX3_countIn_40 (by decide) ?_
          refine gm_q (Q2 := MQ below (gQi (lf_X3_countIn_4 X a1 K n (x_2 + 1) (k_3 + 1)) (fun _ => True) gNo) args s 0 0 gNo) (by simp only [lf_X3_countIn_4, ↓if_neg c_1, ↓if_neg c_3, ↓if_pos c_6]) ?_
          exact ih (x_2 + 1) (k_3 + 1) lt_5 (by omega) _ _ _ hR hS (lv_sub hl [2, 3, 1, 0] rfl)
set_option maxHeartbeats 4000000 in
set_option maxRecDepth 100000 in
theorem c_X3_countIn (l : Launch) (D : va_G) (cy : Nat → ClassId) (σ : Nat) (X : gM) (a1 : Int32)  : Met l yX3_countIn wsX3_countIn ({ frames := 0, cells := 0, slots := 0, locals := 0 }) (gP [.ref σ, .int a1] D cy (SR D cy σ X)) (gQi (f_X3_countIn X a1) (fun _ => True) gNo) 0 0 gNo := by
  refine gm_met (cc := cX3_countIn) (maxL := 4) (ret := (some .int)) [.ref σ, .int a1] (by decide) rfl (Nat.le_of_ble_eq_true rfl) ?_
  intro p e s m args below meth c0 ls C hR hl
  obtain ⟨hx, hb, hr, hts, hown, hlocks, hml, hK⟩ := C
  have hl : lv_has ls 4 [(0, .ref σ), (1, .int a1)] := hl
  have hS : va_S gNo s.heap s.heap [] := va_S.rf
  refine lv_iconst (v := 0) hx hb dX3_countIn_0 (by decide) ?_
  refine lv_istore_n (lv' := [(2, .int 0), (0, .ref σ), (1, .int a1)]) hx hb dX3_countIn_1 rfl hl (by decide) rfl (fun ls hl => ?_)
  refine lv_iconst (v := 0) hx hb dX3_countIn_2 (by decide) ?_
  refine lv_istore_n (lv' := [(3, .int 0), (2, .int 0), (0, .ref σ), (1, .int a1)]) hx hb dX3_countIn_3 rfl hl (by decide) rfl (fun ls hl => ?_)
  refine gm_q (Q2 := MQ below (gQi (lf_X3_countIn_4 X a1 (fun x_2w1 k_3w1 =>
        x_2w1) 41 0 0) (fun _ => True) gNo) args s 0 0 gNo) (by simp only [f_X3_countIn]) ?_
  refine lp_X3_countIn_4 ⟨hx, hb, hr, hts, hown, hlocks, hml, hK⟩ σ X a1  _ (fun x_2w1 k_3w1 hbk_3w1 H locs ls hR hS hl => ?_) 41 0 0 (by decide) (by omega) _ _ _ hR hS (lv_sub hl [2, 3, 1, 0] rfl)
  refine lv_iload_n hx hb dX3_countIn_43 rfl (lv_at hl 2 rfl) ?_
  exact gm_iret hx hb hr hlocks hS (by (try simp only [f_X3_countIn]); (try rfl)) trivial dX3_countIn_44
def lf_X3_queueLength_4 (X : gM) (a1 : Int32) (K : (Int32) → (Nat) → (Int32)) : Nat → (Int32) → (Nat) → (Int32)
  | 0, x_2, k_3 => K x_2 k_3
  | n + 1, x_2, k_3 =>
    if X 0 5 ≤ nI k_3 then
      K x_2 k_3
    else
      if 40 ≤ nI k_3 then
        K x_2 k_3
      else
        if f_X5_queue X (35 + 2 * k_3) = a1 then
          lf_X3_queueLength_4 X a1 K n (x_2 + 1) (k_3 + 1)
        else
          lf_X3_queueLength_4 X a1 K n x_2 (k_3 + 1)
def f_X3_queueLength (X : gM) (a1 : Int32) : Int32 :=
  lf_X3_queueLength_4 X a1 (fun x_2w1 k_3w1 =>
        x_2w1) 41 0 0
set_option maxHeartbeats 4000000 in
set_option maxRecDepth 100000 in
theorem lp_X3_queueLength_4 {p : Program} {l : Launch} {e : Env} {s : State} {m : MethodId} {args : Array Value} {below : List Frame} {meth : Method} {c0 : Code} {D : va_G} {cy : Nat → ClassId} (C : gCtx cX3_queueLength 4 (some .int) RX3 wsX3_queueLength D cy p s m args meth c0) (σ : Nat) (X : gM) (a1 : Int32) 
    (K : (Int32) → (Nat) → (Int32)) (hexit : ∀ (x_2 : Int32) (k_3 : Nat), k_3 ≤ 40 → ∀ (H : Heap) (locs : List Loc) (ls : Array Slot), SR D cy σ X H → va_S gNo s.heap H locs → lv_has ls 4 [(0, .ref σ), (1, .int a1), (2, .int x_2), (3, .int (nI k_3))] → W p l e { frames := 1, cells := 0, slots := 0, locals := 20 } s m args below meth c0 H locs 0 0 (MQ below (gQi (K x_2 k_3) (fun _ => True) gNo) args s 0 0 gNo) (F0 m 43 ls [])) :
    ∀ (n : Nat) (x_2 : Int32) (k_3 : Nat), k_3 ≤ 40 → 40 < k_3 + n → ∀ (H : Heap) (locs : List Loc) (ls : Array Slot), SR D cy σ X H → va_S gNo s.heap H locs → lv_has ls 4 [(0, .ref σ), (1, .int a1), (2, .int x_2), (3, .int (nI k_3))] → W p l e { frames := 1, cells := 0, slots := 0, locals := 20 } s m args below meth c0 H locs 0 0 (MQ below (gQi (lf_X3_queueLength_4 X a1 K n x_2 k_3) (fun _ => True) gNo) args s 0 0 gNo) (F0 m 4 ls []) := by
  obtain ⟨hx, hb, hr, hts, hown, hlocks, hml, hK⟩ := C
  have lk64 := hts (.fieldLink RX3 64 "MercuryLine$State" "ticketCount" "I") (by decide +kernel)
  have inX3 : ∀ w ∈ u_ws RX3 TX3 14, w ∈ wsX3_queueLength := by decide +kernel
  have lk25 := hts (.fieldLink RX3 25 "MercuryLine$State" "tickets" "[LMercuryLine$Ticket;") (by decide +kernel)
  intro n
  induction n with
  | zero =>
    intro x_2 k_3 hb_3 hme
    exact absurd hme (by omega)
  | succ n ih =>
    intro x_2 k_3 hb_3 hme H locs ls hR hS hl
    refine lv_iload_n hx hb dX3_queueLength_4 rfl (lv_at hl 3 rfl) ?_
    refine lv_aload_n hx hb dX3_queueLength_5 rfl (lv_at hl 0 rfl) ?_
    refine va_get (D := D) (ci := 3) (v := .int (X 0 5)) (C := RX3) (T := TX3) (N := 14) hx hb hts inX3 hown hK.1 (SR.mk0 hR) 0 rfl rfl 5 (by decide) lk64 (fun _ h9 => h9) rfl dX3_queueLength_6 ?_
    refine lv_icmp_ge (tgt := 43) hx hb dX3_queueLength_9 (by decide) (fun c_1 => ?_) (fun c_1 => ?_)
    · refine gm_q (Q2 := MQ below (gQi (K x_2 k_3) (fun _ => True) gNo) args s 0 0 gNo) (by simp only [lf_X3_queueLength_4, ↓if_pos c_1]) ?_
      exact hexit x_2 k_3 hb_3  _ _ _ hR hS (lv_sub hl [0, 1, 2, 3] rfl)
    · have lt_2 : k_3 < 2147483647 := g_big (Nat.lt_of_le_of_lt hb_3 (by decide)) c_1
      refine lv_iload_n hx hb dX3_queueLength_12 rfl (lv_at hl 3 rfl) ?_
      refine lv_aload_n hx hb dX3_queueLength_13 rfl (lv_at hl 0 rfl) ?_
      refine va_get (D := D) (ci := 3) (v := .ref (σ + 31)) (C := RX3) (T := TX3) (N := 14) hx hb hts inX3 hown hK.1 (SR.mk0 hR) 0 rfl rfl 2 (by decide) lk25 (fun _ h9 => h9) rfl dX3_queueLength_14 ?_
      refine va_alen (v := 40) hx hb hK.1 (SR.mk1 hR (c := 31) (by decide) (bS_25 (by decide))) 0 5 rfl rfl rfl dX3_queueLength_17 ?_
      refine lv_icmp_ge (tgt := 43) hx hb dX3_queueLength_18 (by decide) (fun c_3 => ?_) (fun c_3 => ?_)
      · have ge_4 : 40 ≤ k_3 := g_ge2 (Nat.lt_of_le_of_lt hb_3 (by decide)) (by decide) c_3
        refine gm_q (Q2 := MQ below (gQi (K x_2 k_3) (fun _ => True) gNo) args s 0 0 gNo) (by simp only [lf_X3_queueLength_4, ↓if_neg c_1, ↓if_pos c_3]) ?_
        exact hexit x_2 k_3 hb_3  _ _ _ hR hS (lv_sub hl [0, 1, 2, 3] rfl)
      · have lt_5 : k_3 < 40 := g_lt (Nat.lt_of_le_of_lt hb_3 (by decide)) (by decide) c_3
        refine lv_aload_n hx hb dX3_queueLength_21 rfl (lv_at hl 0 rfl) ?_
        refine va_get (D := D) (ci := 3) (v := .ref (σ + 31)) (C := RX3) (T := TX3) (N := 14) hx hb hts inX3 hown hK.1 (SR.mk0 hR) 0 rfl rfl 2 (by decide) lk25 (fun _ h9 => h9) rfl dX3_queueLength_22 ?_
        refine lv_iload_n hx hb dX3_queueLength_25 rfl (lv_at hl 3 rfl) ?_
        refine gm_aald (b := (σ + (35 + 2 * k_3))) hx hb hK.1 (SR.mk1 hR (c := 31) (by decide) (bS_25 (by decide))) 5 rfl (vp_in_nI lt_5 (by decide)) (by rw [nI_clamp (n := k_3) (by omega)]) dX3_queueLength_26 ?_
        refine gm_ci (gm_call (As := []) (rest := []) (ci := 5) (q := (RX5, TX5, 14)) ⟨hx, hb, hml, hown, hts⟩ hK (c_X5_queue l D cy σ X (35 + 2 * k_3) (kd_T k_3 lt_5).1 (kd_T k_3 lt_5).2.1) (cwV 0 hts gX3_queueLength_X5_queue rfl rfl rfl (by decide +kernel) ⟨Nat.le_of_ble_eq_true rfl, Nat.le_of_ble_eq_true rfl⟩) (SR.mk1 hR (c := 35 + 2 * k_3) (kd_T k_3 lt_5).1 (bS_5 (kd_T k_3 lt_5).2.1)) rfl hR rfl hl.1 rfl (Nat.le_of_ble_eq_true rfl) dX3_queueLength_27 (Nat.zero_le _) (Nat.zero_le _)) hS (fun _ h => h.elim) (fun H locs _ _ hfr hS => ?_)
        have hR := gRep.keep hR hfr (fun _ _ h => h)
        refine lv_iload_n hx hb dX3_queueLength_30 rfl (lv_at hl 1 rfl) ?_
        refine lv_icmp_ne (tgt := 37) hx hb dX3_queueLength_31 (by decide) (fun c_6 => ?_) (fun c_6 => ?_)
        · refine lv_iinc (v := nI (k_3 + 1)) (lv' := [(3, .int (nI (k_3 + 1))), (0, .ref σ), (1, .int a1), (2, .int x_2)]) hx hb dX3_queueLength_37 hl (k := 3) rfl (nI_1 _) (by decide) rfl (fun ls hl => ?_)
          refine lv_goto (tgt := 4) hx hb dX3_queueLength_40 (by decide) ?_
          refine gm_q (Q2 := MQ below (gQi (lf_X3_queueLength_4 X a1 K n x_2 (k_3 + 1)) (fun _ => True) gNo) args s 0 0 gNo) (by simp only [lf_X3_queueLength_4, ↓if_neg c_1, ↓if_neg c_3, ↓if_neg c_6]) ?_
          exact ih x_2 (k_3 + 1) lt_5 (by omega) _ _ _ hR hS (lv_sub hl [1, 2, 3, 0] rfl)
        · refine lv_iinc (v := x_2 + 1) (lv' := [(2, .int (x_2 + 1)), (0, .ref σ), (1, .int a1), (3, .int (nI k_3))]) hx hb dX3_queueLength_34 hl (k := 2) rfl rfl (by decide) rfl (fun ls hl => ?_)
          refine lv_iinc (v := nI (k_3 + 1)) (lv' := [(3, .int (nI (k_3 + 1))), (2, .int (x_2 + 1)), (0, .ref σ), (1, .int a1)]) hx hb dX3_queueLength_37 hl (k := 3) rfl (nI_1 _) (by decide) rfl (fun ls hl => ?_)
          refine lv_goto (tgt := 4) hx hb dX3_queueLength_40 (by decide) ?_
          refine gm_q (Q2 := MQ below (gQi (lf_X3_queueLength_4 X a1 K n (x_2 + 1) (k_3 + 1)) (fun _ => True) gNo) args s 0 0 gNo) (by simp only [lf_X3_queueLength_4, ↓if_neg c_1, ↓if_neg c_3, ↓if_pos c_6]) ?_
          exact ih (x_2 + 1) (k_3 + 1) lt_5 (by omega) _ _ _ hR hS (lv_sub hl [2, 3, 1, 0] rfl)
set_option maxHeartbeats 4000000 in
set_option maxRecDepth 100000 in
theorem c_X3_queueLength (l : Launch) (D : va_G) (cy : Nat → ClassId) (σ : Nat) (X : gM) (a1 : Int32)  : Met l yX3_queueLength wsX3_queueLength ({ frames := 1, cells := 0, slots := 0, locals := 20 }) (gP [.ref σ, .int a1] D cy (SR D cy σ X)) (gQi (f_X3_queueLength X a1) (fun _ => True) gNo) 0 0 gNo := by
  refine gm_met (cc := cX3_queueLength) (maxL := 4) (ret := (some .int)) [.ref σ, .int a1] (by decide) rfl (Nat.le_of_ble_eq_true rfl) ?_
  intro p e s m args below meth c0 ls C hR hl
  obtain ⟨hx, hb, hr, hts, hown, hlocks, hml, hK⟩ := C
  have hl : lv_has ls 4 [(0, .ref σ), (1, .int a1)] := hl
  have hS : va_S gNo s.heap s.heap [] := va_S.rf
  refine lv_iconst (v := 0) hx hb dX3_queueLength_0 (by decide) ?_
  refine lv_istore_n (lv' := [(2, .int 0), (0, .ref σ), (1, .int a1)]) hx hb dX3_queueLength_1 rfl hl (by decide) rfl (fun ls hl => ?_)
  refine lv_iconst (v := 0) hx hb dX3_queueLength_2 (by decide) ?_
  refine lv_istore_n (lv' := [(3, .int 0), (2, .int 0), (0, .ref σ), (1, .int a1)]) hx hb dX3_queueLength_3 rfl hl (by decide) rfl (fun ls hl => ?_)
  refine gm_q (Q2 := MQ below (gQi (lf_X3_queueLength_4 X a1 (fun x_2w1 k_3w1 =>
        x_2w1) 41 0 0) (fun _ => True) gNo) args s 0 0 gNo) (by simp only [f_X3_queueLength]) ?_
  refine lp_X3_queueLength_4 ⟨hx, hb, hr, hts, hown, hlocks, hml, hK⟩ σ X a1  _ (fun x_2w1 k_3w1 hbk_3w1 H locs ls hR hS hl => ?_) 41 0 0 (by decide) (by omega) _ _ _ hR hS (lv_sub hl [2, 3, 1, 0] rfl)
  refine lv_iload_n hx hb dX3_queueLength_43 rfl (lv_at hl 2 rfl) ?_
  exact gm_iret hx hb hr hlocks hS (by (try simp only [f_X3_queueLength]); (try rfl)) trivial dX3_queueLength_44
def lf_X3_hallLength_4 (X : gM) (c1 : Nat) (K : (Int32) → (Nat) → (Int32)) : Nat → (Int32) → (Nat) → (Int32)
  | 0, x_2, k_3 => K x_2 k_3
  | n + 1, x_2, k_3 =>
    if X 0 5 ≤ nI k_3 then
      K x_2 k_3
    else
      if 40 ≤ nI k_3 then
        K x_2 k_3
      else
        if X (35 + 2 * k_3) 4 = 2 then
          if X (35 + 2 * k_3) 5 = nI (nLin c1) then
            lf_X3_hallLength_4 X c1 K n (x_2 + 1) (k_3 + 1)
          else
            lf_X3_hallLength_4 X c1 K n x_2 (k_3 + 1)
        else
          lf_X3_hallLength_4 X c1 K n x_2 (k_3 + 1)
def f_X3_hallLength (X : gM) (c1 : Nat) : Int32 :=
  lf_X3_hallLength_4 X c1 (fun x_2w1 k_3w1 =>
        x_2w1) 41 0 0
set_option maxHeartbeats 4000000 in
set_option maxRecDepth 100000 in
theorem lp_X3_hallLength_4 {p : Program} {l : Launch} {e : Env} {s : State} {m : MethodId} {args : Array Value} {below : List Frame} {meth : Method} {c0 : Code} {D : va_G} {cy : Nat → ClassId} (C : gCtx cX3_hallLength 4 (some .int) RX3 wsX3_hallLength D cy p s m args meth c0) (σ : Nat) (X : gM) (c1 : Nat) (hc1 : c1 < 123) (hk1 : kdS c1 = 0)
    (K : (Int32) → (Nat) → (Int32)) (hexit : ∀ (x_2 : Int32) (k_3 : Nat), k_3 ≤ 40 → ∀ (H : Heap) (locs : List Loc) (ls : Array Slot), SR D cy σ X H → va_S gNo s.heap H locs → lv_has ls 4 [(0, .ref σ), (1, .ref (σ + c1)), (2, .int x_2), (3, .int (nI k_3))] → W p l e { frames := 0, cells := 0, slots := 0, locals := 0 } s m args below meth c0 H locs 0 0 (MQ below (gQi (K x_2 k_3) (fun _ => True) gNo) args s 0 0 gNo) (F0 m 59 ls [])) :
    ∀ (n : Nat) (x_2 : Int32) (k_3 : Nat), k_3 ≤ 40 → 40 < k_3 + n → ∀ (H : Heap) (locs : List Loc) (ls : Array Slot), SR D cy σ X H → va_S gNo s.heap H locs → lv_has ls 4 [(0, .ref σ), (1, .ref (σ + c1)), (2, .int x_2), (3, .int (nI k_3))] → W p l e { frames := 0, cells := 0, slots := 0, locals := 0 } s m args below meth c0 H locs 0 0 (MQ below (gQi (lf_X3_hallLength_4 X c1 K n x_2 k_3) (fun _ => True) gNo) args s 0 0 gNo) (F0 m 4 ls []) := by
  obtain ⟨hx, hb, hr, hts, hown, hlocks, hml, hK⟩ := C
  have lk64 := hts (.fieldLink RX3 64 "MercuryLine$State" "ticketCount" "I") (by decide +kernel)
  have inX3 : ∀ w ∈ u_ws RX3 TX3 14, w ∈ wsX3_hallLength := by decide +kernel
  have lk25 := hts (.fieldLink RX3 25 "MercuryLine$State" "tickets" "[LMercuryLine$Ticket;") (by decide +kernel)
  have lk112 := hts (.fieldLink RX3 112 "MercuryLine$Ticket" "state" "I") (by decide +kernel)
  have inX5 : ∀ w ∈ u_ws RX5 TX5 14, w ∈ wsX3_hallLength := by decide +kernel
  have lk119 := hts (.fieldLink RX3 119 "MercuryLine$Ticket" "line" "I") (by decide +kernel)
  have lk122 := hts (.fieldLink RX3 122 "MercuryLine$Line" "number" "I") (by decide +kernel)
  have inX0 : ∀ w ∈ u_ws RX0 TX0 10, w ∈ wsX3_hallLength := by decide +kernel
  intro n
  induction n with
  | zero =>
    intro x_2 k_3 hb_3 hme
    exact absurd hme (by omega)
  | succ n ih =>
    intro x_2 k_3 hb_3 hme H locs ls hR hS hl
    refine lv_iload_n hx hb dX3_hallLength_4 rfl (lv_at hl 3 rfl) ?_
    refine lv_aload_n hx hb dX3_hallLength_5 rfl (lv_at hl 0 rfl) ?_
    refine va_get (D := D) (ci := 3) (v := .int (X 0 5)) (C := RX3) (T := TX3) (N := 14) hx hb hts inX3 hown hK.1 (SR.mk0 hR) 0 rfl rfl 5 (by decide) lk64 (fun _ h9 => h9) rfl dX3_hallLength_6 ?_
    refine lv_icmp_ge (tgt := 59) hx hb dX3_hallLength_9 (by decide) (fun c_1 => ?_) (fun c_1 => ?_)
    · refine gm_q (Q2 := MQ below (gQi (K x_2 k_3) (fun _ => True) gNo) args s 0 0 gNo) (by simp only [lf_X3_hallLength_4, ↓if_pos c_1]) ?_
      exact hexit x_2 k_3 hb_3  _ _ _ hR hS (lv_sub hl [0, 1, 2, 3] rfl)
    · have lt_2 : k_3 < 2147483647 := g_big (Nat.lt_of_le_of_lt hb_3 (by decide)) c_1
      refine lv_iload_n hx hb dX3_hallLength_12 rfl (lv_at hl 3 rfl) ?_
      refine lv_aload_n hx hb dX3_hallLength_13 rfl (lv_at hl 0 rfl) ?_
      refine va_get (D := D) (ci := 3) (v := .ref (σ + 31)) (C := RX3) (T := TX3) (N := 14) hx hb hts inX3 hown hK.1 (SR.mk0 hR) 0 rfl rfl 2 (by decide) lk25 (fun _ h9 => h9) rfl dX3_hallLength_14 ?_
      refine va_alen (v := 40) hx hb hK.1 (SR.mk1 hR (c := 31) (by decide) (bS_25 (by decide))) 0 5 rfl rfl rfl dX3_hallLength_17 ?_
      refine lv_icmp_ge (tgt := 59) hx hb dX3_hallLength_18 (by decide) (fun c_3 => ?_) (fun c_3 => ?_)
      · have ge_4 : 40 ≤ k_3 := g_ge2 (Nat.lt_of_le_of_lt hb_3 (by decide)) (by decide) c_3
        refine gm_q (Q2 := MQ below (gQi (K x_2 k_3) (fun _ => True) gNo) args s 0 0 gNo) (by simp only [lf_X3_hallLength_4, ↓if_neg c_1, ↓if_pos c_3]) ?_
        exact hexit x_2 k_3 hb_3  _ _ _ hR hS (lv_sub hl [0, 1, 2, 3] rfl)
      · have lt_5 : k_3 < 40 := g_lt (Nat.lt_of_le_of_lt hb_3 (by decide)) (by decide) c_3
        refine lv_aload_n hx hb dX3_hallLength_21 rfl (lv_at hl 0 rfl) ?_
        refine va_get (D := D) (ci := 3) (v := .ref (σ + 31)) (C := RX3) (T := TX3) (N := 14) hx hb hts inX3 hown hK.1 (SR.mk0 hR) 0 rfl rfl 2 (by decide) lk25 (fun _ h9 => h9) rfl dX3_hallLength_22 ?_
        refine lv_iload_n hx hb dX3_hallLength_25 rfl (lv_at hl 3 rfl) ?_
        refine gm_aald (b := (σ + (35 + 2 * k_3))) hx hb hK.1 (SR.mk1 hR (c := 31) (by decide) (bS_25 (by decide))) 5 rfl (vp_in_nI lt_5 (by decide)) (by rw [nI_clamp (n := k_3) (by omega)]) dX3_hallLength_26 ?_
        refine va_get (D := D) (ci := 5) (v := .int (X (35 + 2 * k_3) 4)) (C := RX5) (T := TX5) (N := 14) hx hb hts inX5 hown hK.1 (SR.mk1 hR (c := 35 + 2 * k_3) (kd_T k_3 lt_5).1 (bS_5 (kd_T k_3 lt_5).2.1)) 0 rfl rfl 4 (by decide) lk112 (fun _ h9 => h9) rfl dX3_hallLength_27 ?_
        refine lv_iconst (v := 2) hx hb dX3_hallLength_30 (by decide) ?_
        refine lv_icmp_ne (tgt := 53) hx hb dX3_hallLength_31 (by decide) (fun c_6 => ?_) (fun c_6 => ?_)
        · refine lv_iinc (v := nI (k_3 + 1)) (lv' := [(3, .int (nI (k_3 + 1))), (0, .ref σ), (1, .ref (σ + c1)), (2, .int x_2)]) hx hb dX3_hallLength_53 hl (k := 3) rfl (nI_1 _) (by decide) rfl (fun ls hl => ?_)
          refine lv_goto (tgt := 4) hx hb dX3_hallLength_56 (by decide) ?_
          refine gm_q (Q2 := MQ below (gQi (lf_X3_hallLength_4 X c1 K n x_2 (k_3 + 1)) (fun _ => True) gNo) args s 0 0 gNo) (by simp only [lf_X3_hallLength_4, ↓if_neg c_1, ↓if_neg c_3, ↓if_neg c_6]) ?_
          exact ih x_2 (k_3 + 1) lt_5 (by omega) _ _ _ hR hS (lv_sub hl [1, 2, 3, 0] rfl)
        · refine lv_aload_n hx hb dX3_hallLength_34 rfl (lv_at hl 0 rfl) ?_
          refine va_get (D := D) (ci := 3) (v := .ref (σ + 31)) (C := RX3) (T := TX3) (N := 14) hx hb hts inX3 hown hK.1 (SR.mk0 hR) 0 rfl rfl 2 (by decide) lk25 (fun _ h9 => h9) rfl dX3_hallLength_35 ?_
          refine lv_iload_n hx hb dX3_hallLength_38 rfl (lv_at hl 3 rfl) ?_
          refine gm_aald (b := (σ + (35 + 2 * k_3))) hx hb hK.1 (SR.mk1 hR (c := 31) (by decide) (bS_25 (by decide))) 5 rfl (vp_in_nI lt_5 (by decide)) (by rw [nI_clamp (n := k_3) (by omega)]) dX3_hallLength_39 ?_
          refine va_get (D := D) (ci := 5) (v := .int (X (35 + 2 * k_3) 5)) (C := RX5) (T := TX5) (N := 14) hx hb hts inX5 hown hK.1 (SR.mk1 hR (c := 35 + 2 * k_3) (kd_T k_3 lt_5).1 (bS_5 (kd_T k_3 lt_5).2.1)) 0 rfl rfl 5 (by decide) lk119 (fun _ h9 => h9) rfl dX3_hallLength_40 ?_
          refine lv_aload_n hx hb dX3_hallLength_43 rfl (lv_at hl 1 rfl) ?_
          refine va_get (D := D) (ci := 0) (v := .int (nI (nLin c1))) (C := RX0) (T := TX0) (N := 10) hx hb hts inX0 hown hK.1 (SR.mk1 hR (c := c1) hc1 (bS_0 hk1)) 0 rfl rfl 0 (by decide) lk122 (fun _ h9 => h9) rfl dX3_hallLength_44 ?_
          refine lv_icmp_ne (tgt := 53) hx hb dX3_hallLength_47 (by decide) (fun c_7 => ?_) (fun c_7 => ?_)
          · refine lv_iinc (v := nI (k_3 + 1)) (lv' := [(3, .int (nI (k_3 + 1))), (0, .ref σ), (1, .ref (σ + c1)), (2, .int x_2)]) hx hb dX3_hallLength_53 hl (k := 3) rfl (nI_1 _) (by decide) rfl (fun ls hl => ?_)
            refine lv_goto (tgt := 4) hx hb dX3_hallLength_56 (by decide) ?_
            refine gm_q (Q2 := MQ below (gQi (lf_X3_hallLength_4 X c1 K n x_2 (k_3 + 1)) (fun _ => True) gNo) args s 0 0 gNo) (by simp only [lf_X3_hallLength_4, ↓if_neg c_1, ↓if_neg c_3, ↓if_pos c_6, ↓if_neg c_7]) ?_
            exact ih x_2 (k_3 + 1) lt_5 (by omega) _ _ _ hR hS (lv_sub hl [1, 2, 3, 0] rfl)
          · refine lv_iinc (v := x_2 + 1) (lv' := [(2, .int (x_2 + 1)), (0, .ref σ), (1, .ref (σ + c1)), (3, .int (nI k_3))]) hx hb dX3_hallLength_50 hl (k := 2) rfl rfl (by decide) rfl (fun ls hl => ?_)
            refine lv_iinc (v := nI (k_3 + 1)) (lv' := [(3, .int (nI (k_3 + 1))), (2, .int (x_2 + 1)), (0, .ref σ), (1, .ref (σ + c1))]) hx hb dX3_hallLength_53 hl (k := 3) rfl (nI_1 _) (by decide) rfl (fun ls hl => ?_)
            refine lv_goto (tgt := 4) hx hb dX3_hallLength_56 (by decide) ?_
            refine gm_q (Q2 := MQ below (gQi (lf_X3_hallLength_4 X c1 K n (x_2 + 1) (k_3 + 1)) (fun _ => True) gNo) args s 0 0 gNo) (by simp only [lf_X3_hallLength_4, ↓if_neg c_1, ↓if_neg c_3, ↓if_pos c_6, ↓if_pos c_7]) ?_
            exact ih (x_2 + 1) (k_3 + 1) lt_5 (by omega) _ _ _ hR hS (lv_sub hl [2, 3, 1, 0] rfl)
set_option maxHeartbeats 4000000 in
set_option maxRecDepth 100000 in
theorem c_X3_hallLength (l : Launch) (D : va_G) (cy : Nat → ClassId) (σ : Nat) (X : gM) (c1 : Nat) (hc1 : c1 < 123) (hk1 : kdS c1 = 0) : Met l yX3_hallLength wsX3_hallLength ({ frames := 0, cells := 0, slots := 0, locals := 0 }) (gP [.ref σ, .ref (σ + c1)] D cy (SR D cy σ X)) (gQi (f_X3_hallLength X c1) (fun _ => True) gNo) 0 0 gNo := by
  refine gm_met (cc := cX3_hallLength) (maxL := 4) (ret := (some .int)) [.ref σ, .ref (σ + c1)] (by decide) rfl (Nat.le_of_ble_eq_true rfl) ?_
  intro p e s m args below meth c0 ls C hR hl
  obtain ⟨hx, hb, hr, hts, hown, hlocks, hml, hK⟩ := C
  have hl : lv_has ls 4 [(0, .ref σ), (1, .ref (σ + c1))] := hl
  have hS : va_S gNo s.heap s.heap [] := va_S.rf
  refine lv_iconst (v := 0) hx hb dX3_hallLength_0 (by decide) ?_
  refine lv_istore_n (lv' := [(2, .int 0), (0, .ref σ), (1, .ref (σ + c1))]) hx hb dX3_hallLength_1 rfl hl (by decide) rfl (fun ls hl => ?_)
  refine lv_iconst (v := 0) hx hb dX3_hallLength_2 (by decide) ?_
  refine lv_istore_n (lv' := [(3, .int 0), (2, .int 0), (0, .ref σ), (1, .ref (σ + c1))]) hx hb dX3_hallLength_3 rfl hl (by decide) rfl (fun ls hl => ?_)
  refine gm_q (Q2 := MQ below (gQi (lf_X3_hallLength_4 X c1 (fun x_2w1 k_3w1 =>
        x_2w1) 41 0 0) (fun _ => True) gNo) args s 0 0 gNo) (by simp only [f_X3_hallLength]) ?_
  refine lp_X3_hallLength_4 ⟨hx, hb, hr, hts, hown, hlocks, hml, hK⟩ σ X c1 hc1 hk1 _ (fun x_2w1 k_3w1 hbk_3w1 H locs ls hR hS hl => ?_) 41 0 0 (by decide) (by omega) _ _ _ hR hS (lv_sub hl [2, 3, 1, 0] rfl)
  refine lv_iload_n hx hb dX3_hallLength_59 rfl (lv_at hl 2 rfl) ?_
  exact gm_iret hx hb hr hlocks hS (by (try simp only [f_X3_hallLength]); (try rfl)) trivial dX3_hallLength_60
