def p_X8_book (X : gM) (a1 : Int32) (a2 : Int32) (a3 : Int32) (a4 : Int32) (a5 : Int32) : Int32 × gM :=
  let X1 := updM X 379 0 a1
  let X2 := updM X1 379 1 a2
  let X3 := updM X2 379 2 a3
  let X4 := updM X3 379 3 a4
  let X5 := updM X4 379 4 a5
  if f_X3_refusalOf (vw 0 X5) (X5 379) = 0 then
    if f_X3_hasTickets (vw 0 X5) 1 = 0 then
      ((-3), X5)
    else
      let X6 := p_X8_recordState X5
      let X7 := putS X6 0 ((p_X3_admit (vw 0 X6) (X6 379)).2)
      ((p_X3_admit (vw 0 X6) (X6 379)).1, X7)
  else
    (f_X3_refusalOf (vw 0 X5) (X5 379), X5)
set_option maxHeartbeats 4000000 in
set_option maxRecDepth 100000 in
theorem c_X8_book (l : Launch) (D : va_G) (cy : Nat → ClassId) (β : Nat) (X : gM) (a1 : Int32) (a2 : Int32) (a3 : Int32) (a4 : Int32) (a5 : Int32) (hh : HOK X) : Met l yX8_book wsX8_book ({ frames := 5, cells := 0, slots := 0, locals := 111 }) (gP [.ref β, .int a1, .int a2, .int a3, .int a4, .int a5] D cy (TR D cy β X)) (gQi (p_X8_book X a1 a2 a3 a4 a5).1 (TR D cy β (p_X8_book X a1 a2 a3 a4 a5).2) (TA β)) 0 0 (TA β) := by
  refine gm_met (cc := cX8_book) (maxL := 7) (ret := (some .int)) [.ref β, .int a1, .int a2, .int a3, .int a4, .int a5] (by decide) rfl (Nat.le_of_ble_eq_true rfl) ?_
  intro p e s m args below meth c0 ls C hR hl
  obtain ⟨hx, hb, hr, hts, hown, hlocks, hml, hK⟩ := C
  have hl : lv_has ls 7 [(0, .ref β), (1, .int a1), (2, .int a2), (3, .int a3), (4, .int a4), (5, .int a5)] := hl
  have hS : va_S (TA β) s.heap s.heap [] := va_S.rf
  have lk36 := hts (.fieldLink RX8 36 "MercuryLine" "asked" "LMercuryLine$Trip;") (by decide +kernel)
  have inX8 : ∀ w ∈ u_ws RX8 TX8 8, w ∈ wsX8_book := by decide +kernel
  have lk100 := hts (.fieldLink RX8 100 "MercuryLine$Trip" "value" "I") (by decide +kernel)
  have inX7 : ∀ w ∈ u_ws RX7 TX7 5, w ∈ wsX8_book := by decide +kernel
  have lk103 := hts (.fieldLink RX8 103 "MercuryLine$Trip" "kind" "I") (by decide +kernel)
  have lk106 := hts (.fieldLink RX8 106 "MercuryLine$Trip" "from" "I") (by decide +kernel)
  have lk109 := hts (.fieldLink RX8 109 "MercuryLine$Trip" "to" "I") (by decide +kernel)
  have lk112 := hts (.fieldLink RX8 112 "MercuryLine$Trip" "laps" "I") (by decide +kernel)
  have lk10 := hts (.fieldLink RX8 10 "MercuryLine" "now" "LMercuryLine$State;") (by decide +kernel)
  refine lv_aload_n hx hb dX8_book_0 rfl (lv_at hl 0 rfl) ?_
  refine va_get (D := D) (ci := 8) (v := .ref (β + 379)) (C := RX8) (T := TX8) (N := 8) hx hb hts inX8 hown hK.1 (TR.mk0 hR) 0 rfl rfl 5 (by decide) lk36 (fun _ h9 => h9) rfl dX8_book_1 ?_
  refine lv_iload_n hx hb dX8_book_4 rfl (lv_at hl 1 rfl) ?_
  refine gm_put (v := .int a1) (ty := .int) (ci := 7) (C := RX7) (T := TX7) (N := 5) hx hb hts inX7 tyX7 tyX7_ok nmX7 hown hK.1 hR injT hS (a := 379) (by decide) rfl (bT_a) rfl 0 (by decide) lk100 (fun _ h9 => h9) rfl (by decide +kernel) rfl rfl (Nat.le_of_ble_eq_true rfl) (j := 0) (x := a1) (by rw [bT_a]; rfl) dX8_book_5 (fun H locs hR hS => ?_)
  obtain ⟨X1, eX1⟩ : ∃ Y : gM, Y = updM X 379 0 a1 := ⟨_, rfl⟩
  rw [← eX1] at hR
  refine lv_aload_n hx hb dX8_book_8 rfl (lv_at hl 0 rfl) ?_
  refine va_get (D := D) (ci := 8) (v := .ref (β + 379)) (C := RX8) (T := TX8) (N := 8) hx hb hts inX8 hown hK.1 (TR.mk0 hR) 0 rfl rfl 5 (by decide) lk36 (fun _ h9 => h9) rfl dX8_book_9 ?_
  refine lv_iload_n hx hb dX8_book_12 rfl (lv_at hl 2 rfl) ?_
  refine gm_put (v := .int a2) (ty := .int) (ci := 7) (C := RX7) (T := TX7) (N := 5) hx hb hts inX7 tyX7 tyX7_ok nmX7 hown hK.1 hR injT hS (a := 379) (by decide) rfl (bT_a) rfl 1 (by decide) lk103 (fun _ h9 => h9) rfl (by decide +kernel) rfl rfl (Nat.le_of_ble_eq_true rfl) (j := 1) (x := a2) (by rw [bT_a]; rfl) dX8_book_13 (fun H locs hR hS => ?_)
  obtain ⟨X2, eX2⟩ : ∃ Y : gM, Y = updM X1 379 1 a2 := ⟨_, rfl⟩
  rw [← eX2] at hR
  refine lv_aload_n hx hb dX8_book_16 rfl (lv_at hl 0 rfl) ?_
  refine va_get (D := D) (ci := 8) (v := .ref (β + 379)) (C := RX8) (T := TX8) (N := 8) hx hb hts inX8 hown hK.1 (TR.mk0 hR) 0 rfl rfl 5 (by decide) lk36 (fun _ h9 => h9) rfl dX8_book_17 ?_
  refine lv_iload_n hx hb dX8_book_20 rfl (lv_at hl 3 rfl) ?_
  refine gm_put (v := .int a3) (ty := .int) (ci := 7) (C := RX7) (T := TX7) (N := 5) hx hb hts inX7 tyX7 tyX7_ok nmX7 hown hK.1 hR injT hS (a := 379) (by decide) rfl (bT_a) rfl 2 (by decide) lk106 (fun _ h9 => h9) rfl (by decide +kernel) rfl rfl (Nat.le_of_ble_eq_true rfl) (j := 2) (x := a3) (by rw [bT_a]; rfl) dX8_book_21 (fun H locs hR hS => ?_)
  obtain ⟨X3, eX3⟩ : ∃ Y : gM, Y = updM X2 379 2 a3 := ⟨_, rfl⟩
  rw [← eX3] at hR
  refine lv_aload_n hx hb dX8_book_24 rfl (lv_at hl 0 rfl) ?_
  refine va_get (D := D) (ci := 8) (v := .ref (β + 379)) (C := RX8) (T := TX8) (N := 8) hx hb hts inX8 hown hK.1 (TR.mk0 hR) 0 rfl rfl 5 (by decide) lk36 (fun _ h9 => h9) rfl dX8_book_25 ?_
  refine lv_iload hx hb dX8_book_28 (lv_at hl 4 rfl) ?_
  refine gm_put (v := .int a4) (ty := .int) (ci := 7) (C := RX7) (T := TX7) (N := 5) hx hb hts inX7 tyX7 tyX7_ok nmX7 hown hK.1 hR injT hS (a := 379) (by decide) rfl (bT_a) rfl 3 (by decide) lk109 (fun _ h9 => h9) rfl (by decide +kernel) rfl rfl (Nat.le_of_ble_eq_true rfl) (j := 3) (x := a4) (by rw [bT_a]; rfl) dX8_book_30 (fun H locs hR hS => ?_)
  obtain ⟨X4, eX4⟩ : ∃ Y : gM, Y = updM X3 379 3 a4 := ⟨_, rfl⟩
  rw [← eX4] at hR
  refine lv_aload_n hx hb dX8_book_33 rfl (lv_at hl 0 rfl) ?_
  refine va_get (D := D) (ci := 8) (v := .ref (β + 379)) (C := RX8) (T := TX8) (N := 8) hx hb hts inX8 hown hK.1 (TR.mk0 hR) 0 rfl rfl 5 (by decide) lk36 (fun _ h9 => h9) rfl dX8_book_34 ?_
  refine lv_iload hx hb dX8_book_37 (lv_at hl 5 rfl) ?_
  refine gm_put (v := .int a5) (ty := .int) (ci := 7) (C := RX7) (T := TX7) (N := 5) hx hb hts inX7 tyX7 tyX7_ok nmX7 hown hK.1 hR injT hS (a := 379) (by decide) rfl (bT_a) rfl 4 (by decide) lk112 (fun _ h9 => h9) rfl (by decide +kernel) rfl rfl (Nat.le_of_ble_eq_true rfl) (j := 4) (x := a5) (by rw [bT_a]; rfl) dX8_book_39 (fun H locs hR hS => ?_)
  obtain ⟨X5, eX5⟩ : ∃ Y : gM, Y = updM X4 379 4 a5 := ⟨_, rfl⟩
  rw [← eX5] at hR
  refine lv_aload_n hx hb dX8_book_42 rfl (lv_at hl 0 rfl) ?_
  refine va_get (D := D) (ci := 8) (v := .ref (β + off 0)) (C := RX8) (T := TX8) (N := 8) hx hb hts inX8 hown hK.1 (TR.mk0 hR) 0 rfl rfl 0 (by decide) lk10 (fun _ h9 => h9) rfl dX8_book_43 ?_
  refine lv_aload_n hx hb dX8_book_46 rfl (lv_at hl 0 rfl) ?_
  refine va_get (D := D) (ci := 8) (v := .ref (β + 379)) (C := RX8) (T := TX8) (N := 8) hx hb hts inX8 hown hK.1 (TR.mk0 hR) 0 rfl rfl 5 (by decide) lk36 (fun _ h9 => h9) rfl dX8_book_47 ?_
  refine gm_ci (gm_call (As := [.ref (β + 379)]) (rest := []) (ci := 3) (q := (RX3, TX3, 14)) ⟨hx, hb, hml, hown, hts⟩ hK (c_X3_refusalOf l D cy (β + off 0) (vw 0 X5) (β + 379) (X5 379)) (cwV 1 hts gX8_book_X3_refusalOf rfl rfl rfl (by decide +kernel) ⟨Nat.le_of_ble_eq_true rfl, Nat.le_of_ble_eq_true rfl⟩) (SR.mk0 (TR.st hR (by decide))) rfl ⟨(TR.st hR (by decide)), TR.srcA hR _⟩ rfl hl.1 rfl (Nat.le_of_ble_eq_true rfl) dX8_book_50 (Nat.zero_le _) (Nat.zero_le _)) hS (fun _ h => h.elim) (fun H locs _ _ hfr hS => ?_)
  have hR := gRep.keep hR hfr (fun _ _ h => h)
  refine lv_istore (lv' := [(6, .int (f_X3_refusalOf (vw 0 X5) (X5 379))), (0, .ref β), (1, .int a1), (2, .int a2), (3, .int a3), (4, .int a4), (5, .int a5)]) hx hb dX8_book_53 hl (by decide) rfl (fun ls hl => ?_)
  refine lv_iload hx hb dX8_book_55 (lv_at hl 0 rfl) ?_
  refine lv_if_eq (tgt := 63) hx hb dX8_book_57 (by decide) (fun c_1 => ?_) (fun c_1 => ?_)
  · refine lv_aload_n hx hb dX8_book_63 rfl (lv_at hl 1 rfl) ?_
    refine va_get (D := D) (ci := 8) (v := .ref (β + off 0)) (C := RX8) (T := TX8) (N := 8) hx hb hts inX8 hown hK.1 (TR.mk0 hR) 0 rfl rfl 0 (by decide) lk10 (fun _ h9 => h9) rfl dX8_book_64 ?_
    refine lv_iconst (v := 1) hx hb dX8_book_67 (by decide) ?_
    refine gm_ci (gm_call (As := [.int 1]) (rest := []) (ci := 3) (q := (RX3, TX3, 14)) ⟨hx, hb, hml, hown, hts⟩ hK (c_X3_hasTickets l D cy (β + off 0) (vw 0 X5) 1) (cwV 1 hts gX8_book_X3_hasTickets rfl rfl rfl (by decide +kernel) ⟨Nat.le_of_ble_eq_true rfl, Nat.le_of_ble_eq_true rfl⟩) (SR.mk0 (TR.st hR (by decide))) rfl (TR.st hR (by decide)) rfl hl.1 rfl (Nat.le_of_ble_eq_true rfl) dX8_book_68 (Nat.zero_le _) (Nat.zero_le _)) hS (fun _ h => h.elim) (fun H locs _ _ hfr hS => ?_)
    have hR := gRep.keep hR hfr (fun _ _ h => h)
    refine lv_if_eq (tgt := 90) hx hb dX8_book_71 (by decide) (fun c_2 => ?_) (fun c_2 => ?_)
    · refine lv_bipush (v := (-3)) hx hb dX8_book_90 (by decide) ?_
      exact gm_iret hx hb hr hlocks hS (by (try simp only [p_X8_book, ↓if_pos c_1, ↓if_pos c_2, ← eX1, ← eX2, ← eX3, ← eX4, ← eX5]); (try rfl)) (by (try simp only [p_X8_book, ↓if_pos c_1, ↓if_pos c_2, ← eX1, ← eX2, ← eX3, ← eX4, ← eX5]); exact hR) dX8_book_92
    · refine lv_aload_n hx hb dX8_book_74 rfl (lv_at hl 1 rfl) ?_
      refine gm_cv (gm_call (As := []) (rest := []) (ci := 8) (q := (RX8, TX8, 8)) ⟨hx, hb, hml, hown, hts⟩ hK (c_X8_recordState l D cy β X5 (HOK_row hh (by simp [eX5, eX4, eX3, eX2, eX1, updM, putX]))) (cwV 0 hts gX8_book_X8_recordState rfl rfl rfl (by decide +kernel) ⟨Nat.le_of_ble_eq_true rfl, Nat.le_of_ble_eq_true rfl⟩) (TR.mk0 hR) rfl hR rfl hl.1 rfl (Nat.le_of_ble_eq_true rfl) dX8_book_75 (Nat.zero_le _) (Nat.zero_le _)) hS (fun _ h => h) (fun H locs hR _ _ hS => ?_)
      obtain ⟨X6, eX6⟩ : ∃ Y : gM, Y = p_X8_recordState X5 := ⟨_, rfl⟩
      rw [← eX6] at hR
      refine lv_aload_n hx hb dX8_book_78 rfl (lv_at hl 1 rfl) ?_
      refine va_get (D := D) (ci := 8) (v := .ref (β + off 0)) (C := RX8) (T := TX8) (N := 8) hx hb hts inX8 hown hK.1 (TR.mk0 hR) 0 rfl rfl 0 (by decide) lk10 (fun _ h9 => h9) rfl dX8_book_79 ?_
      refine lv_aload_n hx hb dX8_book_82 rfl (lv_at hl 1 rfl) ?_
      refine va_get (D := D) (ci := 8) (v := .ref (β + 379)) (C := RX8) (T := TX8) (N := 8) hx hb hts inX8 hown hK.1 (TR.mk0 hR) 0 rfl rfl 5 (by decide) lk36 (fun _ h9 => h9) rfl dX8_book_83 ?_
      refine gm_ci (gm_call (As := [.ref (β + 379)]) (rest := []) (ci := 3) (q := (RX3, TX3, 14)) ⟨hx, hb, hml, hown, hts⟩ hK (c_X3_admit l D cy (β + off 0) (vw 0 X6) (β + 379) (X6 379) (fun n hn => by simp only [show off 0 = 1 from rfl]; omega)) (cwV 1 hts gX8_book_X3_admit rfl rfl rfl (by decide +kernel) ⟨Nat.le_of_ble_eq_true rfl, Nat.le_of_ble_eq_true rfl⟩) (SR.mk0 (TR.st hR (by decide))) rfl ⟨(TR.st hR (by decide)), TR.srcA hR _⟩ rfl hl.1 rfl (Nat.le_of_ble_eq_true rfl) dX8_book_86 (Nat.zero_le _) (Nat.zero_le _)) hS (TA_S (by decide)) (fun H locs hRR _ hfr hS => ?_)
      have hR := TR.mrgS hR (by decide) hRR hfr
      obtain ⟨X7, eX7⟩ : ∃ Y : gM, Y = putS X6 0 ((p_X3_admit (vw 0 X6) (X6 379)).2) := ⟨_, rfl⟩
      rw [← eX7] at hR
      exact gm_iret hx hb hr hlocks hS (by (try simp only [p_X8_book, ↓if_pos c_1, ↓if_neg c_2, ← eX1, ← eX2, ← eX3, ← eX4, ← eX5, ← eX6, ← eX7]); (try rfl)) (by (try simp only [p_X8_book, ↓if_pos c_1, ↓if_neg c_2, ← eX1, ← eX2, ← eX3, ← eX4, ← eX5, ← eX6, ← eX7]); exact hR) dX8_book_89
  · refine lv_iload hx hb dX8_book_60 (lv_at hl 0 rfl) ?_
    exact gm_iret hx hb hr hlocks hS (by (try simp only [p_X8_book, ↓if_neg c_1, ← eX1, ← eX2, ← eX3, ← eX4, ← eX5]); (try rfl)) (by (try simp only [p_X8_book, ↓if_neg c_1, ← eX1, ← eX2, ← eX3, ← eX4, ← eX5]); exact hR) dX8_book_62
def p_X8_cancel (X : gM) (a1 : Int32) : Int32 × gM :=
  gOpt (f_X3_ticketOf (vw 0 X) a1) (
    ((-1), X)) (fun q1 =>
    if f_X5_hasEnded (vw 0 X) q1 = 0 then
      let X1 := p_X8_recordState X
      let X2 := putS X1 0 ((p_X3_withdraw (vw 0 X1) q1).2)
      ((p_X3_withdraw (vw 0 X1) q1).1, X2)
    else
      ((-4), X))
set_option maxHeartbeats 4000000 in
set_option maxRecDepth 100000 in
theorem c_X8_cancel (l : Launch) (D : va_G) (cy : Nat → ClassId) (β : Nat) (X : gM) (a1 : Int32) (hh : HOK X) : Met l yX8_cancel wsX8_cancel ({ frames := 5, cells := 0, slots := 0, locals := 111 }) (gP [.ref β, .int a1] D cy (TR D cy β X)) (gQi (p_X8_cancel X a1).1 (TR D cy β (p_X8_cancel X a1).2) (TA β)) 0 0 (TA β) := by
  refine gm_met (cc := cX8_cancel) (maxL := 3) (ret := (some .int)) [.ref β, .int a1] (by decide) rfl (Nat.le_of_ble_eq_true rfl) ?_
  intro p e s m args below meth c0 ls C hR hl
  obtain ⟨hx, hb, hr, hts, hown, hlocks, hml, hK⟩ := C
  have hl : lv_has ls 3 [(0, .ref β), (1, .int a1)] := hl
  have hS : va_S (TA β) s.heap s.heap [] := va_S.rf
  have lk10 := hts (.fieldLink RX8 10 "MercuryLine" "now" "LMercuryLine$State;") (by decide +kernel)
  have inX8 : ∀ w ∈ u_ws RX8 TX8 8, w ∈ wsX8_cancel := by decide +kernel
  refine lv_aload_n hx hb dX8_cancel_0 rfl (lv_at hl 0 rfl) ?_
  refine va_get (D := D) (ci := 8) (v := .ref (β + off 0)) (C := RX8) (T := TX8) (N := 8) hx hb hts inX8 hown hK.1 (TR.mk0 hR) 0 rfl rfl 0 (by decide) lk10 (fun _ h9 => h9) rfl dX8_cancel_1 ?_
  refine lv_iload_n hx hb dX8_cancel_4 rfl (lv_at hl 1 rfl) ?_
  refine gm_cq (gm_call (As := [.int a1]) (rest := []) (ci := 3) (q := (RX3, TX3, 14)) ⟨hx, hb, hml, hown, hts⟩ hK (c_X3_ticketOf l D cy (β + off 0) (vw 0 X) a1) (cwV 1 hts gX8_cancel_X3_ticketOf rfl rfl rfl (by decide +kernel) ⟨Nat.le_of_ble_eq_true rfl, Nat.le_of_ble_eq_true rfl⟩) (SR.mk0 (TR.st hR (by decide))) rfl (TR.st hR (by decide)) rfl hl.1 rfl (Nat.le_of_ble_eq_true rfl) dX8_cancel_5 (Nat.zero_le _) (Nat.zero_le _)) hS (fun _ h => h.elim) (fun H locs _ _ hfr hS => ?_)
  have hR := gRep.keep hR hfr (fun _ _ h => h)
  rcases hq1 : f_X3_ticketOf (vw 0 X) a1 with _ | q1
  · refine W.eq (g2 := F0 m 8 ls [.null]) rfl ?_
    refine lv_astore_nN (lv' := [(2, .null), (0, .ref β), (1, .int a1)]) hx hb dX8_cancel_8 rfl hl (by decide) rfl (fun ls hl => ?_)
    refine lv_aload_nN hx hb dX8_cancel_9 rfl (lv_at hl 0 rfl) ?_
    refine lv_ifnonnullN hx hb dX8_cancel_10 ?_
    refine lv_iconst (v := (-1)) hx hb dX8_cancel_13 (by decide) ?_
    exact gm_iret hx hb hr hlocks hS (by (try simp only [p_X8_cancel, ↓gOpt_n hq1]); (try rfl)) (by (try simp only [p_X8_cancel, ↓gOpt_n hq1]); exact hR) dX8_cancel_14
  · refine W.eq (g2 := F0 m 8 ls [.ref (β + off 0 + q1)]) rfl ?_
    refine lv_astore_n (lv' := [(2, .ref (β + off 0 + q1)), (0, .ref β), (1, .int a1)]) hx hb dX8_cancel_8 rfl hl (by decide) rfl (fun ls hl => ?_)
    refine lv_aload_n hx hb dX8_cancel_9 rfl (lv_at hl 0 rfl) ?_
    refine lv_ifnonnull (tgt := 15) hx hb dX8_cancel_10 (by decide) ?_
    refine lv_aload_n hx hb dX8_cancel_15 rfl (lv_at hl 0 rfl) ?_
    refine gm_ci (gm_call (As := []) (rest := []) (ci := 5) (q := (RX5, TX5, 14)) ⟨hx, hb, hml, hown, hts⟩ hK (c_X5_hasEnded l D cy (β + off 0) (vw 0 X) q1 (fk_X3_ticketOf  hq1).1 (fk_X3_ticketOf  hq1).2) (cwV 0 hts gX8_cancel_X5_hasEnded rfl rfl rfl (by decide +kernel) ⟨Nat.le_of_ble_eq_true rfl, Nat.le_of_ble_eq_true rfl⟩) (SR.mk1 (TR.st hR (by decide)) (c := q1) (fk_X3_ticketOf  hq1).1 (bS_5 (fk_X3_ticketOf  hq1).2)) rfl (TR.st hR (by decide)) rfl hl.1 rfl (Nat.le_of_ble_eq_true rfl) dX8_cancel_16 (Nat.zero_le _) (Nat.zero_le _)) hS (fun _ h => h.elim) (fun H locs _ _ hfr hS => ?_)
    have hR := gRep.keep hR hfr (fun _ _ h => h)
    refine lv_if_eq (tgt := 25) hx hb dX8_cancel_19 (by decide) (fun c_2 => ?_) (fun c_2 => ?_)
    · refine lv_aload_n hx hb dX8_cancel_25 rfl (lv_at hl 1 rfl) ?_
      refine gm_cv (gm_call (As := []) (rest := []) (ci := 8) (q := (RX8, TX8, 8)) ⟨hx, hb, hml, hown, hts⟩ hK (c_X8_recordState l D cy β X hh) (cwV 0 hts gX8_cancel_X8_recordState rfl rfl rfl (by decide +kernel) ⟨Nat.le_of_ble_eq_true rfl, Nat.le_of_ble_eq_true rfl⟩) (TR.mk0 hR) rfl hR rfl hl.1 rfl (Nat.le_of_ble_eq_true rfl) dX8_cancel_26 (Nat.zero_le _) (Nat.zero_le _)) hS (fun _ h => h) (fun H locs hR _ _ hS => ?_)
      obtain ⟨X1, eX1⟩ : ∃ Y : gM, Y = p_X8_recordState X := ⟨_, rfl⟩
      rw [← eX1] at hR
      refine lv_aload_n hx hb dX8_cancel_29 rfl (lv_at hl 1 rfl) ?_
      refine va_get (D := D) (ci := 8) (v := .ref (β + off 0)) (C := RX8) (T := TX8) (N := 8) hx hb hts inX8 hown hK.1 (TR.mk0 hR) 0 rfl rfl 0 (by decide) lk10 (fun _ h9 => h9) rfl dX8_cancel_30 ?_
      refine lv_aload_n hx hb dX8_cancel_33 rfl (lv_at hl 0 rfl) ?_
      refine gm_ci (gm_call (As := [.ref (β + off 0 + q1)]) (rest := []) (ci := 3) (q := (RX3, TX3, 14)) ⟨hx, hb, hml, hown, hts⟩ hK (c_X3_withdraw l D cy (β + off 0) (vw 0 X1) q1 (fk_X3_ticketOf  hq1).1 (fk_X3_ticketOf  hq1).2) (cwV 1 hts gX8_cancel_X3_withdraw rfl rfl rfl (by decide +kernel) ⟨Nat.le_of_ble_eq_true rfl, Nat.le_of_ble_eq_true rfl⟩) (SR.mk0 (TR.st hR (by decide))) rfl (TR.st hR (by decide)) rfl hl.1 rfl (Nat.le_of_ble_eq_true rfl) dX8_cancel_34 (Nat.zero_le _) (Nat.zero_le _)) hS (TA_S (by decide)) (fun H locs hRR _ hfr hS => ?_)
      have hR := TR.mrgS hR (by decide) hRR hfr
      obtain ⟨X2, eX2⟩ : ∃ Y : gM, Y = putS X1 0 ((p_X3_withdraw (vw 0 X1) q1).2) := ⟨_, rfl⟩
      rw [← eX2] at hR
      exact gm_iret hx hb hr hlocks hS (by (try simp only [p_X8_cancel, ↓if_pos c_2, ↓gOpt_s hq1, ← eX1, ← eX2]); (try rfl)) (by (try simp only [p_X8_cancel, ↓if_pos c_2, ↓gOpt_s hq1, ← eX1, ← eX2]); exact hR) dX8_cancel_37
    · refine lv_bipush (v := (-4)) hx hb dX8_cancel_22 (by decide) ?_
      exact gm_iret hx hb hr hlocks hS (by (try simp only [p_X8_cancel, ↓if_neg c_2, ↓gOpt_s hq1]); (try rfl)) (by (try simp only [p_X8_cancel, ↓if_neg c_2, ↓gOpt_s hq1]); exact hR) dX8_cancel_24
def p_X8_call (X : gM) (a1 : Int32) (a2 : Int32) : Int32 × gM :=
  gOpt (f_X3_stationOf (vw 0 X) a1) (
    ((-1), X)) (fun q1 =>
    if f_X8_within a2 0 65535 = 0 then
      ((-2), X)
    else
      if vw 0 X q1 4 < 3 then
        let X1 := p_X8_recordState X
        let X2 := putS X1 0 ((p_X4_addCall (vw 0 X1) q1 a2).2)
        ((p_X4_addCall (vw 0 X1) q1 a2).1, X2)
      else
        ((-3), X))
set_option maxHeartbeats 4000000 in
set_option maxRecDepth 100000 in
theorem c_X8_call (l : Launch) (D : va_G) (cy : Nat → ClassId) (β : Nat) (X : gM) (a1 : Int32) (a2 : Int32) (hh : HOK X) : Met l yX8_call wsX8_call ({ frames := 5, cells := 0, slots := 0, locals := 111 }) (gP [.ref β, .int a1, .int a2] D cy (TR D cy β X)) (gQi (p_X8_call X a1 a2).1 (TR D cy β (p_X8_call X a1 a2).2) (TA β)) 0 0 (TA β) := by
  refine gm_met (cc := cX8_call) (maxL := 4) (ret := (some .int)) [.ref β, .int a1, .int a2] (by decide) rfl (Nat.le_of_ble_eq_true rfl) ?_
  intro p e s m args below meth c0 ls C hR hl
  obtain ⟨hx, hb, hr, hts, hown, hlocks, hml, hK⟩ := C
  have hl : lv_has ls 4 [(0, .ref β), (1, .int a1), (2, .int a2)] := hl
  have hS : va_S (TA β) s.heap s.heap [] := va_S.rf
  have lk10 := hts (.fieldLink RX8 10 "MercuryLine" "now" "LMercuryLine$State;") (by decide +kernel)
  have inX8 : ∀ w ∈ u_ws RX8 TX8 8, w ∈ wsX8_call := by decide +kernel
  have lk144 := hts (.fieldLink RX8 144 "MercuryLine$Station" "callCount" "I") (by decide +kernel)
  have inX4 : ∀ w ∈ u_ws RX4 TX4 10, w ∈ wsX8_call := by decide +kernel
  refine lv_aload_n hx hb dX8_call_0 rfl (lv_at hl 0 rfl) ?_
  refine va_get (D := D) (ci := 8) (v := .ref (β + off 0)) (C := RX8) (T := TX8) (N := 8) hx hb hts inX8 hown hK.1 (TR.mk0 hR) 0 rfl rfl 0 (by decide) lk10 (fun _ h9 => h9) rfl dX8_call_1 ?_
  refine lv_iload_n hx hb dX8_call_4 rfl (lv_at hl 1 rfl) ?_
  refine gm_cq (gm_call (As := [.int a1]) (rest := []) (ci := 3) (q := (RX3, TX3, 14)) ⟨hx, hb, hml, hown, hts⟩ hK (c_X3_stationOf l D cy (β + off 0) (vw 0 X) a1) (cwV 1 hts gX8_call_X3_stationOf rfl rfl rfl (by decide +kernel) ⟨Nat.le_of_ble_eq_true rfl, Nat.le_of_ble_eq_true rfl⟩) (SR.mk0 (TR.st hR (by decide))) rfl (TR.st hR (by decide)) rfl hl.1 rfl (Nat.le_of_ble_eq_true rfl) dX8_call_5 (Nat.zero_le _) (Nat.zero_le _)) hS (fun _ h => h.elim) (fun H locs _ _ hfr hS => ?_)
  have hR := gRep.keep hR hfr (fun _ _ h => h)
  rcases hq1 : f_X3_stationOf (vw 0 X) a1 with _ | q1
  · refine W.eq (g2 := F0 m 8 ls [.null]) rfl ?_
    refine lv_astore_nN (lv' := [(3, .null), (0, .ref β), (1, .int a1), (2, .int a2)]) hx hb dX8_call_8 rfl hl (by decide) rfl (fun ls hl => ?_)
    refine lv_aload_nN hx hb dX8_call_9 rfl (lv_at hl 0 rfl) ?_
    refine lv_ifnonnullN hx hb dX8_call_10 ?_
    refine lv_iconst (v := (-1)) hx hb dX8_call_13 (by decide) ?_
    exact gm_iret hx hb hr hlocks hS (by (try simp only [p_X8_call, ↓gOpt_n hq1]); (try rfl)) (by (try simp only [p_X8_call, ↓gOpt_n hq1]); exact hR) dX8_call_14
  · refine W.eq (g2 := F0 m 8 ls [.ref (β + off 0 + q1)]) rfl ?_
    refine lv_astore_n (lv' := [(3, .ref (β + off 0 + q1)), (0, .ref β), (1, .int a1), (2, .int a2)]) hx hb dX8_call_8 rfl hl (by decide) rfl (fun ls hl => ?_)
    refine lv_aload_n hx hb dX8_call_9 rfl (lv_at hl 0 rfl) ?_
    refine lv_ifnonnull (tgt := 15) hx hb dX8_call_10 (by decide) ?_
    refine lv_iload_n hx hb dX8_call_15 rfl (lv_at hl 3 rfl) ?_
    refine lv_iconst (v := 0) hx hb dX8_call_16 (by decide) ?_
    refine lv_ldc (v := 65535) hx hb hown (hts (.constant RX8 143 65535) (by decide +kernel)) dX8_call_17 ?_
    refine gm_ci (gm_callS (As := [.int a2, .int 0, .int 65535]) (rest := []) ⟨hx, hb, hml, hown, hts⟩ hK (c_X8_within l D cy a2 0 65535) (va_cwS 3 hts gX8_call_X8_within rfl rfl rfl (by decide +kernel) ⟨Nat.le_of_ble_eq_true rfl, Nat.le_of_ble_eq_true rfl⟩) trivial rfl hl.1 rfl (Nat.le_of_ble_eq_true rfl) dX8_call_19 (Nat.zero_le _) (Nat.zero_le _)) hS (fun _ h => h.elim) (fun H locs _ _ hfr hS => ?_)
    have hR := gRep.keep hR hfr (fun _ _ h => h)
    refine lv_if_ne (tgt := 28) hx hb dX8_call_22 (by decide) (fun c_2 => ?_) (fun c_2 => ?_)
    · refine lv_aload_n hx hb dX8_call_28 rfl (lv_at hl 0 rfl) ?_
      refine va_get (D := D) (ci := 4) (v := .int (vw 0 X q1 4)) (C := RX4) (T := TX4) (N := 10) hx hb hts inX4 hown hK.1 (SR.mk1 (TR.st hR (by decide)) (c := q1) (fk_X3_stationOf  hq1).1 (bS_4 (fk_X3_stationOf  hq1).2)) 0 rfl rfl 4 (by decide) lk144 (fun _ h9 => h9) rfl dX8_call_29 ?_
      refine lv_iconst (v := 3) hx hb dX8_call_32 (by decide) ?_
      refine lv_icmp_lt (tgt := 39) hx hb dX8_call_33 (by decide) (fun c_3 => ?_) (fun c_3 => ?_)
      · refine lv_aload_n hx hb dX8_call_39 rfl (lv_at hl 1 rfl) ?_
        refine gm_cv (gm_call (As := []) (rest := []) (ci := 8) (q := (RX8, TX8, 8)) ⟨hx, hb, hml, hown, hts⟩ hK (c_X8_recordState l D cy β X hh) (cwV 0 hts gX8_call_X8_recordState rfl rfl rfl (by decide +kernel) ⟨Nat.le_of_ble_eq_true rfl, Nat.le_of_ble_eq_true rfl⟩) (TR.mk0 hR) rfl hR rfl hl.1 rfl (Nat.le_of_ble_eq_true rfl) dX8_call_40 (Nat.zero_le _) (Nat.zero_le _)) hS (fun _ h => h) (fun H locs hR _ _ hS => ?_)
        obtain ⟨X1, eX1⟩ : ∃ Y : gM, Y = p_X8_recordState X := ⟨_, rfl⟩
        rw [← eX1] at hR
        refine lv_aload_n hx hb dX8_call_43 rfl (lv_at hl 0 rfl) ?_
        refine lv_iload_n hx hb dX8_call_44 rfl (lv_at hl 3 rfl) ?_
        refine gm_ci (gm_call (As := [.int a2]) (rest := []) (ci := 4) (q := (RX4, TX4, 10)) ⟨hx, hb, hml, hown, hts⟩ hK (c_X4_addCall l D cy (β + off 0) (vw 0 X1) q1 a2 (fk_X3_stationOf  hq1).1 (fk_X3_stationOf  hq1).2) (cwV 1 hts gX8_call_X4_addCall rfl rfl rfl (by decide +kernel) ⟨Nat.le_of_ble_eq_true rfl, Nat.le_of_ble_eq_true rfl⟩) (SR.mk1 (TR.st hR (by decide)) (c := q1) (fk_X3_stationOf  hq1).1 (bS_4 (fk_X3_stationOf  hq1).2)) rfl (TR.st hR (by decide)) rfl hl.1 rfl (Nat.le_of_ble_eq_true rfl) dX8_call_45 (Nat.zero_le _) (Nat.zero_le _)) hS (TA_S (by decide)) (fun H locs hRR _ hfr hS => ?_)
        have hR := TR.mrgS hR (by decide) hRR hfr
        obtain ⟨X2, eX2⟩ : ∃ Y : gM, Y = putS X1 0 ((p_X4_addCall (vw 0 X1) q1 a2).2) := ⟨_, rfl⟩
        rw [← eX2] at hR
        exact gm_iret hx hb hr hlocks hS (by (try simp only [p_X8_call, ↓if_neg c_2, ↓if_pos c_3, ↓gOpt_s hq1, ← eX1, ← eX2]); (try rfl)) (by (try simp only [p_X8_call, ↓if_neg c_2, ↓if_pos c_3, ↓gOpt_s hq1, ← eX1, ← eX2]); exact hR) dX8_call_48
      · refine lv_bipush (v := (-3)) hx hb dX8_call_36 (by decide) ?_
        exact gm_iret hx hb hr hlocks hS (by (try simp only [p_X8_call, ↓if_neg c_2, ↓if_neg c_3, ↓gOpt_s hq1]); (try rfl)) (by (try simp only [p_X8_call, ↓if_neg c_2, ↓if_neg c_3, ↓gOpt_s hq1]); exact hR) dX8_call_38
    · refine lv_bipush (v := (-2)) hx hb dX8_call_25 (by decide) ?_
      exact gm_iret hx hb hr hlocks hS (by (try simp only [p_X8_call, ↓if_pos c_2, ↓gOpt_s hq1]); (try rfl)) (by (try simp only [p_X8_call, ↓if_pos c_2, ↓gOpt_s hq1]); exact hR) dX8_call_27
def p_X8_callBack (X : gM) (a1 : Int32) : Int32 × gM :=
  gOpt (f_X3_stationOf (vw 0 X) a1) (
    ((-1), X)) (fun q1 =>
    if f_X4_callAt (vw 0 X) q1 0 = (-5) then
      ((-5), X)
    else
      let X1 := p_X8_recordState X
      let X2 := putS X1 0 (p_X4_removeCall (vw 0 X1) q1 0)
      (f_X4_callAt (vw 0 X) q1 0, X2))
set_option maxHeartbeats 4000000 in
set_option maxRecDepth 100000 in
theorem c_X8_callBack (l : Launch) (D : va_G) (cy : Nat → ClassId) (β : Nat) (X : gM) (a1 : Int32) (hh : HOK X) : Met l yX8_callBack wsX8_callBack ({ frames := 5, cells := 0, slots := 0, locals := 111 }) (gP [.ref β, .int a1] D cy (TR D cy β X)) (gQi (p_X8_callBack X a1).1 (TR D cy β (p_X8_callBack X a1).2) (TA β)) 0 0 (TA β) := by
  refine gm_met (cc := cX8_callBack) (maxL := 4) (ret := (some .int)) [.ref β, .int a1] (by decide) rfl (Nat.le_of_ble_eq_true rfl) ?_
  intro p e s m args below meth c0 ls C hR hl
  obtain ⟨hx, hb, hr, hts, hown, hlocks, hml, hK⟩ := C
  have hl : lv_has ls 4 [(0, .ref β), (1, .int a1)] := hl
  have hS : va_S (TA β) s.heap s.heap [] := va_S.rf
  have lk10 := hts (.fieldLink RX8 10 "MercuryLine" "now" "LMercuryLine$State;") (by decide +kernel)
  have inX8 : ∀ w ∈ u_ws RX8 TX8 8, w ∈ wsX8_callBack := by decide +kernel
  refine lv_aload_n hx hb dX8_callBack_0 rfl (lv_at hl 0 rfl) ?_
  refine va_get (D := D) (ci := 8) (v := .ref (β + off 0)) (C := RX8) (T := TX8) (N := 8) hx hb hts inX8 hown hK.1 (TR.mk0 hR) 0 rfl rfl 0 (by decide) lk10 (fun _ h9 => h9) rfl dX8_callBack_1 ?_
  refine lv_iload_n hx hb dX8_callBack_4 rfl (lv_at hl 1 rfl) ?_
  refine gm_cq (gm_call (As := [.int a1]) (rest := []) (ci := 3) (q := (RX3, TX3, 14)) ⟨hx, hb, hml, hown, hts⟩ hK (c_X3_stationOf l D cy (β + off 0) (vw 0 X) a1) (cwV 1 hts gX8_callBack_X3_stationOf rfl rfl rfl (by decide +kernel) ⟨Nat.le_of_ble_eq_true rfl, Nat.le_of_ble_eq_true rfl⟩) (SR.mk0 (TR.st hR (by decide))) rfl (TR.st hR (by decide)) rfl hl.1 rfl (Nat.le_of_ble_eq_true rfl) dX8_callBack_5 (Nat.zero_le _) (Nat.zero_le _)) hS (fun _ h => h.elim) (fun H locs _ _ hfr hS => ?_)
  have hR := gRep.keep hR hfr (fun _ _ h => h)
  rcases hq1 : f_X3_stationOf (vw 0 X) a1 with _ | q1
  · refine W.eq (g2 := F0 m 8 ls [.null]) rfl ?_
    refine lv_astore_nN (lv' := [(2, .null), (0, .ref β), (1, .int a1)]) hx hb dX8_callBack_8 rfl hl (by decide) rfl (fun ls hl => ?_)
    refine lv_aload_nN hx hb dX8_callBack_9 rfl (lv_at hl 0 rfl) ?_
    refine lv_ifnonnullN hx hb dX8_callBack_10 ?_
    refine lv_iconst (v := (-1)) hx hb dX8_callBack_13 (by decide) ?_
    exact gm_iret hx hb hr hlocks hS (by (try simp only [p_X8_callBack, ↓gOpt_n hq1]); (try rfl)) (by (try simp only [p_X8_callBack, ↓gOpt_n hq1]); exact hR) dX8_callBack_14
  · refine W.eq (g2 := F0 m 8 ls [.ref (β + off 0 + q1)]) rfl ?_
    refine lv_astore_n (lv' := [(2, .ref (β + off 0 + q1)), (0, .ref β), (1, .int a1)]) hx hb dX8_callBack_8 rfl hl (by decide) rfl (fun ls hl => ?_)
    refine lv_aload_n hx hb dX8_callBack_9 rfl (lv_at hl 0 rfl) ?_
    refine lv_ifnonnull (tgt := 15) hx hb dX8_callBack_10 (by decide) ?_
    refine lv_aload_n hx hb dX8_callBack_15 rfl (lv_at hl 0 rfl) ?_
    refine lv_iconst (v := 0) hx hb dX8_callBack_16 (by decide) ?_
    refine gm_ci (gm_call (As := [.int 0]) (rest := []) (ci := 4) (q := (RX4, TX4, 10)) ⟨hx, hb, hml, hown, hts⟩ hK (c_X4_callAt l D cy (β + off 0) (vw 0 X) q1 0 (fk_X3_stationOf  hq1).1 (fk_X3_stationOf  hq1).2) (cwV 1 hts gX8_callBack_X4_callAt rfl rfl rfl (by decide +kernel) ⟨Nat.le_of_ble_eq_true rfl, Nat.le_of_ble_eq_true rfl⟩) (SR.mk1 (TR.st hR (by decide)) (c := q1) (fk_X3_stationOf  hq1).1 (bS_4 (fk_X3_stationOf  hq1).2)) rfl (TR.st hR (by decide)) rfl hl.1 rfl (Nat.le_of_ble_eq_true rfl) dX8_callBack_17 (Nat.zero_le _) (Nat.zero_le _)) hS (fun _ h => h.elim) (fun H locs _ _ hfr hS => ?_)
    have hR := gRep.keep hR hfr (fun _ _ h => h)
    refine lv_istore_n (lv' := [(3, .int (f_X4_callAt (vw 0 X) q1 0)), (2, .ref (β + off 0 + q1)), (0, .ref β), (1, .int a1)]) hx hb dX8_callBack_20 rfl hl (by decide) rfl (fun ls hl => ?_)
    refine lv_iload_n hx hb dX8_callBack_21 rfl (lv_at hl 0 rfl) ?_
    refine lv_bipush (v := (-5)) hx hb dX8_callBack_22 (by decide) ?_
    refine lv_icmp_ne (tgt := 30) hx hb dX8_callBack_24 (by decide) (fun c_2 => ?_) (fun c_2 => ?_)
    · refine lv_aload_n hx hb dX8_callBack_30 rfl (lv_at hl 2 rfl) ?_
      refine gm_cv (gm_call (As := []) (rest := []) (ci := 8) (q := (RX8, TX8, 8)) ⟨hx, hb, hml, hown, hts⟩ hK (c_X8_recordState l D cy β X hh) (cwV 0 hts gX8_callBack_X8_recordState rfl rfl rfl (by decide +kernel) ⟨Nat.le_of_ble_eq_true rfl, Nat.le_of_ble_eq_true rfl⟩) (TR.mk0 hR) rfl hR rfl hl.1 rfl (Nat.le_of_ble_eq_true rfl) dX8_callBack_31 (Nat.zero_le _) (Nat.zero_le _)) hS (fun _ h => h) (fun H locs hR _ _ hS => ?_)
      obtain ⟨X1, eX1⟩ : ∃ Y : gM, Y = p_X8_recordState X := ⟨_, rfl⟩
      rw [← eX1] at hR
      refine lv_aload_n hx hb dX8_callBack_34 rfl (lv_at hl 1 rfl) ?_
      refine lv_iconst (v := 0) hx hb dX8_callBack_35 (by decide) ?_
      refine gm_cv (gm_call (As := [.int 0]) (rest := []) (ci := 4) (q := (RX4, TX4, 10)) ⟨hx, hb, hml, hown, hts⟩ hK (c_X4_removeCall l D cy (β + off 0) (vw 0 X1) q1 0 (fk_X3_stationOf  hq1).1 (fk_X3_stationOf  hq1).2 (by decide)) (cwV 1 hts gX8_callBack_X4_removeCall rfl rfl rfl (by decide +kernel) ⟨Nat.le_of_ble_eq_true rfl, Nat.le_of_ble_eq_true rfl⟩) (SR.mk1 (TR.st hR (by decide)) (c := q1) (fk_X3_stationOf  hq1).1 (bS_4 (fk_X3_stationOf  hq1).2)) rfl (TR.st hR (by decide)) rfl hl.1 rfl (Nat.le_of_ble_eq_true rfl) dX8_callBack_36 (Nat.zero_le _) (Nat.zero_le _)) hS (TA_S (by decide)) (fun H locs hRR _ hfr hS => ?_)
      have hR := TR.mrgS hR (by decide) hRR hfr
      obtain ⟨X2, eX2⟩ : ∃ Y : gM, Y = putS X1 0 (p_X4_removeCall (vw 0 X1) q1 0) := ⟨_, rfl⟩
      rw [← eX2] at hR
      refine lv_iload_n hx hb dX8_callBack_39 rfl (lv_at hl 0 rfl) ?_
      exact gm_iret hx hb hr hlocks hS (by (try simp only [p_X8_callBack, ↓if_neg c_2, ↓gOpt_s hq1, ← eX1, ← eX2]); (try rfl)) (by (try simp only [p_X8_callBack, ↓if_neg c_2, ↓gOpt_s hq1, ← eX1, ← eX2]); exact hR) dX8_callBack_40
    · refine lv_bipush (v := (-5)) hx hb dX8_callBack_27 (by decide) ?_
      exact gm_iret hx hb hr hlocks hS (by (try simp only [p_X8_callBack, ↓if_pos c_2, ↓gOpt_s hq1]); (try rfl)) (by (try simp only [p_X8_callBack, ↓if_pos c_2, ↓gOpt_s hq1]); exact hR) dX8_callBack_29
def p_X8_order (X : gM) (a1 : Int32) (a2 : Int32) : Int32 × gM :=
  gOpt (f_X3_ticketOf (vw 0 X) a1) (
    ((-1), X)) (fun q1 =>
    if f_X8_within a2 1 50 = 0 then
      ((-2), X)
    else
      if vw 0 X 0 6 < 4 then
        let X1 := p_X8_recordState X
        let X2 := putS X1 0 ((p_X3_giveOrder (vw 0 X1) (vw 0 X1 (q1 + 1)) a2).2)
        ((p_X3_giveOrder (vw 0 X1) (vw 0 X1 (q1 + 1)) a2).1, X2)
      else
        ((-3), X))
set_option maxHeartbeats 4000000 in
set_option maxRecDepth 100000 in
theorem c_X8_order (l : Launch) (D : va_G) (cy : Nat → ClassId) (β : Nat) (X : gM) (a1 : Int32) (a2 : Int32) (hh : HOK X) : Met l yX8_order wsX8_order ({ frames := 5, cells := 0, slots := 0, locals := 111 }) (gP [.ref β, .int a1, .int a2] D cy (TR D cy β X)) (gQi (p_X8_order X a1 a2).1 (TR D cy β (p_X8_order X a1 a2).2) (TA β)) 0 0 (TA β) := by
  refine gm_met (cc := cX8_order) (maxL := 4) (ret := (some .int)) [.ref β, .int a1, .int a2] (by decide) rfl (Nat.le_of_ble_eq_true rfl) ?_
  intro p e s m args below meth c0 ls C hR hl
  obtain ⟨hx, hb, hr, hts, hown, hlocks, hml, hK⟩ := C
  have hl : lv_has ls 4 [(0, .ref β), (1, .int a1), (2, .int a2)] := hl
  have hS : va_S (TA β) s.heap s.heap [] := va_S.rf
  have lk10 := hts (.fieldLink RX8 10 "MercuryLine" "now" "LMercuryLine$State;") (by decide +kernel)
  have inX8 : ∀ w ∈ u_ws RX8 TX8 8, w ∈ wsX8_order := by decide +kernel
  have lk158 := hts (.fieldLink RX8 158 "MercuryLine$State" "orderCount" "I") (by decide +kernel)
  have inX3 : ∀ w ∈ u_ws RX3 TX3 14, w ∈ wsX8_order := by decide +kernel
  have lk161 := hts (.fieldLink RX8 161 "MercuryLine$Ticket" "trip" "LMercuryLine$Trip;") (by decide +kernel)
  have inX5 : ∀ w ∈ u_ws RX5 TX5 14, w ∈ wsX8_order := by decide +kernel
  refine lv_aload_n hx hb dX8_order_0 rfl (lv_at hl 0 rfl) ?_
  refine va_get (D := D) (ci := 8) (v := .ref (β + off 0)) (C := RX8) (T := TX8) (N := 8) hx hb hts inX8 hown hK.1 (TR.mk0 hR) 0 rfl rfl 0 (by decide) lk10 (fun _ h9 => h9) rfl dX8_order_1 ?_
  refine lv_iload_n hx hb dX8_order_4 rfl (lv_at hl 1 rfl) ?_
  refine gm_cq (gm_call (As := [.int a1]) (rest := []) (ci := 3) (q := (RX3, TX3, 14)) ⟨hx, hb, hml, hown, hts⟩ hK (c_X3_ticketOf l D cy (β + off 0) (vw 0 X) a1) (cwV 1 hts gX8_order_X3_ticketOf rfl rfl rfl (by decide +kernel) ⟨Nat.le_of_ble_eq_true rfl, Nat.le_of_ble_eq_true rfl⟩) (SR.mk0 (TR.st hR (by decide))) rfl (TR.st hR (by decide)) rfl hl.1 rfl (Nat.le_of_ble_eq_true rfl) dX8_order_5 (Nat.zero_le _) (Nat.zero_le _)) hS (fun _ h => h.elim) (fun H locs _ _ hfr hS => ?_)
  have hR := gRep.keep hR hfr (fun _ _ h => h)
  rcases hq1 : f_X3_ticketOf (vw 0 X) a1 with _ | q1
  · refine W.eq (g2 := F0 m 8 ls [.null]) rfl ?_
    refine lv_astore_nN (lv' := [(3, .null), (0, .ref β), (1, .int a1), (2, .int a2)]) hx hb dX8_order_8 rfl hl (by decide) rfl (fun ls hl => ?_)
    refine lv_aload_nN hx hb dX8_order_9 rfl (lv_at hl 0 rfl) ?_
    refine lv_ifnonnullN hx hb dX8_order_10 ?_
    refine lv_iconst (v := (-1)) hx hb dX8_order_13 (by decide) ?_
    exact gm_iret hx hb hr hlocks hS (by (try simp only [p_X8_order, ↓gOpt_n hq1]); (try rfl)) (by (try simp only [p_X8_order, ↓gOpt_n hq1]); exact hR) dX8_order_14
  · refine W.eq (g2 := F0 m 8 ls [.ref (β + off 0 + q1)]) rfl ?_
    refine lv_astore_n (lv' := [(3, .ref (β + off 0 + q1)), (0, .ref β), (1, .int a1), (2, .int a2)]) hx hb dX8_order_8 rfl hl (by decide) rfl (fun ls hl => ?_)
    refine lv_aload_n hx hb dX8_order_9 rfl (lv_at hl 0 rfl) ?_
    refine lv_ifnonnull (tgt := 15) hx hb dX8_order_10 (by decide) ?_
    refine lv_iload_n hx hb dX8_order_15 rfl (lv_at hl 3 rfl) ?_
    refine lv_iconst (v := 1) hx hb dX8_order_16 (by decide) ?_
    refine lv_bipush (v := 50) hx hb dX8_order_17 (by decide) ?_
    refine gm_ci (gm_callS (As := [.int a2, .int 1, .int 50]) (rest := []) ⟨hx, hb, hml, hown, hts⟩ hK (c_X8_within l D cy a2 1 50) (va_cwS 3 hts gX8_order_X8_within rfl rfl rfl (by decide +kernel) ⟨Nat.le_of_ble_eq_true rfl, Nat.le_of_ble_eq_true rfl⟩) trivial rfl hl.1 rfl (Nat.le_of_ble_eq_true rfl) dX8_order_19 (Nat.zero_le _) (Nat.zero_le _)) hS (fun _ h => h.elim) (fun H locs _ _ hfr hS => ?_)
    have hR := gRep.keep hR hfr (fun _ _ h => h)
    refine lv_if_ne (tgt := 28) hx hb dX8_order_22 (by decide) (fun c_2 => ?_) (fun c_2 => ?_)
    · refine lv_aload_n hx hb dX8_order_28 rfl (lv_at hl 1 rfl) ?_
      refine va_get (D := D) (ci := 8) (v := .ref (β + off 0)) (C := RX8) (T := TX8) (N := 8) hx hb hts inX8 hown hK.1 (TR.mk0 hR) 0 rfl rfl 0 (by decide) lk10 (fun _ h9 => h9) rfl dX8_order_29 ?_
      refine va_get (D := D) (ci := 3) (v := .int (vw 0 X 0 6)) (C := RX3) (T := TX3) (N := 14) hx hb hts inX3 hown hK.1 (SR.mk0 (TR.st hR (by decide))) 0 rfl rfl 6 (by decide) lk158 (fun _ h9 => h9) rfl dX8_order_32 ?_
      refine lv_iconst (v := 4) hx hb dX8_order_35 (by decide) ?_
      refine lv_icmp_lt (tgt := 42) hx hb dX8_order_36 (by decide) (fun c_3 => ?_) (fun c_3 => ?_)
      · refine lv_aload_n hx hb dX8_order_42 rfl (lv_at hl 1 rfl) ?_
        refine gm_cv (gm_call (As := []) (rest := []) (ci := 8) (q := (RX8, TX8, 8)) ⟨hx, hb, hml, hown, hts⟩ hK (c_X8_recordState l D cy β X hh) (cwV 0 hts gX8_order_X8_recordState rfl rfl rfl (by decide +kernel) ⟨Nat.le_of_ble_eq_true rfl, Nat.le_of_ble_eq_true rfl⟩) (TR.mk0 hR) rfl hR rfl hl.1 rfl (Nat.le_of_ble_eq_true rfl) dX8_order_43 (Nat.zero_le _) (Nat.zero_le _)) hS (fun _ h => h) (fun H locs hR _ _ hS => ?_)
        obtain ⟨X1, eX1⟩ : ∃ Y : gM, Y = p_X8_recordState X := ⟨_, rfl⟩
        rw [← eX1] at hR
        refine lv_aload_n hx hb dX8_order_46 rfl (lv_at hl 1 rfl) ?_
        refine va_get (D := D) (ci := 8) (v := .ref (β + off 0)) (C := RX8) (T := TX8) (N := 8) hx hb hts inX8 hown hK.1 (TR.mk0 hR) 0 rfl rfl 0 (by decide) lk10 (fun _ h9 => h9) rfl dX8_order_47 ?_
        refine lv_aload_n hx hb dX8_order_50 rfl (lv_at hl 0 rfl) ?_
        refine va_get (D := D) (ci := 5) (v := .ref (β + off 0 + (q1 + 1))) (C := RX5) (T := TX5) (N := 14) hx hb hts inX5 hown hK.1 (SR.mk1 (TR.st hR (by decide)) (c := q1) (fk_X3_ticketOf  hq1).1 (bS_5 (fk_X3_ticketOf  hq1).2)) 0 rfl rfl 1 (by decide) lk161 (fun _ h9 => h9) rfl dX8_order_51 ?_
        refine lv_iload_n hx hb dX8_order_54 rfl (lv_at hl 3 rfl) ?_
        refine gm_ci (gm_call (As := [.ref (β + off 0 + (q1 + 1)), .int a2]) (rest := []) (ci := 3) (q := (RX3, TX3, 14)) ⟨hx, hb, hml, hown, hts⟩ hK (c_X3_giveOrder l D cy (β + off 0) (vw 0 X1) (β + off 0 + (q1 + 1)) (vw 0 X1 (q1 + 1)) a2 (fun n hn => by have := kd_5l q1 (fk_X3_ticketOf hq1).1 (fk_X3_ticketOf hq1).2; omega)) (cwV 2 hts gX8_order_X3_giveOrder rfl rfl rfl (by decide +kernel) ⟨Nat.le_of_ble_eq_true rfl, Nat.le_of_ble_eq_true rfl⟩) (SR.mk0 (TR.st hR (by decide))) rfl ⟨(TR.st hR (by decide)), Or.inr ⟨q1 + 1, (kd_5 q1 (fk_X3_ticketOf  hq1).1 (fk_X3_ticketOf  hq1).2).1, (kd_5 q1 (fk_X3_ticketOf  hq1).1 (fk_X3_ticketOf  hq1).2).2, rfl, rfl⟩⟩ rfl hl.1 rfl (Nat.le_of_ble_eq_true rfl) dX8_order_55 (Nat.zero_le _) (Nat.zero_le _)) hS (TA_S (by decide)) (fun H locs hRR _ hfr hS => ?_)
        have hR := TR.mrgS hR (by decide) hRR hfr
        obtain ⟨X2, eX2⟩ : ∃ Y : gM, Y = putS X1 0 ((p_X3_giveOrder (vw 0 X1) (vw 0 X1 (q1 + 1)) a2).2) := ⟨_, rfl⟩
        rw [← eX2] at hR
        exact gm_iret hx hb hr hlocks hS (by (try simp only [p_X8_order, ↓if_neg c_2, ↓if_pos c_3, ↓gOpt_s hq1, ← eX1, ← eX2]); (try rfl)) (by (try simp only [p_X8_order, ↓if_neg c_2, ↓if_pos c_3, ↓gOpt_s hq1, ← eX1, ← eX2]); exact hR) dX8_order_58
      · refine lv_bipush (v := (-3)) hx hb dX8_order_39 (by decide) ?_
        exact gm_iret hx hb hr hlocks hS (by (try simp only [p_X8_order, ↓if_neg c_2, ↓if_neg c_3, ↓gOpt_s hq1]); (try rfl)) (by (try simp only [p_X8_order, ↓if_neg c_2, ↓if_neg c_3, ↓gOpt_s hq1]); exact hR) dX8_order_41
    · refine lv_bipush (v := (-2)) hx hb dX8_order_25 (by decide) ?_
      exact gm_iret hx hb hr hlocks hS (by (try simp only [p_X8_order, ↓if_pos c_2, ↓gOpt_s hq1]); (try rfl)) (by (try simp only [p_X8_order, ↓if_pos c_2, ↓gOpt_s hq1]); exact hR) dX8_order_27
def p_X8_endOrder (X : gM) (a1 : Int32) : Int32 × gM :=
  gOpt (f_X3_orderOf (vw 0 X) a1) (
    ((-1), X)) (fun q1 =>
    if gBit (vw 0 X q1 5) = 0 then
      let X1 := p_X8_recordState X
      let X2 := updM X1 (off 0 + q1) 5 1
      (vw 0 X2 q1 3, X2)
    else
      ((-5), X))
set_option maxHeartbeats 4000000 in
set_option maxRecDepth 100000 in
theorem c_X8_endOrder (l : Launch) (D : va_G) (cy : Nat → ClassId) (β : Nat) (X : gM) (a1 : Int32) (hh : HOK X) : Met l yX8_endOrder wsX8_endOrder ({ frames := 5, cells := 0, slots := 0, locals := 111 }) (gP [.ref β, .int a1] D cy (TR D cy β X)) (gQi (p_X8_endOrder X a1).1 (TR D cy β (p_X8_endOrder X a1).2) (TA β)) 0 0 (TA β) := by
  refine gm_met (cc := cX8_endOrder) (maxL := 3) (ret := (some .int)) [.ref β, .int a1] (by decide) rfl (Nat.le_of_ble_eq_true rfl) ?_
  intro p e s m args below meth c0 ls C hR hl
  obtain ⟨hx, hb, hr, hts, hown, hlocks, hml, hK⟩ := C
  have hl : lv_has ls 3 [(0, .ref β), (1, .int a1)] := hl
  have hS : va_S (TA β) s.heap s.heap [] := va_S.rf
  have lk10 := hts (.fieldLink RX8 10 "MercuryLine" "now" "LMercuryLine$State;") (by decide +kernel)
  have inX8 : ∀ w ∈ u_ws RX8 TX8 8, w ∈ wsX8_endOrder := by decide +kernel
  have lk172 := hts (.fieldLink RX8 172 "MercuryLine$Order" "ended" "Z") (by decide +kernel)
  have inX2 : ∀ w ∈ u_ws RX2 TX2 6, w ∈ wsX8_endOrder := by decide +kernel
  have lk178 := hts (.fieldLink RX8 178 "MercuryLine$Order" "booked" "I") (by decide +kernel)
  refine lv_aload_n hx hb dX8_endOrder_0 rfl (lv_at hl 0 rfl) ?_
  refine va_get (D := D) (ci := 8) (v := .ref (β + off 0)) (C := RX8) (T := TX8) (N := 8) hx hb hts inX8 hown hK.1 (TR.mk0 hR) 0 rfl rfl 0 (by decide) lk10 (fun _ h9 => h9) rfl dX8_endOrder_1 ?_
  refine lv_iload_n hx hb dX8_endOrder_4 rfl (lv_at hl 1 rfl) ?_
  refine gm_cq (gm_call (As := [.int a1]) (rest := []) (ci := 3) (q := (RX3, TX3, 14)) ⟨hx, hb, hml, hown, hts⟩ hK (c_X3_orderOf l D cy (β + off 0) (vw 0 X) a1) (cwV 1 hts gX8_endOrder_X3_orderOf rfl rfl rfl (by decide +kernel) ⟨Nat.le_of_ble_eq_true rfl, Nat.le_of_ble_eq_true rfl⟩) (SR.mk0 (TR.st hR (by decide))) rfl (TR.st hR (by decide)) rfl hl.1 rfl (Nat.le_of_ble_eq_true rfl) dX8_endOrder_5 (Nat.zero_le _) (Nat.zero_le _)) hS (fun _ h => h.elim) (fun H locs _ _ hfr hS => ?_)
  have hR := gRep.keep hR hfr (fun _ _ h => h)
  rcases hq1 : f_X3_orderOf (vw 0 X) a1 with _ | q1
  · refine W.eq (g2 := F0 m 8 ls [.null]) rfl ?_
    refine lv_astore_nN (lv' := [(2, .null), (0, .ref β), (1, .int a1)]) hx hb dX8_endOrder_8 rfl hl (by decide) rfl (fun ls hl => ?_)
    refine lv_aload_nN hx hb dX8_endOrder_9 rfl (lv_at hl 0 rfl) ?_
    refine lv_ifnonnullN hx hb dX8_endOrder_10 ?_
    refine lv_iconst (v := (-1)) hx hb dX8_endOrder_13 (by decide) ?_
    exact gm_iret hx hb hr hlocks hS (by (try simp only [p_X8_endOrder, ↓gOpt_n hq1]); (try rfl)) (by (try simp only [p_X8_endOrder, ↓gOpt_n hq1]); exact hR) dX8_endOrder_14
  · refine W.eq (g2 := F0 m 8 ls [.ref (β + off 0 + q1)]) rfl ?_
    refine lv_astore_n (lv' := [(2, .ref (β + off 0 + q1)), (0, .ref β), (1, .int a1)]) hx hb dX8_endOrder_8 rfl hl (by decide) rfl (fun ls hl => ?_)
    refine lv_aload_n hx hb dX8_endOrder_9 rfl (lv_at hl 0 rfl) ?_
    refine lv_ifnonnull (tgt := 15) hx hb dX8_endOrder_10 (by decide) ?_
    refine lv_aload_n hx hb dX8_endOrder_15 rfl (lv_at hl 0 rfl) ?_
    refine va_get (D := D) (ci := 2) (v := .int (gBit (vw 0 X q1 5))) (C := RX2) (T := TX2) (N := 6) hx hb hts inX2 hown hK.1 (SR.mk1 (TR.st hR (by decide)) (c := q1) (fk_X3_orderOf  hq1).1 (bS_2 (fk_X3_orderOf  hq1).2)) 0 rfl rfl 5 (by decide) lk172 (fun _ h9 => h9) rfl dX8_endOrder_16 ?_
    refine lv_if_eq (tgt := 25) hx hb dX8_endOrder_19 (by decide) (fun c_2 => ?_) (fun c_2 => ?_)
    · refine lv_aload_n hx hb dX8_endOrder_25 rfl (lv_at hl 1 rfl) ?_
      refine gm_cv (gm_call (As := []) (rest := []) (ci := 8) (q := (RX8, TX8, 8)) ⟨hx, hb, hml, hown, hts⟩ hK (c_X8_recordState l D cy β X hh) (cwV 0 hts gX8_endOrder_X8_recordState rfl rfl rfl (by decide +kernel) ⟨Nat.le_of_ble_eq_true rfl, Nat.le_of_ble_eq_true rfl⟩) (TR.mk0 hR) rfl hR rfl hl.1 rfl (Nat.le_of_ble_eq_true rfl) dX8_endOrder_26 (Nat.zero_le _) (Nat.zero_le _)) hS (fun _ h => h) (fun H locs hR _ _ hS => ?_)
      obtain ⟨X1, eX1⟩ : ∃ Y : gM, Y = p_X8_recordState X := ⟨_, rfl⟩
      rw [← eX1] at hR
      refine lv_aload_n hx hb dX8_endOrder_29 rfl (lv_at hl 0 rfl) ?_
      refine lv_iconst (v := 1) hx hb dX8_endOrder_30 (by decide) ?_
      refine gm_put (v := .int 1) (ty := .boolean) (ci := 2) (C := RX2) (T := TX2) (N := 6) hx hb hts inX2 tyX2 tyX2_ok nmX2 hown hK.1 hR injT hS (a := off 0 + q1) (Nat.lt_of_lt_of_le (Nat.add_lt_add_left (show q1 < 123 from (fk_X3_orderOf  hq1).1) _) (off_lt (by decide))) (Nat.add_assoc _ _ _).symm ((bT_S (by decide) (show q1 < 123 from (fk_X3_orderOf  hq1).1)).trans (bS_2 (fk_X3_orderOf  hq1).2)) rfl 5 (by decide) lk172 (fun _ h9 => h9) rfl (by decide +kernel) rfl rfl (Nat.le_of_ble_eq_true rfl) (j := 5) (x := 1) (by rw [(bT_S (by decide) (show q1 < 123 from (fk_X3_orderOf  hq1).1)).trans (bS_2 (fk_X3_orderOf  hq1).2)]; rfl) dX8_endOrder_31 (fun H locs hR hS => ?_)
      obtain ⟨X2, eX2⟩ : ∃ Y : gM, Y = updM X1 (off 0 + q1) 5 1 := ⟨_, rfl⟩
      rw [← eX2] at hR
      refine lv_aload_n hx hb dX8_endOrder_34 rfl (lv_at hl 0 rfl) ?_
      refine va_get (D := D) (ci := 2) (v := .int (vw 0 X2 q1 3)) (C := RX2) (T := TX2) (N := 6) hx hb hts inX2 hown hK.1 (SR.mk1 (TR.st hR (by decide)) (c := q1) (fk_X3_orderOf  hq1).1 (bS_2 (fk_X3_orderOf  hq1).2)) 0 rfl rfl 3 (by decide) lk178 (fun _ h9 => h9) rfl dX8_endOrder_35 ?_
      exact gm_iret hx hb hr hlocks hS (by (try simp only [p_X8_endOrder, ↓if_pos c_2, ↓gOpt_s hq1, ← eX1, ← eX2]); (try rfl)) (by (try simp only [p_X8_endOrder, ↓if_pos c_2, ↓gOpt_s hq1, ← eX1, ← eX2]); exact hR) dX8_endOrder_38
    · refine lv_bipush (v := (-5)) hx hb dX8_endOrder_22 (by decide) ?_
      exact gm_iret hx hb hr hlocks hS (by (try simp only [p_X8_endOrder, ↓if_neg c_2, ↓gOpt_s hq1]); (try rfl)) (by (try simp only [p_X8_endOrder, ↓if_neg c_2, ↓gOpt_s hq1]); exact hR) dX8_endOrder_24
def lf_X8_tick_28 (a1 : Int32) (y_2 : Int32) (K : (gM) → (Nat) → (Int32 × gM)) : Nat → (gM) → (Nat) → (Int32 × gM)
  | 0, Z, k_3 => K Z k_3
  | n + 1, Z, k_3 =>
    if a1 ≤ nI k_3 then
      K Z k_3
    else
      let X1 := putS Z 0 (p_X3_passTick (vw 0 Z))
      lf_X8_tick_28 a1 y_2 K n X1 (k_3 + 1)
def p_X8_tick (X : gM) (a1 : Int32) : Int32 × gM :=
  if f_X8_within a1 1 60 = 0 then
    ((-2), X)
  else
    let X1 := p_X8_recordState X
    lf_X8_tick_28 a1 (f_X3_countIn (vw 0 X1) 3) (fun X2 k_3w2 =>
          ((f_X3_countIn (vw 0 X2) 3) - (f_X3_countIn (vw 0 X1) 3), X2)) 2147483648 X1 0
set_option maxHeartbeats 4000000 in
set_option maxRecDepth 100000 in
theorem lp_X8_tick_28 {p : Program} {l : Launch} {e : Env} {s : State} {m : MethodId} {args : Array Value} {below : List Frame} {meth : Method} {c0 : Code} {D : va_G} {cy : Nat → ClassId} (C : gCtx cX8_tick 4 (some .int) RX8 wsX8_tick D cy p s m args meth c0) (β : Nat) (a1 : Int32) (y_2 : Int32) 
    (K : (gM) → (Nat) → (Int32 × gM)) (hexit : ∀ (Z : gM) (k_3 : Nat), k_3 ≤ 2147483647 → ∀ (H : Heap) (locs : List Loc) (ls : Array Slot), TR D cy β Z H → va_S (TA β) s.heap H locs → lv_has ls 4 [(0, .ref β), (1, .int a1), (2, .int y_2), (3, .int (nI k_3))] → W p l e { frames := 6, cells := 0, slots := 0, locals := 139 } s m args below meth c0 H locs 0 0 (MQ below (gQi (K Z k_3).1 (TR D cy β (K Z k_3).2) (TA β)) args s 0 0 (TA β)) (F0 m 46 ls [])) :
    ∀ (n : Nat) (Z : gM) (k_3 : Nat), k_3 ≤ 2147483647 → 2147483647 < k_3 + n → ∀ (H : Heap) (locs : List Loc) (ls : Array Slot), TR D cy β Z H → va_S (TA β) s.heap H locs → lv_has ls 4 [(0, .ref β), (1, .int a1), (2, .int y_2), (3, .int (nI k_3))] → W p l e { frames := 6, cells := 0, slots := 0, locals := 139 } s m args below meth c0 H locs 0 0 (MQ below (gQi (lf_X8_tick_28 a1 y_2 K n Z k_3).1 (TR D cy β (lf_X8_tick_28 a1 y_2 K n Z k_3).2) (TA β)) args s 0 0 (TA β)) (F0 m 28 ls []) := by
  obtain ⟨hx, hb, hr, hts, hown, hlocks, hml, hK⟩ := C
  have lk10 := hts (.fieldLink RX8 10 "MercuryLine" "now" "LMercuryLine$State;") (by decide +kernel)
  have inX8 : ∀ w ∈ u_ws RX8 TX8 8, w ∈ wsX8_tick := by decide +kernel
  intro n
  induction n with
  | zero =>
    intro Z k_3 hb_3 hme
    exact absurd hme (by omega)
  | succ n ih =>
    intro Z k_3 hb_3 hme H locs ls hR hS hl
    refine lv_iload_n hx hb dX8_tick_28 rfl (lv_at hl 3 rfl) ?_
    refine lv_iload_n hx hb dX8_tick_29 rfl (lv_at hl 1 rfl) ?_
    refine lv_icmp_ge (tgt := 46) hx hb dX8_tick_30 (by decide) (fun c_1 => ?_) (fun c_1 => ?_)
    · refine gm_q (Q2 := MQ below (gQi (K Z k_3).1 (TR D cy β (K Z k_3).2) (TA β)) args s 0 0 (TA β)) (by simp only [lf_X8_tick_28, ↓if_pos c_1]) ?_
      exact hexit Z k_3 hb_3  _ _ _ hR hS (lv_sub hl [0, 1, 2, 3] rfl)
    · have lt_2 : k_3 < 2147483647 := g_big (Nat.lt_of_le_of_lt hb_3 (by decide)) c_1
      refine lv_aload_n hx hb dX8_tick_33 rfl (lv_at hl 0 rfl) ?_
      refine va_get (D := D) (ci := 8) (v := .ref (β + off 0)) (C := RX8) (T := TX8) (N := 8) hx hb hts inX8 hown hK.1 (TR.mk0 hR) 0 rfl rfl 0 (by decide) lk10 (fun _ h9 => h9) rfl dX8_tick_34 ?_
      refine gm_cv (gm_call (As := []) (rest := []) (ci := 3) (q := (RX3, TX3, 14)) ⟨hx, hb, hml, hown, hts⟩ hK (c_X3_passTick l D cy (β + off 0) (vw 0 Z)) (cwV 0 hts gX8_tick_X3_passTick rfl rfl rfl (by decide +kernel) ⟨Nat.le_of_ble_eq_true rfl, Nat.le_of_ble_eq_true rfl⟩) (SR.mk0 (TR.st hR (by decide))) rfl (TR.st hR (by decide)) rfl hl.1 rfl (Nat.le_of_ble_eq_true rfl) dX8_tick_37 (Nat.zero_le _) (Nat.zero_le _)) hS (TA_S (by decide)) (fun H locs hRR _ hfr hS => ?_)
      have hR := TR.mrgS hR (by decide) hRR hfr
      obtain ⟨X1, eX1⟩ : ∃ Y : gM, Y = putS Z 0 (p_X3_passTick (vw 0 Z)) := ⟨_, rfl⟩
      rw [← eX1] at hR
      refine lv_iinc (v := nI (k_3 + 1)) (lv' := [(3, .int (nI (k_3 + 1))), (0, .ref β), (1, .int a1), (2, .int y_2)]) hx hb dX8_tick_40 hl (k := 3) rfl (nI_1 _) (by decide) rfl (fun ls hl => ?_)
      refine lv_goto (tgt := 28) hx hb dX8_tick_43 (by decide) ?_
      refine gm_q (Q2 := MQ below (gQi (lf_X8_tick_28 a1 y_2 K n X1 (k_3 + 1)).1 (TR D cy β (lf_X8_tick_28 a1 y_2 K n X1 (k_3 + 1)).2) (TA β)) args s 0 0 (TA β)) (by simp only [lf_X8_tick_28, ↓if_neg c_1, ← eX1]) ?_
      exact ih X1 (k_3 + 1) lt_2 (by omega) _ _ _ hR hS (lv_sub hl [1, 2, 3, 0] rfl)
set_option maxHeartbeats 4000000 in
set_option maxRecDepth 100000 in
theorem c_X8_tick (l : Launch) (D : va_G) (cy : Nat → ClassId) (β : Nat) (X : gM) (a1 : Int32) (hh : HOK X) : Met l yX8_tick wsX8_tick ({ frames := 6, cells := 0, slots := 0, locals := 139 }) (gP [.ref β, .int a1] D cy (TR D cy β X)) (gQi (p_X8_tick X a1).1 (TR D cy β (p_X8_tick X a1).2) (TA β)) 0 0 (TA β) := by
  refine gm_met (cc := cX8_tick) (maxL := 4) (ret := (some .int)) [.ref β, .int a1] (by decide) rfl (Nat.le_of_ble_eq_true rfl) ?_
  intro p e s m args below meth c0 ls C hR hl
  obtain ⟨hx, hb, hr, hts, hown, hlocks, hml, hK⟩ := C
  have hl : lv_has ls 4 [(0, .ref β), (1, .int a1)] := hl
  have hS : va_S (TA β) s.heap s.heap [] := va_S.rf
  have lk10 := hts (.fieldLink RX8 10 "MercuryLine" "now" "LMercuryLine$State;") (by decide +kernel)
  have inX8 : ∀ w ∈ u_ws RX8 TX8 8, w ∈ wsX8_tick := by decide +kernel
  refine lv_iload_n hx hb dX8_tick_0 rfl (lv_at hl 1 rfl) ?_
  refine lv_iconst (v := 1) hx hb dX8_tick_1 (by decide) ?_
  refine lv_bipush (v := 60) hx hb dX8_tick_2 (by decide) ?_
  refine gm_ci (gm_callS (As := [.int a1, .int 1, .int 60]) (rest := []) ⟨hx, hb, hml, hown, hts⟩ hK (c_X8_within l D cy a1 1 60) (va_cwS 3 hts gX8_tick_X8_within rfl rfl rfl (by decide +kernel) ⟨Nat.le_of_ble_eq_true rfl, Nat.le_of_ble_eq_true rfl⟩) trivial rfl hl.1 rfl (Nat.le_of_ble_eq_true rfl) dX8_tick_4 (Nat.zero_le _) (Nat.zero_le _)) hS (fun _ h => h.elim) (fun H locs _ _ hfr hS => ?_)
  have hR := gRep.keep hR hfr (fun _ _ h => h)
  refine lv_if_ne (tgt := 13) hx hb dX8_tick_7 (by decide) (fun c_1 => ?_) (fun c_1 => ?_)
  · refine lv_aload_n hx hb dX8_tick_13 rfl (lv_at hl 0 rfl) ?_
    refine gm_cv (gm_call (As := []) (rest := []) (ci := 8) (q := (RX8, TX8, 8)) ⟨hx, hb, hml, hown, hts⟩ hK (c_X8_recordState l D cy β X hh) (cwV 0 hts gX8_tick_X8_recordState rfl rfl rfl (by decide +kernel) ⟨Nat.le_of_ble_eq_true rfl, Nat.le_of_ble_eq_true rfl⟩) (TR.mk0 hR) rfl hR rfl hl.1 rfl (Nat.le_of_ble_eq_true rfl) dX8_tick_14 (Nat.zero_le _) (Nat.zero_le _)) hS (fun _ h => h) (fun H locs hR _ _ hS => ?_)
    obtain ⟨X1, eX1⟩ : ∃ Y : gM, Y = p_X8_recordState X := ⟨_, rfl⟩
    rw [← eX1] at hR
    refine lv_aload_n hx hb dX8_tick_17 rfl (lv_at hl 0 rfl) ?_
    refine va_get (D := D) (ci := 8) (v := .ref (β + off 0)) (C := RX8) (T := TX8) (N := 8) hx hb hts inX8 hown hK.1 (TR.mk0 hR) 0 rfl rfl 0 (by decide) lk10 (fun _ h9 => h9) rfl dX8_tick_18 ?_
    refine lv_iconst (v := 3) hx hb dX8_tick_21 (by decide) ?_
    refine gm_ci (gm_call (As := [.int 3]) (rest := []) (ci := 3) (q := (RX3, TX3, 14)) ⟨hx, hb, hml, hown, hts⟩ hK (c_X3_countIn l D cy (β + off 0) (vw 0 X1) 3) (cwV 1 hts gX8_tick_X3_countIn rfl rfl rfl (by decide +kernel) ⟨Nat.le_of_ble_eq_true rfl, Nat.le_of_ble_eq_true rfl⟩) (SR.mk0 (TR.st hR (by decide))) rfl (TR.st hR (by decide)) rfl hl.1 rfl (Nat.le_of_ble_eq_true rfl) dX8_tick_22 (Nat.zero_le _) (Nat.zero_le _)) hS (fun _ h => h.elim) (fun H locs _ _ hfr hS => ?_)
    have hR := gRep.keep hR hfr (fun _ _ h => h)
    refine lv_istore_n (lv' := [(2, .int (f_X3_countIn (vw 0 X1) 3)), (0, .ref β), (1, .int a1)]) hx hb dX8_tick_25 rfl hl (by decide) rfl (fun ls hl => ?_)
    refine lv_iconst (v := 0) hx hb dX8_tick_26 (by decide) ?_
    refine lv_istore_n (lv' := [(3, .int 0), (2, .int (f_X3_countIn (vw 0 X1) 3)), (0, .ref β), (1, .int a1)]) hx hb dX8_tick_27 rfl hl (by decide) rfl (fun ls hl => ?_)
    refine gm_q (Q2 := MQ below (gQi (lf_X8_tick_28 a1 (f_X3_countIn (vw 0 X1) 3) (fun X2 k_3w2 =>
          ((f_X3_countIn (vw 0 X2) 3) - (f_X3_countIn (vw 0 X1) 3), X2)) 2147483648 X1 0).1 (TR D cy β (lf_X8_tick_28 a1 (f_X3_countIn (vw 0 X1) 3) (fun X2 k_3w2 =>
          ((f_X3_countIn (vw 0 X2) 3) - (f_X3_countIn (vw 0 X1) 3), X2)) 2147483648 X1 0).2) (TA β)) args s 0 0 (TA β)) (by simp only [p_X8_tick, ↓if_neg c_1, ← eX1]) ?_
    refine lp_X8_tick_28 ⟨hx, hb, hr, hts, hown, hlocks, hml, hK⟩ β a1 (f_X3_countIn (vw 0 X1) 3)  _ (fun X2 k_3w2 hbk_3w2 H locs ls hR hS hl => ?_) 2147483648 X1 0 (by decide) (by omega) _ _ _ hR hS (lv_sub hl [2, 3, 1, 0] rfl)
    refine lv_aload_n hx hb dX8_tick_46 rfl (lv_at hl 0 rfl) ?_
    refine va_get (D := D) (ci := 8) (v := .ref (β + off 0)) (C := RX8) (T := TX8) (N := 8) hx hb hts inX8 hown hK.1 (TR.mk0 hR) 0 rfl rfl 0 (by decide) lk10 (fun _ h9 => h9) rfl dX8_tick_47 ?_
    refine lv_iconst (v := 3) hx hb dX8_tick_50 (by decide) ?_
    refine gm_ci (gm_call (As := [.int 3]) (rest := []) (ci := 3) (q := (RX3, TX3, 14)) ⟨hx, hb, hml, hown, hts⟩ hK (c_X3_countIn l D cy (β + off 0) (vw 0 X2) 3) (cwV 1 hts gX8_tick_X3_countIn rfl rfl rfl (by decide +kernel) ⟨Nat.le_of_ble_eq_true rfl, Nat.le_of_ble_eq_true rfl⟩) (SR.mk0 (TR.st hR (by decide))) rfl (TR.st hR (by decide)) rfl hl.1 rfl (Nat.le_of_ble_eq_true rfl) dX8_tick_51 (Nat.zero_le _) (Nat.zero_le _)) hS (fun _ h => h.elim) (fun H locs _ _ hfr hS => ?_)
    have hR := gRep.keep hR hfr (fun _ _ h => h)
    refine lv_iload_n hx hb dX8_tick_54 rfl (lv_at hl 2 rfl) ?_
    refine lv_isub hx hb dX8_tick_55 ?_
    exact gm_iret hx hb hr hlocks hS (by (try simp only [p_X8_tick, ↓if_neg c_1, ← eX1]); (try rfl)) (by (try simp only [p_X8_tick, ↓if_neg c_1, ← eX1]); exact hR) dX8_tick_56
  · refine lv_bipush (v := (-2)) hx hb dX8_tick_10 (by decide) ?_
    exact gm_iret hx hb hr hlocks hS (by (try simp only [p_X8_tick, ↓if_pos c_1]); (try rfl)) (by (try simp only [p_X8_tick, ↓if_pos c_1]); exact hR) dX8_tick_12
