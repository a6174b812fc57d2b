def p_X8_undo (X : gM) : Int32 × gM :=
  if X 0 6 < 1 then
    ((-5), X)
  else
    if X 0 6 ≤ 4 then
      let X1 := updM X 0 6 ((X 0 6) - 1)
      let X2 := putS X1 0 (vw ((X1 370 ((X1 0 6).toNatClampNeg)).toNatClampNeg) X1)
      (X2 0 6, X2)
    else
      ((-5), X)
set_option maxHeartbeats 4000000 in
set_option maxRecDepth 100000 in
theorem c_X8_undo (l : Launch) (D : va_G) (cy : Nat → ClassId) (β : Nat) (X : gM) (hh : HOK X) : Met l yX8_undo wsX8_undo ({ frames := 4, cells := 0, slots := 0, locals := 91 }) (gP [.ref β] D cy (TR D cy β X)) (gQi (p_X8_undo X).1 (TR D cy β (p_X8_undo X).2) (TA β)) 0 0 (TA β) := by
  refine gm_met (cc := cX8_undo) (maxL := 1) (ret := (some .int)) [.ref β] (by decide) rfl (Nat.le_of_ble_eq_true rfl) ?_
  intro p e s m args below meth c0 ls C hR hl
  obtain ⟨hx, hb, hr, hts, hown, hlocks, hml, hK⟩ := C
  have hl : lv_has ls 1 [(0, .ref β)] := hl
  have hS : va_S (TA β) s.heap s.heap [] := va_S.rf
  have lk210 := hts (.fieldLink RX8 210 "MercuryLine" "recorded" "I") (by decide +kernel)
  have inX8 : ∀ w ∈ u_ws RX8 TX8 8, w ∈ wsX8_undo := by decide +kernel
  have lk22 := hts (.fieldLink RX8 22 "MercuryLine" "history" "[LMercuryLine$State;") (by decide +kernel)
  have lk10 := hts (.fieldLink RX8 10 "MercuryLine" "now" "LMercuryLine$State;") (by decide +kernel)
  refine lv_aload_n hx hb dX8_undo_0 rfl (lv_at hl 0 rfl) ?_
  refine va_get (D := D) (ci := 8) (v := .int (X 0 6)) (C := RX8) (T := TX8) (N := 8) hx hb hts inX8 hown hK.1 (TR.mk0 hR) 0 rfl rfl 6 (by decide) lk210 (fun _ h9 => h9) rfl dX8_undo_1 ?_
  refine lv_iconst (v := 1) hx hb dX8_undo_4 (by decide) ?_
  refine lv_icmp_lt (tgt := 20) hx hb dX8_undo_5 (by decide) (fun c_1 => ?_) (fun c_1 => ?_)
  · refine lv_bipush (v := (-5)) hx hb dX8_undo_20 (by decide) ?_
    exact gm_iret hx hb hr hlocks hS (by (try simp only [p_X8_undo, ↓if_pos c_1]); (try rfl)) (by (try simp only [p_X8_undo, ↓if_pos c_1]); exact hR) dX8_undo_22
  · refine lv_aload_n hx hb dX8_undo_8 rfl (lv_at hl 0 rfl) ?_
    refine va_get (D := D) (ci := 8) (v := .int (X 0 6)) (C := RX8) (T := TX8) (N := 8) hx hb hts inX8 hown hK.1 (TR.mk0 hR) 0 rfl rfl 6 (by decide) lk210 (fun _ h9 => h9) rfl dX8_undo_9 ?_
    refine lv_aload_n hx hb dX8_undo_12 rfl (lv_at hl 0 rfl) ?_
    refine va_get (D := D) (ci := 8) (v := .ref (β + 370)) (C := RX8) (T := TX8) (N := 8) hx hb hts inX8 hown hK.1 (TR.mk0 hR) 0 rfl rfl 3 (by decide) lk22 (fun _ h9 => h9) rfl dX8_undo_13 ?_
    refine va_alen (v := 4) hx hb hK.1 (TR.mkh hR) 0 3 rfl rfl rfl dX8_undo_16 ?_
    refine lv_icmp_le (tgt := 23) hx hb dX8_undo_17 (by decide) (fun c_2 => ?_) (fun c_2 => ?_)
    · refine lv_aload_n hx hb dX8_undo_23 rfl (lv_at hl 0 rfl) ?_
      refine lv_dup hx hb dX8_undo_24 rfl ?_
      refine va_get (D := D) (ci := 8) (v := .int (X 0 6)) (C := RX8) (T := TX8) (N := 8) hx hb hts inX8 hown hK.1 (TR.mk0 hR) 0 rfl rfl 6 (by decide) lk210 (fun _ h9 => h9) rfl dX8_undo_25 ?_
      refine lv_iconst (v := 1) hx hb dX8_undo_28 (by decide) ?_
      refine lv_isub hx hb dX8_undo_29 ?_
      refine gm_put (v := .int ((X 0 6) - 1)) (ty := .int) (ci := 8) (C := RX8) (T := TX8) (N := 8) hx hb hts inX8 tyX8 tyX8_ok nmX8 hown hK.1 hR injT hS (a := 0) (by decide) rfl (bT_0) rfl 6 (by decide) lk210 (fun _ h9 => h9) rfl (by decide +kernel) rfl rfl (Nat.le_of_ble_eq_true rfl) (j := 6) (x := (X 0 6) - 1) (by rw [bT_0]; rfl) dX8_undo_30 (fun H locs hR hS => ?_)
      obtain ⟨X1, eX1⟩ : ∃ Y : gM, Y = updM X 0 6 ((X 0 6) - 1) := ⟨_, rfl⟩
      rw [← eX1] at hR
      refine lv_aload_n hx hb dX8_undo_33 rfl (lv_at hl 0 rfl) ?_
      refine va_get (D := D) (ci := 8) (v := .ref (β + off 0)) (C := RX8) (T := TX8) (N := 8) hx hb hts inX8 hown hK.1 (TR.mk0 hR) 0 rfl rfl 0 (by decide) lk10 (fun _ h9 => h9) rfl dX8_undo_34 ?_
      refine lv_aload_n hx hb dX8_undo_37 rfl (lv_at hl 0 rfl) ?_
      refine va_get (D := D) (ci := 8) (v := .ref (β + 370)) (C := RX8) (T := TX8) (N := 8) hx hb hts inX8 hown hK.1 (TR.mk0 hR) 0 rfl rfl 3 (by decide) lk22 (fun _ h9 => h9) rfl dX8_undo_38 ?_
      refine lv_aload_n hx hb dX8_undo_41 rfl (lv_at hl 0 rfl) ?_
      refine va_get (D := D) (ci := 8) (v := .int (X1 0 6)) (C := RX8) (T := TX8) (N := 8) hx hb hts inX8 hown hK.1 (TR.mk0 hR) 0 rfl rfl 6 (by decide) lk210 (fun _ h9 => h9) rfl dX8_undo_42 ?_
      refine gm_aald (b := (β + off ((X1 370 ((X1 0 6).toNatClampNeg)).toNatClampNeg))) hx hb hK.1 (TR.mkh hR) 3 rfl (g_m1 c_1 c_2 (by rw [eX1]; rfl)) rfl dX8_undo_45 ?_
      refine gm_cv (gm_call (As := [.ref (β + off ((X1 370 ((X1 0 6).toNatClampNeg)).toNatClampNeg))]) (rest := []) (ci := 3) (q := (RX3, TX3, 14)) ⟨hx, hb, hml, hown, hts⟩ hK (c_X3_copy l D cy (β + off 0) (β + off ((X1 370 ((X1 0 6).toNatClampNeg)).toNatClampNeg)) (vw 0 X1) (vw ((X1 370 ((X1 0 6).toNatClampNeg)).toNatClampNeg) X1) (by have q9 := off_ne (j := 0) (k := ((X1 370 ((X1 0 6).toNatClampNeg)).toNatClampNeg)) (by have q8 := ((HOK_row hh (by rw [eX1]; simp [updM]) : HOK X1) ((X1 0 6).toNatClampNeg) (g_vl (g_m1 c_1 c_2 (by rw [eX1]; rfl)))).1; omega); omega)) (cwV 1 hts gX8_undo_X3_copyFrom rfl rfl rfl (by decide +kernel) ⟨Nat.le_of_ble_eq_true rfl, Nat.le_of_ble_eq_true rfl⟩) (SR.mk0 (TR.st hR (by decide))) rfl ⟨TR.st hR (by decide), TR.st hR ((HOK_row hh (by rw [eX1]; simp [updM]) : HOK X1) _ (g_vl (g_m1 c_1 c_2 (by rw [eX1]; rfl)))).2⟩ rfl hl.1 rfl (Nat.le_of_ble_eq_true rfl) dX8_undo_46 (Nat.zero_le _) (Nat.zero_le _)) hS (TA_D (by decide) ((HOK_row hh (by rw [eX1]; simp [updM]) : HOK X1) _ (g_vl (g_m1 c_1 c_2 (by rw [eX1]; rfl)))).2) (fun H locs hRR _ hfr hS => ?_)
      have hR := TR.mrgD hR (by decide) ((HOK_row hh (by rw [eX1]; simp [updM]) : HOK X1) _ (g_vl (g_m1 c_1 c_2 (by rw [eX1]; rfl)))).2 hRR (by have q8 := ((HOK_row hh (by rw [eX1]; simp [updM]) : HOK X1) ((X1 0 6).toNatClampNeg) (g_vl (g_m1 c_1 c_2 (by rw [eX1]; rfl)))).1; omega) hfr
      obtain ⟨X2, eX2⟩ : ∃ Y : gM, Y = putS X1 0 (vw ((X1 370 ((X1 0 6).toNatClampNeg)).toNatClampNeg) X1) := ⟨_, rfl⟩
      rw [← eX2] at hR
      refine lv_aload_n hx hb dX8_undo_49 rfl (lv_at hl 0 rfl) ?_
      refine va_get (D := D) (ci := 8) (v := .int (X2 0 6)) (C := RX8) (T := TX8) (N := 8) hx hb hts inX8 hown hK.1 (TR.mk0 hR) 0 rfl rfl 6 (by decide) lk210 (fun _ h9 => h9) rfl dX8_undo_50 ?_
      exact gm_iret hx hb hr hlocks hS (by (try simp only [p_X8_undo, ↓if_neg c_1, ↓if_pos c_2, ← eX1, ← eX2]); (try rfl)) (by (try simp only [p_X8_undo, ↓if_neg c_1, ↓if_pos c_2, ← eX1, ← eX2]); exact hR) dX8_undo_53
    · refine lv_bipush (v := (-5)) hx hb dX8_undo_20 (by decide) ?_
      exact gm_iret hx hb hr hlocks hS (by (try simp only [p_X8_undo, ↓if_neg c_1, ↓if_neg c_2]); (try rfl)) (by (try simp only [p_X8_undo, ↓if_neg c_1, ↓if_neg c_2]); exact hR) dX8_undo_22
def p_X8_keep (X : gM) : Int32 × gM :=
  let X1 := putS X 1 (vw 0 X)
  let X2 := updM X1 0 7 1
  (vw 0 X2 0 7, X2)
set_option maxHeartbeats 4000000 in
set_option maxRecDepth 100000 in
theorem c_X8_keep (l : Launch) (D : va_G) (cy : Nat → ClassId) (β : Nat) (X : gM)  : Met l yX8_keep wsX8_keep ({ frames := 4, cells := 0, slots := 0, locals := 91 }) (gP [.ref β] D cy (TR D cy β X)) (gQi (p_X8_keep X).1 (TR D cy β (p_X8_keep X).2) (TA β)) 0 0 (TA β) := by
  refine gm_met (cc := cX8_keep) (maxL := 1) (ret := (some .int)) [.ref β] (by decide) rfl (Nat.le_of_ble_eq_true rfl) ?_
  intro p e s m args below meth c0 ls C hR hl
  obtain ⟨hx, hb, hr, hts, hown, hlocks, hml, hK⟩ := C
  have hl : lv_has ls 1 [(0, .ref β)] := hl
  have hS : va_S (TA β) s.heap s.heap [] := va_S.rf
  have lk16 := hts (.fieldLink RX8 16 "MercuryLine" "kept" "LMercuryLine$State;") (by decide +kernel)
  have inX8 : ∀ w ∈ u_ws RX8 TX8 8, w ∈ wsX8_keep := by decide +kernel
  have lk10 := hts (.fieldLink RX8 10 "MercuryLine" "now" "LMercuryLine$State;") (by decide +kernel)
  have lk217 := hts (.fieldLink RX8 217 "MercuryLine" "hasKept" "Z") (by decide +kernel)
  have lk220 := hts (.fieldLink RX8 220 "MercuryLine$State" "tick" "I") (by decide +kernel)
  have inX3 : ∀ w ∈ u_ws RX3 TX3 14, w ∈ wsX8_keep := by decide +kernel
  refine lv_aload_n hx hb dX8_keep_0 rfl (lv_at hl 0 rfl) ?_
  refine va_get (D := D) (ci := 8) (v := .ref (β + off 1)) (C := RX8) (T := TX8) (N := 8) hx hb hts inX8 hown hK.1 (TR.mk0 hR) 0 rfl rfl 1 (by decide) lk16 (fun _ h9 => h9) rfl dX8_keep_1 ?_
  refine lv_aload_n hx hb dX8_keep_4 rfl (lv_at hl 0 rfl) ?_
  refine va_get (D := D) (ci := 8) (v := .ref (β + off 0)) (C := RX8) (T := TX8) (N := 8) hx hb hts inX8 hown hK.1 (TR.mk0 hR) 0 rfl rfl 0 (by decide) lk10 (fun _ h9 => h9) rfl dX8_keep_5 ?_
  refine gm_cv (gm_call (As := [.ref (β + off 0)]) (rest := []) (ci := 3) (q := (RX3, TX3, 14)) ⟨hx, hb, hml, hown, hts⟩ hK (c_X3_copy l D cy (β + off 1) (β + off 0) (vw 1 X) (vw 0 X) (by have q9 := off_ne (j := 1) (k := 0) (show (1 : Nat) ≠ 0 by decide); omega)) (cwV 1 hts gX8_keep_X3_copyFrom rfl rfl rfl (by decide +kernel) ⟨Nat.le_of_ble_eq_true rfl, Nat.le_of_ble_eq_true rfl⟩) (SR.mk0 (TR.st hR (by decide))) rfl ⟨TR.st hR (by decide), TR.st hR (by decide)⟩ rfl hl.1 rfl (Nat.le_of_ble_eq_true rfl) dX8_keep_8 (Nat.zero_le _) (Nat.zero_le _)) hS (TA_D (by decide) (by decide)) (fun H locs hRR _ hfr hS => ?_)
  have hR := TR.mrgD hR (by decide) (by decide) hRR (show (1 : Nat) ≠ 0 by decide) hfr
  obtain ⟨X1, eX1⟩ : ∃ Y : gM, Y = putS X 1 (vw 0 X) := ⟨_, rfl⟩
  rw [← eX1] at hR
  refine lv_aload_n hx hb dX8_keep_11 rfl (lv_at hl 0 rfl) ?_
  refine lv_iconst (v := 1) hx hb dX8_keep_12 (by decide) ?_
  refine gm_put (v := .int 1) (ty := .boolean) (ci := 8) (C := RX8) (T := TX8) (N := 8) hx hb hts inX8 tyX8 tyX8_ok nmX8 hown hK.1 hR injT hS (a := 0) (by decide) rfl (bT_0) rfl 7 (by decide) lk217 (fun _ h9 => h9) rfl (by decide +kernel) rfl rfl (Nat.le_of_ble_eq_true rfl) (j := 7) (x := 1) (by rw [bT_0]; rfl) dX8_keep_13 (fun H locs hR hS => ?_)
  obtain ⟨X2, eX2⟩ : ∃ Y : gM, Y = updM X1 0 7 1 := ⟨_, rfl⟩
  rw [← eX2] at hR
  refine lv_aload_n hx hb dX8_keep_16 rfl (lv_at hl 0 rfl) ?_
  refine va_get (D := D) (ci := 8) (v := .ref (β + off 0)) (C := RX8) (T := TX8) (N := 8) hx hb hts inX8 hown hK.1 (TR.mk0 hR) 0 rfl rfl 0 (by decide) lk10 (fun _ h9 => h9) rfl dX8_keep_17 ?_
  refine va_get (D := D) (ci := 3) (v := .int (vw 0 X2 0 7)) (C := RX3) (T := TX3) (N := 14) hx hb hts inX3 hown hK.1 (SR.mk0 (TR.st hR (by decide))) 0 rfl rfl 7 (by decide) lk220 (fun _ h9 => h9) rfl dX8_keep_20 ?_
  exact gm_iret hx hb hr hlocks hS (by (try simp only [p_X8_keep, ← eX1, ← eX2]); (try rfl)) (by (try simp only [p_X8_keep, ← eX1, ← eX2]); exact hR) dX8_keep_23
def p_X8_restore (X : gM) : Int32 × gM :=
  if X 0 7 = 0 then
    ((-5), X)
  else
    let X1 := p_X8_recordState X
    let X2 := putS X1 0 (vw 1 X1)
    (vw 0 X2 0 7, X2)
set_option maxHeartbeats 4000000 in
set_option maxRecDepth 100000 in
theorem c_X8_restore (l : Launch) (D : va_G) (cy : Nat → ClassId) (β : Nat) (X : gM) (hh : HOK X) : Met l yX8_restore wsX8_restore ({ frames := 5, cells := 0, slots := 0, locals := 111 }) (gP [.ref β] D cy (TR D cy β X)) (gQi (p_X8_restore X).1 (TR D cy β (p_X8_restore X).2) (TA β)) 0 0 (TA β) := by
  refine gm_met (cc := cX8_restore) (maxL := 1) (ret := (some .int)) [.ref β] (by decide) rfl (Nat.le_of_ble_eq_true rfl) ?_
  intro p e s m args below meth c0 ls C hR hl
  obtain ⟨hx, hb, hr, hts, hown, hlocks, hml, hK⟩ := C
  have hl : lv_has ls 1 [(0, .ref β)] := hl
  have hS : va_S (TA β) s.heap s.heap [] := va_S.rf
  have lk217 := hts (.fieldLink RX8 217 "MercuryLine" "hasKept" "Z") (by decide +kernel)
  have inX8 : ∀ w ∈ u_ws RX8 TX8 8, w ∈ wsX8_restore := by decide +kernel
  have lk10 := hts (.fieldLink RX8 10 "MercuryLine" "now" "LMercuryLine$State;") (by decide +kernel)
  have lk16 := hts (.fieldLink RX8 16 "MercuryLine" "kept" "LMercuryLine$State;") (by decide +kernel)
  have lk220 := hts (.fieldLink RX8 220 "MercuryLine$State" "tick" "I") (by decide +kernel)
  have inX3 : ∀ w ∈ u_ws RX3 TX3 14, w ∈ wsX8_restore := by decide +kernel
  refine lv_aload_n hx hb dX8_restore_0 rfl (lv_at hl 0 rfl) ?_
  refine va_get (D := D) (ci := 8) (v := .int (X 0 7)) (C := RX8) (T := TX8) (N := 8) hx hb hts inX8 hown hK.1 (TR.mk0 hR) 0 rfl rfl 7 (by decide) lk217 (fun _ h9 => h9) rfl dX8_restore_1 ?_
  refine lv_if_ne (tgt := 10) hx hb dX8_restore_4 (by decide) (fun c_1 => ?_) (fun c_1 => ?_)
  · refine lv_aload_n hx hb dX8_restore_10 rfl (lv_at hl 0 rfl) ?_
    refine gm_cv (gm_call (As := []) (rest := []) (ci := 8) (q := (RX8, TX8, 8)) ⟨hx, hb, hml, hown, hts⟩ hK (c_X8_recordState l D cy β X hh) (cwV 0 hts gX8_restore_X8_recordState rfl rfl rfl (by decide +kernel) ⟨Nat.le_of_ble_eq_true rfl, Nat.le_of_ble_eq_true rfl⟩) (TR.mk0 hR) rfl hR rfl hl.1 rfl (Nat.le_of_ble_eq_true rfl) dX8_restore_11 (Nat.zero_le _) (Nat.zero_le _)) hS (fun _ h => h) (fun H locs hR _ _ hS => ?_)
    obtain ⟨X1, eX1⟩ : ∃ Y : gM, Y = p_X8_recordState X := ⟨_, rfl⟩
    rw [← eX1] at hR
    refine lv_aload_n hx hb dX8_restore_14 rfl (lv_at hl 0 rfl) ?_
    refine va_get (D := D) (ci := 8) (v := .ref (β + off 0)) (C := RX8) (T := TX8) (N := 8) hx hb hts inX8 hown hK.1 (TR.mk0 hR) 0 rfl rfl 0 (by decide) lk10 (fun _ h9 => h9) rfl dX8_restore_15 ?_
    refine lv_aload_n hx hb dX8_restore_18 rfl (lv_at hl 0 rfl) ?_
    refine va_get (D := D) (ci := 8) (v := .ref (β + off 1)) (C := RX8) (T := TX8) (N := 8) hx hb hts inX8 hown hK.1 (TR.mk0 hR) 0 rfl rfl 1 (by decide) lk16 (fun _ h9 => h9) rfl dX8_restore_19 ?_
    refine gm_cv (gm_call (As := [.ref (β + off 1)]) (rest := []) (ci := 3) (q := (RX3, TX3, 14)) ⟨hx, hb, hml, hown, hts⟩ hK (c_X3_copy l D cy (β + off 0) (β + off 1) (vw 0 X1) (vw 1 X1) (by have q9 := off_ne (j := 0) (k := 1) (show (0 : Nat) ≠ 1 by decide); omega)) (cwV 1 hts gX8_restore_X3_copyFrom rfl rfl rfl (by decide +kernel) ⟨Nat.le_of_ble_eq_true rfl, Nat.le_of_ble_eq_true rfl⟩) (SR.mk0 (TR.st hR (by decide))) rfl ⟨TR.st hR (by decide), TR.st hR (by decide)⟩ rfl hl.1 rfl (Nat.le_of_ble_eq_true rfl) dX8_restore_22 (Nat.zero_le _) (Nat.zero_le _)) hS (TA_D (by decide) (by decide)) (fun H locs hRR _ hfr hS => ?_)
    have hR := TR.mrgD hR (by decide) (by decide) hRR (show (0 : Nat) ≠ 1 by decide) hfr
    obtain ⟨X2, eX2⟩ : ∃ Y : gM, Y = putS X1 0 (vw 1 X1) := ⟨_, rfl⟩
    rw [← eX2] at hR
    refine lv_aload_n hx hb dX8_restore_25 rfl (lv_at hl 0 rfl) ?_
    refine va_get (D := D) (ci := 8) (v := .ref (β + off 0)) (C := RX8) (T := TX8) (N := 8) hx hb hts inX8 hown hK.1 (TR.mk0 hR) 0 rfl rfl 0 (by decide) lk10 (fun _ h9 => h9) rfl dX8_restore_26 ?_
    refine va_get (D := D) (ci := 3) (v := .int (vw 0 X2 0 7)) (C := RX3) (T := TX3) (N := 14) hx hb hts inX3 hown hK.1 (SR.mk0 (TR.st hR (by decide))) 0 rfl rfl 7 (by decide) lk220 (fun _ h9 => h9) rfl dX8_restore_29 ?_
    exact gm_iret hx hb hr hlocks hS (by (try simp only [p_X8_restore, ↓if_neg c_1, ← eX1, ← eX2]); (try rfl)) (by (try simp only [p_X8_restore, ↓if_neg c_1, ← eX1, ← eX2]); exact hR) dX8_restore_32
  · refine lv_bipush (v := (-5)) hx hb dX8_restore_7 (by decide) ?_
    exact gm_iret hx hb hr hlocks hS (by (try simp only [p_X8_restore, ↓if_pos c_1]); (try rfl)) (by (try simp only [p_X8_restore, ↓if_pos c_1]); exact hR) dX8_restore_9
def lf_X8_firstRefusal_2 (X : gM) (K : (Nat) → (Int32)) : Nat → (Nat) → (Int32)
  | 0, k_1 => K k_1
  | n + 1, k_1 =>
    if vx X 0 3 ≤ nI k_1 then
      K k_1
    else
      if 5 ≤ nI k_1 then
        K k_1
      else
        if f_X3_refusalOf (vw 0 X) (vx X (3 + k_1)) = 0 then
          lf_X8_firstRefusal_2 X K n (k_1 + 1)
        else
          f_X3_refusalOf (vw 0 X) (vx X (3 + k_1))
def f_X8_firstRefusal (X : gM) : Int32 :=
  lf_X8_firstRefusal_2 X (fun k_1w1 =>
        0) 6 0
set_option maxHeartbeats 4000000 in
set_option maxRecDepth 100000 in
theorem lp_X8_firstRefusal_2 {p : Program} {l : Launch} {e : Env} {s : State} {m : MethodId} {args : Array Value} {below : List Frame} {meth : Method} {c0 : Code} {D : va_G} {cy : Nat → ClassId} (C : gCtx cX8_firstRefusal 3 (some .int) RX8 wsX8_firstRefusal D cy p s m args meth c0) (β : Nat) (X : gM) 
    (K : (Nat) → (Int32)) (hexit : ∀ (k_1 : Nat), k_1 ≤ 5 → ∀ (H : Heap) (locs : List Loc) (ls : Array Slot), TR D cy β X H → va_S gNo s.heap H locs → lv_has ls 3 [(0, .ref β), (1, .int (nI k_1))] → W p l e { frames := 4, cells := 0, slots := 0, locals := 86 } s m args below meth c0 H locs 0 0 (MQ below (gQi (K k_1) (fun _ => True) gNo) args s 0 0 gNo) (F0 m 54 ls [])) :
    ∀ (n : Nat) (k_1 : Nat), k_1 ≤ 5 → 5 < k_1 + n → ∀ (H : Heap) (locs : List Loc) (ls : Array Slot), TR D cy β X H → va_S gNo s.heap H locs → lv_has ls 3 [(0, .ref β), (1, .int (nI k_1))] → W p l e { frames := 4, cells := 0, slots := 0, locals := 86 } s m args below meth c0 H locs 0 0 (MQ below (gQi (lf_X8_firstRefusal_2 X K n k_1) (fun _ => True) gNo) args s 0 0 gNo) (F0 m 2 ls []) := by
  obtain ⟨hx, hb, hr, hts, hown, hlocks, hml, hK⟩ := C
  have lk29 := hts (.fieldLink RX8 29 "MercuryLine" "text" "LMercuryLine$TicketText;") (by decide +kernel)
  have inX8 : ∀ w ∈ u_ws RX8 TX8 8, w ∈ wsX8_firstRefusal := by decide +kernel
  have lk200 := hts (.fieldLink RX8 200 "MercuryLine$TicketText" "tripCount" "I") (by decide +kernel)
  have inX6 : ∀ w ∈ u_ws RX6 TX6 5, w ∈ wsX8_firstRefusal := by decide +kernel
  have lk206 := hts (.fieldLink RX8 206 "MercuryLine$TicketText" "trips" "[LMercuryLine$Trip;") (by decide +kernel)
  have lk10 := hts (.fieldLink RX8 10 "MercuryLine" "now" "LMercuryLine$State;") (by decide +kernel)
  intro n
  induction n with
  | zero =>
    intro k_1 hb_1 hme
    exact absurd hme (by omega)
  | succ n ih =>
    intro k_1 hb_1 hme H locs ls hR hS hl
    refine lv_iload_n hx hb dX8_firstRefusal_2 rfl (lv_at hl 1 rfl) ?_
    refine lv_aload_n hx hb dX8_firstRefusal_3 rfl (lv_at hl 0 rfl) ?_
    refine va_get (D := D) (ci := 8) (v := .ref (β + 371)) (C := RX8) (T := TX8) (N := 8) hx hb hts inX8 hown hK.1 (TR.mk0 hR) 0 rfl rfl 4 (by decide) lk29 (fun _ h9 => h9) rfl dX8_firstRefusal_4 ?_
    refine va_get (D := D) (ci := 6) (v := .int (vx X 0 3)) (C := RX6) (T := TX6) (N := 5) hx hb hts inX6 hown hK.1 (XR.mk0 (TR.tx hR)) 0 rfl rfl 3 (by decide) lk200 (fun _ h9 => h9) rfl dX8_firstRefusal_7 ?_
    refine lv_icmp_ge (tgt := 54) hx hb dX8_firstRefusal_10 (by decide) (fun c_1 => ?_) (fun c_1 => ?_)
    · refine gm_q (Q2 := MQ below (gQi (K k_1) (fun _ => True) gNo) args s 0 0 gNo) (by simp only [lf_X8_firstRefusal_2, ↓if_pos c_1]) ?_
      exact hexit k_1 hb_1  _ _ _ hR hS (lv_sub hl [0, 1] rfl)
    · have lt_2 : k_1 < 2147483647 := g_big (Nat.lt_of_le_of_lt hb_1 (by decide)) c_1
      refine lv_iload_n hx hb dX8_firstRefusal_13 rfl (lv_at hl 1 rfl) ?_
      refine lv_aload_n hx hb dX8_firstRefusal_14 rfl (lv_at hl 0 rfl) ?_
      refine va_get (D := D) (ci := 8) (v := .ref (β + 371)) (C := RX8) (T := TX8) (N := 8) hx hb hts inX8 hown hK.1 (TR.mk0 hR) 0 rfl rfl 4 (by decide) lk29 (fun _ h9 => h9) rfl dX8_firstRefusal_15 ?_
      refine va_get (D := D) (ci := 6) (v := .ref (β + 371 + 2)) (C := RX6) (T := TX6) (N := 5) hx hb hts inX6 hown hK.1 (XR.mk0 (TR.tx hR)) 0 rfl rfl 1 (by decide) lk206 (fun _ h9 => h9) rfl dX8_firstRefusal_18 ?_
      refine va_alen (v := 5) hx hb hK.1 (XR.mk1 (TR.tx hR) (c := 2) (by decide) (bX_32 (by decide))) 0 6 rfl rfl rfl dX8_firstRefusal_21 ?_
      refine lv_icmp_ge (tgt := 54) hx hb dX8_firstRefusal_22 (by decide) (fun c_3 => ?_) (fun c_3 => ?_)
      · have ge_4 : 5 ≤ k_1 := g_ge2 (Nat.lt_of_le_of_lt hb_1 (by decide)) (by decide) c_3
        refine gm_q (Q2 := MQ below (gQi (K k_1) (fun _ => True) gNo) args s 0 0 gNo) (by simp only [lf_X8_firstRefusal_2, ↓if_neg c_1, ↓if_pos c_3]) ?_
        exact hexit k_1 hb_1  _ _ _ hR hS (lv_sub hl [0, 1] rfl)
      · have lt_5 : k_1 < 5 := g_lt (Nat.lt_of_le_of_lt hb_1 (by decide)) (by decide) c_3
        refine lv_aload_n hx hb dX8_firstRefusal_25 rfl (lv_at hl 0 rfl) ?_
        refine va_get (D := D) (ci := 8) (v := .ref (β + off 0)) (C := RX8) (T := TX8) (N := 8) hx hb hts inX8 hown hK.1 (TR.mk0 hR) 0 rfl rfl 0 (by decide) lk10 (fun _ h9 => h9) rfl dX8_firstRefusal_26 ?_
        refine lv_aload_n hx hb dX8_firstRefusal_29 rfl (lv_at hl 0 rfl) ?_
        refine va_get (D := D) (ci := 8) (v := .ref (β + 371)) (C := RX8) (T := TX8) (N := 8) hx hb hts inX8 hown hK.1 (TR.mk0 hR) 0 rfl rfl 4 (by decide) lk29 (fun _ h9 => h9) rfl dX8_firstRefusal_30 ?_
        refine va_get (D := D) (ci := 6) (v := .ref (β + 371 + 2)) (C := RX6) (T := TX6) (N := 5) hx hb hts inX6 hown hK.1 (XR.mk0 (TR.tx hR)) 0 rfl rfl 1 (by decide) lk206 (fun _ h9 => h9) rfl dX8_firstRefusal_33 ?_
        refine lv_iload_n hx hb dX8_firstRefusal_36 rfl (lv_at hl 1 rfl) ?_
        refine gm_aald (b := (β + 371 + (3 + k_1))) hx hb hK.1 (XR.mk1 (TR.tx hR) (c := 2) (by decide) (bX_32 (by decide))) 6 rfl (vp_in_nI lt_5 (by decide)) (by rw [nI_clamp (n := k_1) (by omega)]) dX8_firstRefusal_37 ?_
        refine gm_ci (gm_call (As := [.ref (β + 371 + (3 + k_1))]) (rest := []) (ci := 3) (q := (RX3, TX3, 14)) ⟨hx, hb, hml, hown, hts⟩ hK (c_X3_refusalOf l D cy (β + off 0) (vw 0 X) (β + 371 + (3 + k_1)) (vx X (3 + k_1))) (cwV 1 hts gX8_firstRefusal_X3_refusalOf rfl rfl rfl (by decide +kernel) ⟨Nat.le_of_ble_eq_true rfl, Nat.le_of_ble_eq_true rfl⟩) (SR.mk0 (TR.st hR (by decide))) rfl ⟨(TR.st hR (by decide)), TR.srcX hR _ (kd_X k_1 lt_5).1 (kd_X k_1 lt_5).2⟩ rfl hl.1 rfl (Nat.le_of_ble_eq_true rfl) dX8_firstRefusal_38 (Nat.zero_le _) (Nat.zero_le _)) hS (fun _ h => h.elim) (fun H locs _ _ hfr hS => ?_)
        have hR := gRep.keep hR hfr (fun _ _ h => h)
        refine lv_istore_n (lv' := [(2, .int (f_X3_refusalOf (vw 0 X) (vx X (3 + k_1)))), (0, .ref β), (1, .int (nI k_1))]) hx hb dX8_firstRefusal_41 rfl hl (by decide) rfl (fun ls hl => ?_)
        refine lv_iload_n hx hb dX8_firstRefusal_42 rfl (lv_at hl 0 rfl) ?_
        refine lv_if_eq (tgt := 48) hx hb dX8_firstRefusal_43 (by decide) (fun c_6 => ?_) (fun c_6 => ?_)
        · refine lv_iinc (v := nI (k_1 + 1)) (lv' := [(1, .int (nI (k_1 + 1))), (2, .int (f_X3_refusalOf (vw 0 X) (vx X (3 + k_1)))), (0, .ref β)]) hx hb dX8_firstRefusal_48 hl (k := 2) rfl (nI_1 _) (by decide) rfl (fun ls hl => ?_)
          refine lv_goto (tgt := 2) hx hb dX8_firstRefusal_51 (by decide) ?_
          refine gm_q (Q2 := MQ below (gQi (lf_X8_firstRefusal_2 X K n (k_1 + 1)) (fun _ => True) gNo) args s 0 0 gNo) (by simp only [lf_X8_firstRefusal_2, ↓if_neg c_1, ↓if_neg c_3, ↓if_pos c_6]) ?_
          exact ih (k_1 + 1) lt_5 (by omega) _ _ _ hR hS (lv_sub hl [2, 0] rfl)
        · refine lv_iload_n hx hb dX8_firstRefusal_46 rfl (lv_at hl 0 rfl) ?_
          exact gm_iret hx hb hr hlocks hS (by (try simp only [lf_X8_firstRefusal_2, ↓if_neg c_1, ↓if_neg c_3, ↓if_neg c_6]); (try rfl)) trivial dX8_firstRefusal_47
set_option maxHeartbeats 4000000 in
set_option maxRecDepth 100000 in
theorem c_X8_firstRefusal (l : Launch) (D : va_G) (cy : Nat → ClassId) (β : Nat) (X : gM)  : Met l yX8_firstRefusal wsX8_firstRefusal ({ frames := 4, cells := 0, slots := 0, locals := 86 }) (gP [.ref β] D cy (TR D cy β X)) (gQi (f_X8_firstRefusal X) (fun _ => True) gNo) 0 0 gNo := by
  refine gm_met (cc := cX8_firstRefusal) (maxL := 3) (ret := (some .int)) [.ref β] (by decide) rfl (Nat.le_of_ble_eq_true rfl) ?_
  intro p e s m args below meth c0 ls C hR hl
  obtain ⟨hx, hb, hr, hts, hown, hlocks, hml, hK⟩ := C
  have hl : lv_has ls 3 [(0, .ref β)] := hl
  have hS : va_S gNo s.heap s.heap [] := va_S.rf
  refine lv_iconst (v := 0) hx hb dX8_firstRefusal_0 (by decide) ?_
  refine lv_istore_n (lv' := [(1, .int 0), (0, .ref β)]) hx hb dX8_firstRefusal_1 rfl hl (by decide) rfl (fun ls hl => ?_)
  refine gm_q (Q2 := MQ below (gQi (lf_X8_firstRefusal_2 X (fun k_1w1 =>
        0) 6 0) (fun _ => True) gNo) args s 0 0 gNo) (by simp only [f_X8_firstRefusal]) ?_
  refine lp_X8_firstRefusal_2 ⟨hx, hb, hr, hts, hown, hlocks, hml, hK⟩ β X  _ (fun k_1w1 hbk_1w1 H locs ls hR hS hl => ?_) 6 0 (by decide) (by omega) _ _ _ hR hS (lv_sub hl [1, 0] rfl)
  refine lv_iconst (v := 0) hx hb dX8_firstRefusal_54 (by decide) ?_
  exact gm_iret hx hb hr hlocks hS (by (try simp only [f_X8_firstRefusal]); (try rfl)) trivial dX8_firstRefusal_55
