def p_X7_copyFrom (X : gM) (c : Nat) (v1 : Nat → Int32) : gM :=
  let X1 := updM X c 0 (v1 0)
  let X2 := updM X1 c 1 (v1 1)
  let X3 := updM X2 c 2 (v1 2)
  let X4 := updM X3 c 3 (v1 3)
  let X5 := updM X4 c 4 (v1 4)
  X5
set_option maxHeartbeats 4000000 in
set_option maxRecDepth 100000 in
theorem c_X7_copyFrom (l : Launch) (D : va_G) (cy : Nat → ClassId) (σ : Nat) (X : gM) (c : Nat) (b1 : Nat) (v1 : Nat → Int32) (hc : c < 123) (hk : kdS c = 7) (hne : b1 ≠ σ + c) : Met l yX7_copyFrom wsX7_copyFrom ({ frames := 0, cells := 0, slots := 0, locals := 0 }) (gP [.ref (σ + c), .ref b1] D cy (fun H => SR D cy σ X H ∧ gSrc D σ X H b1 v1)) (gQv (SR D cy σ (p_X7_copyFrom X c v1)) (SA σ)) 0 0 (SA σ) := by
  refine gm_met (cc := cX7_copyFrom) (maxL := 2) (ret := none) [.ref (σ + c), .ref b1] (by decide) rfl (Nat.le_of_ble_eq_true rfl) ?_
  intro p e s m args below meth c0 ls C hR hl
  obtain ⟨hx, hb, hr, hts, hown, hlocks, hml, hK⟩ := C
  obtain ⟨hR, hT⟩ := hR
  have hl : lv_has ls 2 [(0, .ref (σ + c)), (1, .ref b1)] := hl
  have hS : va_S (SA σ) s.heap s.heap [] := va_S.rf
  have lk7 := hts (.fieldLink RX7 7 "MercuryLine$Trip" "value" "I") (by decide +kernel)
  have inX7 : ∀ w ∈ u_ws RX7 TX7 5, w ∈ wsX7_copyFrom := by decide +kernel
  have lk13 := hts (.fieldLink RX7 13 "MercuryLine$Trip" "kind" "I") (by decide +kernel)
  have lk16 := hts (.fieldLink RX7 16 "MercuryLine$Trip" "from" "I") (by decide +kernel)
  have lk19 := hts (.fieldLink RX7 19 "MercuryLine$Trip" "to" "I") (by decide +kernel)
  have lk22 := hts (.fieldLink RX7 22 "MercuryLine$Trip" "laps" "I") (by decide +kernel)
  refine lv_aload_n hx hb dX7_copyFrom_0 rfl (lv_at hl 0 rfl) ?_
  refine lv_aload_n hx hb dX7_copyFrom_1 rfl (lv_at hl 1 rfl) ?_
  refine va_get (D := D) (ci := 7) (v := .int (v1 0)) (C := RX7) (T := TX7) (N := 5) hx hb hts inX7 hown hK.1 (gSrc.get (gSrc.now hT hS (fun _ _ => rfl)) hR) 0 rfl rfl 0 (by decide) lk7 (fun _ h9 => h9) rfl dX7_copyFrom_2 ?_
  refine gm_put (v := .int (v1 0)) (ty := .int) (ci := 7) (C := RX7) (T := TX7) (N := 5) hx hb hts inX7 tyX7 tyX7_ok nmX7 hown hK.1 hR injS hS (a := c) hc rfl (bS_7 hk) rfl 0 (by decide) lk7 (fun _ h9 => h9) rfl (by decide +kernel) rfl rfl (Nat.le_of_ble_eq_true rfl) (j := 0) (x := v1 0) (by rw [bS_7 hk]; rfl) dX7_copyFrom_5 (fun H locs hR hS => ?_)
  obtain ⟨X1, eX1⟩ : ∃ Y : gM, Y = updM X c 0 (v1 0) := ⟨_, rfl⟩
  rw [← eX1] at hR
  refine lv_aload_n hx hb dX7_copyFrom_8 rfl (lv_at hl 0 rfl) ?_
  refine lv_aload_n hx hb dX7_copyFrom_9 rfl (lv_at hl 1 rfl) ?_
  refine va_get (D := D) (ci := 7) (v := .int (v1 1)) (C := RX7) (T := TX7) (N := 5) hx hb hts inX7 hown hK.1 (gSrc.get (gSrc.now hT hS (fun c9 e9 => by
      have n9 : c9 ≠ c := fun z => hne (by rw [e9, z])
      simp only [eX1, updM_o n9])) hR) 0 rfl rfl 1 (by decide) lk13 (fun _ h9 => h9) rfl dX7_copyFrom_10 ?_
  refine gm_put (v := .int (v1 1)) (ty := .int) (ci := 7) (C := RX7) (T := TX7) (N := 5) hx hb hts inX7 tyX7 tyX7_ok nmX7 hown hK.1 hR injS hS (a := c) hc rfl (bS_7 hk) rfl 1 (by decide) lk13 (fun _ h9 => h9) rfl (by decide +kernel) rfl rfl (Nat.le_of_ble_eq_true rfl) (j := 1) (x := v1 1) (by rw [bS_7 hk]; rfl) dX7_copyFrom_13 (fun H locs hR hS => ?_)
  obtain ⟨X2, eX2⟩ : ∃ Y : gM, Y = updM X1 c 1 (v1 1) := ⟨_, rfl⟩
  rw [← eX2] at hR
  refine lv_aload_n hx hb dX7_copyFrom_16 rfl (lv_at hl 0 rfl) ?_
  refine lv_aload_n hx hb dX7_copyFrom_17 rfl (lv_at hl 1 rfl) ?_
  refine va_get (D := D) (ci := 7) (v := .int (v1 2)) (C := RX7) (T := TX7) (N := 5) hx hb hts inX7 hown hK.1 (gSrc.get (gSrc.now hT hS (fun c9 e9 => by
      have n9 : c9 ≠ c := fun z => hne (by rw [e9, z])
      simp only [eX2, eX1, updM_o n9])) hR) 0 rfl rfl 2 (by decide) lk16 (fun _ h9 => h9) rfl dX7_copyFrom_18 ?_
  refine gm_put (v := .int (v1 2)) (ty := .int) (ci := 7) (C := RX7) (T := TX7) (N := 5) hx hb hts inX7 tyX7 tyX7_ok nmX7 hown hK.1 hR injS hS (a := c) hc rfl (bS_7 hk) rfl 2 (by decide) lk16 (fun _ h9 => h9) rfl (by decide +kernel) rfl rfl (Nat.le_of_ble_eq_true rfl) (j := 2) (x := v1 2) (by rw [bS_7 hk]; rfl) dX7_copyFrom_21 (fun H locs hR hS => ?_)
  obtain ⟨X3, eX3⟩ : ∃ Y : gM, Y = updM X2 c 2 (v1 2) := ⟨_, rfl⟩
  rw [← eX3] at hR
  refine lv_aload_n hx hb dX7_copyFrom_24 rfl (lv_at hl 0 rfl) ?_
  refine lv_aload_n hx hb dX7_copyFrom_25 rfl (lv_at hl 1 rfl) ?_
  refine va_get (D := D) (ci := 7) (v := .int (v1 3)) (C := RX7) (T := TX7) (N := 5) hx hb hts inX7 hown hK.1 (gSrc.get (gSrc.now hT hS (fun c9 e9 => by
      have n9 : c9 ≠ c := fun z => hne (by rw [e9, z])
      simp only [eX3, eX2, eX1, updM_o n9])) hR) 0 rfl rfl 3 (by decide) lk19 (fun _ h9 => h9) rfl dX7_copyFrom_26 ?_
  refine gm_put (v := .int (v1 3)) (ty := .int) (ci := 7) (C := RX7) (T := TX7) (N := 5) hx hb hts inX7 tyX7 tyX7_ok nmX7 hown hK.1 hR injS hS (a := c) hc rfl (bS_7 hk) rfl 3 (by decide) lk19 (fun _ h9 => h9) rfl (by decide +kernel) rfl rfl (Nat.le_of_ble_eq_true rfl) (j := 3) (x := v1 3) (by rw [bS_7 hk]; rfl) dX7_copyFrom_29 (fun H locs hR hS => ?_)
  obtain ⟨X4, eX4⟩ : ∃ Y : gM, Y = updM X3 c 3 (v1 3) := ⟨_, rfl⟩
  rw [← eX4] at hR
  refine lv_aload_n hx hb dX7_copyFrom_32 rfl (lv_at hl 0 rfl) ?_
  refine lv_aload_n hx hb dX7_copyFrom_33 rfl (lv_at hl 1 rfl) ?_
  refine va_get (D := D) (ci := 7) (v := .int (v1 4)) (C := RX7) (T := TX7) (N := 5) hx hb hts inX7 hown hK.1 (gSrc.get (gSrc.now hT hS (fun c9 e9 => by
      have n9 : c9 ≠ c := fun z => hne (by rw [e9, z])
      simp only [eX4, eX3, eX2, eX1, updM_o n9])) hR) 0 rfl rfl 4 (by decide) lk22 (fun _ h9 => h9) rfl dX7_copyFrom_34 ?_
  refine gm_put (v := .int (v1 4)) (ty := .int) (ci := 7) (C := RX7) (T := TX7) (N := 5) hx hb hts inX7 tyX7 tyX7_ok nmX7 hown hK.1 hR injS hS (a := c) hc rfl (bS_7 hk) rfl 4 (by decide) lk22 (fun _ h9 => h9) rfl (by decide +kernel) rfl rfl (Nat.le_of_ble_eq_true rfl) (j := 4) (x := v1 4) (by rw [bS_7 hk]; rfl) dX7_copyFrom_37 (fun H locs hR hS => ?_)
  obtain ⟨X5, eX5⟩ : ∃ Y : gM, Y = updM X4 c 4 (v1 4) := ⟨_, rfl⟩
  rw [← eX5] at hR
  exact gm_vret hx hb hr hlocks hS (by (try simp only [p_X7_copyFrom, ← eX1, ← eX2, ← eX3, ← eX4, ← eX5]); exact hR) dX7_copyFrom_40
theorem p_X7_copyFrom_o {X : gM} {c a : Nat} {v : Nat → Int32} (h : a ≠ c) : p_X7_copyFrom X c v a = X a := by
  simp only [p_X7_copyFrom, updM_o h]
def p_X5_issue (X : gM) (c : Nat) (v1 : Nat → Int32) (a2 : Int32) (a3 : Int32) : gM :=
  let X1 := p_X7_copyFrom X (c + 1) v1
  let X2 := updM X1 c 2 (v1 4)
  let X3 := updM X2 c 3 a2
  let X4 := updM X3 c 4 0
  let X5 := updM X4 c 5 (-5)
  let X6 := updM X5 c 6 (-5)
  let X7 := updM X6 c 7 a3
  let X8 := updM X7 c 8 (-5)
  let X9 := updM X8 c 9 (-5)
  let X10 := updM X9 c 10 (-5)
  let X11 := updM X10 c 11 (-5)
  let X12 := updM X11 c 12 a3
  let X13 := updM X12 c 13 (-5)
  X13
set_option maxHeartbeats 4000000 in
set_option maxRecDepth 100000 in
theorem c_X5_issue (l : Launch) (D : va_G) (cy : Nat → ClassId) (σ : Nat) (X : gM) (c : Nat) (b1 : Nat) (v1 : Nat → Int32) (a2 : Int32) (a3 : Int32) (hc : c < 123) (hk : kdS c = 5) (hne : b1 ≠ σ + (c + 1)) : Met l yX5_issue wsX5_issue ({ frames := 1, cells := 0, slots := 0, locals := 21 }) (gP [.ref (σ + c), .ref b1, .int a2, .int a3] D cy (fun H => SR D cy σ X H ∧ gSrc D σ X H b1 v1)) (gQv (SR D cy σ (p_X5_issue X c v1 a2 a3)) (SA σ)) 0 0 (SA σ) := by
  refine gm_met (cc := cX5_issue) (maxL := 4) (ret := none) [.ref (σ + c), .ref b1, .int a2, .int a3] (by decide) rfl (Nat.le_of_ble_eq_true rfl) ?_
  intro p e s m args below meth c0 ls C hR hl
  obtain ⟨hx, hb, hr, hts, hown, hlocks, hml, hK⟩ := C
  obtain ⟨hR, hT⟩ := hR
  have hl : lv_has ls 4 [(0, .ref (σ + c)), (1, .ref b1), (2, .int a2), (3, .int a3)] := hl
  have hS : va_S (SA σ) s.heap s.heap [] := va_S.rf
  have lk12 := hts (.fieldLink RX5 12 "MercuryLine$Ticket" "trip" "LMercuryLine$Trip;") (by decide +kernel)
  have inX5 : ∀ w ∈ u_ws RX5 TX5 14, w ∈ wsX5_issue := by decide +kernel
  have lk62 := hts (.fieldLink RX5 62 "MercuryLine$Trip" "laps" "I") (by decide +kernel)
  have inX7 : ∀ w ∈ u_ws RX7 TX7 5, w ∈ wsX5_issue := by decide +kernel
  have lk26 := hts (.fieldLink RX5 26 "MercuryLine$Ticket" "lapsLeft" "I") (by decide +kernel)
  have lk29 := hts (.fieldLink RX5 29 "MercuryLine$Ticket" "paid" "I") (by decide +kernel)
  have lk32 := hts (.fieldLink RX5 32 "MercuryLine$Ticket" "state" "I") (by decide +kernel)
  have lk35 := hts (.fieldLink RX5 35 "MercuryLine$Ticket" "line" "I") (by decide +kernel)
  have lk38 := hts (.fieldLink RX5 38 "MercuryLine$Ticket" "slot" "I") (by decide +kernel)
  have lk41 := hts (.fieldLink RX5 41 "MercuryLine$Ticket" "bookedIn" "I") (by decide +kernel)
  have lk44 := hts (.fieldLink RX5 44 "MercuryLine$Ticket" "boardedIn" "I") (by decide +kernel)
  have lk47 := hts (.fieldLink RX5 47 "MercuryLine$Ticket" "endedIn" "I") (by decide +kernel)
  have lk50 := hts (.fieldLink RX5 50 "MercuryLine$Ticket" "endedAt" "I") (by decide +kernel)
  have lk53 := hts (.fieldLink RX5 53 "MercuryLine$Ticket" "shovedBy" "I") (by decide +kernel)
  have lk56 := hts (.fieldLink RX5 56 "MercuryLine$Ticket" "cameIn" "I") (by decide +kernel)
  have lk59 := hts (.fieldLink RX5 59 "MercuryLine$Ticket" "boardedAt" "I") (by decide +kernel)
  refine lv_aload_n hx hb dX5_issue_0 rfl (lv_at hl 0 rfl) ?_
  refine va_get (D := D) (ci := 5) (v := .ref (σ + (c + 1))) (C := RX5) (T := TX5) (N := 14) hx hb hts inX5 hown hK.1 (SR.mk1 hR (c := c) hc (bS_5 hk)) 0 rfl rfl 1 (by decide) lk12 (fun _ h9 => h9) rfl dX5_issue_1 ?_
  refine lv_aload_n hx hb dX5_issue_4 rfl (lv_at hl 1 rfl) ?_
  refine gm_cv (gm_call (As := [.ref b1]) (rest := []) (ci := 7) (q := (RX7, TX7, 5)) ⟨hx, hb, hml, hown, hts⟩ hK (c_X7_copyFrom l D cy σ X (c + 1) b1 v1 (kd_5 c hc hk).1 (kd_5 c hc hk).2 hne) (cwV 1 hts gX5_issue_X7_copyFrom rfl rfl rfl (by decide +kernel) ⟨Nat.le_of_ble_eq_true rfl, Nat.le_of_ble_eq_true rfl⟩) (SR.mk1 hR (c := c + 1) (kd_5 c hc hk).1 (bS_7 (kd_5 c hc hk).2)) rfl ⟨hR, (gSrc.now hT hS (fun _ _ => rfl))⟩ rfl hl.1 rfl (Nat.le_of_ble_eq_true rfl) dX5_issue_5 (Nat.zero_le _) (Nat.zero_le _)) hS (fun _ h => h) (fun H locs hR _ _ hS => ?_)
  obtain ⟨X1, eX1⟩ : ∃ Y : gM, Y = p_X7_copyFrom X (c + 1) v1 := ⟨_, rfl⟩
  rw [← eX1] at hR
  refine lv_aload_n hx hb dX5_issue_8 rfl (lv_at hl 0 rfl) ?_
  refine lv_aload_n hx hb dX5_issue_9 rfl (lv_at hl 1 rfl) ?_
  refine va_get (D := D) (ci := 7) (v := .int (v1 4)) (C := RX7) (T := TX7) (N := 5) hx hb hts inX7 hown hK.1 (gSrc.get (gSrc.now hT hS (fun c9 e9 => by
      have n9 : c9 ≠ c + 1 := fun z => hne (by rw [e9, z])
      simp only [eX1, updM_o n9, p_X7_copyFrom_o n9])) hR) 0 rfl rfl 4 (by decide) lk62 (fun _ h9 => h9) rfl dX5_issue_10 ?_
  refine gm_put (v := .int (v1 4)) (ty := .int) (ci := 5) (C := RX5) (T := TX5) (N := 14) hx hb hts inX5 tyX5 tyX5_ok nmX5 hown hK.1 hR injS hS (a := c) hc rfl (bS_5 hk) rfl 2 (by decide) lk26 (fun _ h9 => h9) rfl (by decide +kernel) rfl rfl (Nat.le_of_ble_eq_true rfl) (j := 2) (x := v1 4) (by rw [bS_5 hk]; rfl) dX5_issue_13 (fun H locs hR hS => ?_)
  obtain ⟨X2, eX2⟩ : ∃ Y : gM, Y = updM X1 c 2 (v1 4) := ⟨_, rfl⟩
  rw [← eX2] at hR
  refine lv_aload_n hx hb dX5_issue_16 rfl (lv_at hl 0 rfl) ?_
  refine lv_iload_n hx hb dX5_issue_17 rfl (lv_at hl 2 rfl) ?_
  refine gm_put (v := .int a2) (ty := .int) (ci := 5) (C := RX5) (T := TX5) (N := 14) hx hb hts inX5 tyX5 tyX5_ok nmX5 hown hK.1 hR injS hS (a := c) hc rfl (bS_5 hk) rfl 3 (by decide) lk29 (fun _ h9 => h9) rfl (by decide +kernel) rfl rfl (Nat.le_of_ble_eq_true rfl) (j := 3) (x := a2) (by rw [bS_5 hk]; rfl) dX5_issue_18 (fun H locs hR hS => ?_)
  obtain ⟨X3, eX3⟩ : ∃ Y : gM, Y = updM X2 c 3 a2 := ⟨_, rfl⟩
  rw [← eX3] at hR
  refine lv_aload_n hx hb dX5_issue_21 rfl (lv_at hl 0 rfl) ?_
  refine lv_iconst (v := 0) hx hb dX5_issue_22 (by decide) ?_
  refine gm_put (v := .int 0) (ty := .int) (ci := 5) (C := RX5) (T := TX5) (N := 14) hx hb hts inX5 tyX5 tyX5_ok nmX5 hown hK.1 hR injS hS (a := c) hc rfl (bS_5 hk) rfl 4 (by decide) lk32 (fun _ h9 => h9) rfl (by decide +kernel) rfl rfl (Nat.le_of_ble_eq_true rfl) (j := 4) (x := 0) (by rw [bS_5 hk]; rfl) dX5_issue_23 (fun H locs hR hS => ?_)
  obtain ⟨X4, eX4⟩ : ∃ Y : gM, Y = updM X3 c 4 0 := ⟨_, rfl⟩
  rw [← eX4] at hR
  refine lv_aload_n hx hb dX5_issue_26 rfl (lv_at hl 0 rfl) ?_
  refine lv_bipush (v := (-5)) hx hb dX5_issue_27 (by decide) ?_
  refine gm_put (v := .int (-5)) (ty := .int) (ci := 5) (C := RX5) (T := TX5) (N := 14) hx hb hts inX5 tyX5 tyX5_ok nmX5 hown hK.1 hR injS hS (a := c) hc rfl (bS_5 hk) rfl 5 (by decide) lk35 (fun _ h9 => h9) rfl (by decide +kernel) rfl rfl (Nat.le_of_ble_eq_true rfl) (j := 5) (x := (-5)) (by rw [bS_5 hk]; rfl) dX5_issue_29 (fun H locs hR hS => ?_)
  obtain ⟨X5, eX5⟩ : ∃ Y : gM, Y = updM X4 c 5 (-5) := ⟨_, rfl⟩
  rw [← eX5] at hR
  refine lv_aload_n hx hb dX5_issue_32 rfl (lv_at hl 0 rfl) ?_
  refine lv_bipush (v := (-5)) hx hb dX5_issue_33 (by decide) ?_
  refine gm_put (v := .int (-5)) (ty := .int) (ci := 5) (C := RX5) (T := TX5) (N := 14) hx hb hts inX5 tyX5 tyX5_ok nmX5 hown hK.1 hR injS hS (a := c) hc rfl (bS_5 hk) rfl 6 (by decide) lk38 (fun _ h9 => h9) rfl (by decide +kernel) rfl rfl (Nat.le_of_ble_eq_true rfl) (j := 6) (x := (-5)) (by rw [bS_5 hk]; rfl) dX5_issue_35 (fun H locs hR hS => ?_)
  obtain ⟨X6, eX6⟩ : ∃ Y : gM, Y = updM X5 c 6 (-5) := ⟨_, rfl⟩
  rw [← eX6] at hR
  refine lv_aload_n hx hb dX5_issue_38 rfl (lv_at hl 0 rfl) ?_
  refine lv_iload_n hx hb dX5_issue_39 rfl (lv_at hl 3 rfl) ?_
  refine gm_put (v := .int a3) (ty := .int) (ci := 5) (C := RX5) (T := TX5) (N := 14) hx hb hts inX5 tyX5 tyX5_ok nmX5 hown hK.1 hR injS hS (a := c) hc rfl (bS_5 hk) rfl 7 (by decide) lk41 (fun _ h9 => h9) rfl (by decide +kernel) rfl rfl (Nat.le_of_ble_eq_true rfl) (j := 7) (x := a3) (by rw [bS_5 hk]; rfl) dX5_issue_40 (fun H locs hR hS => ?_)
  obtain ⟨X7, eX7⟩ : ∃ Y : gM, Y = updM X6 c 7 a3 := ⟨_, rfl⟩
  rw [← eX7] at hR
  refine lv_aload_n hx hb dX5_issue_43 rfl (lv_at hl 0 rfl) ?_
  refine lv_bipush (v := (-5)) hx hb dX5_issue_44 (by decide) ?_
  refine gm_put (v := .int (-5)) (ty := .int) (ci := 5) (C := RX5) (T := TX5) (N := 14) hx hb hts inX5 tyX5 tyX5_ok nmX5 hown hK.1 hR injS hS (a := c) hc rfl (bS_5 hk) rfl 8 (by decide) lk44 (fun _ h9 => h9) rfl (by decide +kernel) rfl rfl (Nat.le_of_ble_eq_true rfl) (j := 8) (x := (-5)) (by rw [bS_5 hk]; rfl) dX5_issue_46 (fun H locs hR hS => ?_)
  obtain ⟨X8, eX8⟩ : ∃ Y : gM, Y = updM X7 c 8 (-5) := ⟨_, rfl⟩
  rw [← eX8] at hR
  refine lv_aload_n hx hb dX5_issue_49 rfl (lv_at hl 0 rfl) ?_
  refine lv_bipush (v := (-5)) hx hb dX5_issue_50 (by decide) ?_
  refine gm_put (v := .int (-5)) (ty := .int) (ci := 5) (C := RX5) (T := TX5) (N := 14) hx hb hts inX5 tyX5 tyX5_ok nmX5 hown hK.1 hR injS hS (a := c) hc rfl (bS_5 hk) rfl 9 (by decide) lk47 (fun _ h9 => h9) rfl (by decide +kernel) rfl rfl (Nat.le_of_ble_eq_true rfl) (j := 9) (x := (-5)) (by rw [bS_5 hk]; rfl) dX5_issue_52 (fun H locs hR hS => ?_)
  obtain ⟨X9, eX9⟩ : ∃ Y : gM, Y = updM X8 c 9 (-5) := ⟨_, rfl⟩
  rw [← eX9] at hR
  refine lv_aload_n hx hb dX5_issue_55 rfl (lv_at hl 0 rfl) ?_
  refine lv_bipush (v := (-5)) hx hb dX5_issue_56 (by decide) ?_
  refine gm_put (v := .int (-5)) (ty := .int) (ci := 5) (C := RX5) (T := TX5) (N := 14) hx hb hts inX5 tyX5 tyX5_ok nmX5 hown hK.1 hR injS hS (a := c) hc rfl (bS_5 hk) rfl 10 (by decide) lk50 (fun _ h9 => h9) rfl (by decide +kernel) rfl rfl (Nat.le_of_ble_eq_true rfl) (j := 10) (x := (-5)) (by rw [bS_5 hk]; rfl) dX5_issue_58 (fun H locs hR hS => ?_)
  obtain ⟨X10, eX10⟩ : ∃ Y : gM, Y = updM X9 c 10 (-5) := ⟨_, rfl⟩
  rw [← eX10] at hR
  refine lv_aload_n hx hb dX5_issue_61 rfl (lv_at hl 0 rfl) ?_
  refine lv_bipush (v := (-5)) hx hb dX5_issue_62 (by decide) ?_
  refine gm_put (v := .int (-5)) (ty := .int) (ci := 5) (C := RX5) (T := TX5) (N := 14) hx hb hts inX5 tyX5 tyX5_ok nmX5 hown hK.1 hR injS hS (a := c) hc rfl (bS_5 hk) rfl 11 (by decide) lk53 (fun _ h9 => h9) rfl (by decide +kernel) rfl rfl (Nat.le_of_ble_eq_true rfl) (j := 11) (x := (-5)) (by rw [bS_5 hk]; rfl) dX5_issue_64 (fun H locs hR hS => ?_)
  obtain ⟨X11, eX11⟩ : ∃ Y : gM, Y = updM X10 c 11 (-5) := ⟨_, rfl⟩
  rw [← eX11] at hR
  refine lv_aload_n hx hb dX5_issue_67 rfl (lv_at hl 0 rfl) ?_
  refine lv_iload_n hx hb dX5_issue_68 rfl (lv_at hl 3 rfl) ?_
  refine gm_put (v := .int a3) (ty := .int) (ci := 5) (C := RX5) (T := TX5) (N := 14) hx hb hts inX5 tyX5 tyX5_ok nmX5 hown hK.1 hR injS hS (a := c) hc rfl (bS_5 hk) rfl 12 (by decide) lk56 (fun _ h9 => h9) rfl (by decide +kernel) rfl rfl (Nat.le_of_ble_eq_true rfl) (j := 12) (x := a3) (by rw [bS_5 hk]; rfl) dX5_issue_69 (fun H locs hR hS => ?_)
  obtain ⟨X12, eX12⟩ : ∃ Y : gM, Y = updM X11 c 12 a3 := ⟨_, rfl⟩
  rw [← eX12] at hR
  refine lv_aload_n hx hb dX5_issue_72 rfl (lv_at hl 0 rfl) ?_
  refine lv_bipush (v := (-5)) hx hb dX5_issue_73 (by decide) ?_
  refine gm_put (v := .int (-5)) (ty := .int) (ci := 5) (C := RX5) (T := TX5) (N := 14) hx hb hts inX5 tyX5 tyX5_ok nmX5 hown hK.1 hR injS hS (a := c) hc rfl (bS_5 hk) rfl 13 (by decide) lk59 (fun _ h9 => h9) rfl (by decide +kernel) rfl rfl (Nat.le_of_ble_eq_true rfl) (j := 13) (x := (-5)) (by rw [bS_5 hk]; rfl) dX5_issue_75 (fun H locs hR hS => ?_)
  obtain ⟨X13, eX13⟩ : ∃ Y : gM, Y = updM X12 c 13 (-5) := ⟨_, rfl⟩
  rw [← eX13] at hR
  exact gm_vret hx hb hr hlocks hS (by (try simp only [p_X5_issue, ← eX1, ← eX2, ← eX3, ← eX4, ← eX5, ← eX6, ← eX7, ← eX8, ← eX9, ← eX10, ← eX11, ← eX12, ← eX13]); exact hR) dX5_issue_78
def p_X2_give (X : gM) (c : Nat) (v1 : Nat → Int32) (a2 : Int32) (a3 : Int32) : gM :=
  let X1 := p_X7_copyFrom X (c + 1) v1
  let X2 := updM X1 c 1 a2
  let X3 := updM X2 c 2 a3
  let X4 := updM X3 c 3 0
  let X5 := updM X4 c 4 0
  let X6 := updM X5 c 5 0
  X6
set_option maxHeartbeats 4000000 in
set_option maxRecDepth 100000 in
theorem c_X2_give (l : Launch) (D : va_G) (cy : Nat → ClassId) (σ : Nat) (X : gM) (c : Nat) (b1 : Nat) (v1 : Nat → Int32) (a2 : Int32) (a3 : Int32) (hc : c < 123) (hk : kdS c = 2) (hne : b1 ≠ σ + (c + 1)) : Met l yX2_give wsX2_give ({ frames := 1, cells := 0, slots := 0, locals := 21 }) (gP [.ref (σ + c), .ref b1, .int a2, .int a3] D cy (fun H => SR D cy σ X H ∧ gSrc D σ X H b1 v1)) (gQv (SR D cy σ (p_X2_give X c v1 a2 a3)) (SA σ)) 0 0 (SA σ) := by
  refine gm_met (cc := cX2_give) (maxL := 4) (ret := none) [.ref (σ + c), .ref b1, .int a2, .int a3] (by decide) rfl (Nat.le_of_ble_eq_true rfl) ?_
  intro p e s m args below meth c0 ls C hR hl
  obtain ⟨hx, hb, hr, hts, hown, hlocks, hml, hK⟩ := C
  obtain ⟨hR, hT⟩ := hR
  have hl : lv_has ls 4 [(0, .ref (σ + c)), (1, .ref b1), (2, .int a2), (3, .int a3)] := hl
  have hS : va_S (SA σ) s.heap s.heap [] := va_S.rf
  have lk10 := hts (.fieldLink RX2 10 "MercuryLine$Order" "trip" "LMercuryLine$Trip;") (by decide +kernel)
  have inX2 : ∀ w ∈ u_ws RX2 TX2 6, w ∈ wsX2_give := by decide +kernel
  have lk20 := hts (.fieldLink RX2 20 "MercuryLine$Order" "period" "I") (by decide +kernel)
  have lk24 := hts (.fieldLink RX2 24 "MercuryLine$Order" "givenIn" "I") (by decide +kernel)
  have lk27 := hts (.fieldLink RX2 27 "MercuryLine$Order" "booked" "I") (by decide +kernel)
  have lk30 := hts (.fieldLink RX2 30 "MercuryLine$Order" "skipped" "I") (by decide +kernel)
  have lk33 := hts (.fieldLink RX2 33 "MercuryLine$Order" "ended" "Z") (by decide +kernel)
  refine lv_aload_n hx hb dX2_give_0 rfl (lv_at hl 0 rfl) ?_
  refine va_get (D := D) (ci := 2) (v := .ref (σ + (c + 1))) (C := RX2) (T := TX2) (N := 6) hx hb hts inX2 hown hK.1 (SR.mk1 hR (c := c) hc (bS_2 hk)) 0 rfl rfl 0 (by decide) lk10 (fun _ h9 => h9) rfl dX2_give_1 ?_
  refine lv_aload_n hx hb dX2_give_4 rfl (lv_at hl 1 rfl) ?_
  refine gm_cv (gm_call (As := [.ref b1]) (rest := []) (ci := 7) (q := (RX7, TX7, 5)) ⟨hx, hb, hml, hown, hts⟩ hK (c_X7_copyFrom l D cy σ X (c + 1) b1 v1 (kd_2 c hc hk).1 (kd_2 c hc hk).2 hne) (cwV 1 hts gX2_give_X7_copyFrom rfl rfl rfl (by decide +kernel) ⟨Nat.le_of_ble_eq_true rfl, Nat.le_of_ble_eq_true rfl⟩) (SR.mk1 hR (c := c + 1) (kd_2 c hc hk).1 (bS_7 (kd_2 c hc hk).2)) rfl ⟨hR, (gSrc.now hT hS (fun _ _ => rfl))⟩ rfl hl.1 rfl (Nat.le_of_ble_eq_true rfl) dX2_give_5 (Nat.zero_le _) (Nat.zero_le _)) hS (fun _ h => h) (fun H locs hR _ _ hS => ?_)
  obtain ⟨X1, eX1⟩ : ∃ Y : gM, Y = p_X7_copyFrom X (c + 1) v1 := ⟨_, rfl⟩
  rw [← eX1] at hR
  refine lv_aload_n hx hb dX2_give_8 rfl (lv_at hl 0 rfl) ?_
  refine lv_iload_n hx hb dX2_give_9 rfl (lv_at hl 2 rfl) ?_
  refine gm_put (v := .int a2) (ty := .int) (ci := 2) (C := RX2) (T := TX2) (N := 6) hx hb hts inX2 tyX2 tyX2_ok nmX2 hown hK.1 hR injS hS (a := c) hc rfl (bS_2 hk) rfl 1 (by decide) lk20 (fun _ h9 => h9) rfl (by decide +kernel) rfl rfl (Nat.le_of_ble_eq_true rfl) (j := 1) (x := a2) (by rw [bS_2 hk]; rfl) dX2_give_10 (fun H locs hR hS => ?_)
  obtain ⟨X2, eX2⟩ : ∃ Y : gM, Y = updM X1 c 1 a2 := ⟨_, rfl⟩
  rw [← eX2] at hR
  refine lv_aload_n hx hb dX2_give_13 rfl (lv_at hl 0 rfl) ?_
  refine lv_iload_n hx hb dX2_give_14 rfl (lv_at hl 3 rfl) ?_
  refine gm_put (v := .int a3) (ty := .int) (ci := 2) (C := RX2) (T := TX2) (N := 6) hx hb hts inX2 tyX2 tyX2_ok nmX2 hown hK.1 hR injS hS (a := c) hc rfl (bS_2 hk) rfl 2 (by decide) lk24 (fun _ h9 => h9) rfl (by decide +kernel) rfl rfl (Nat.le_of_ble_eq_true rfl) (j := 2) (x := a3) (by rw [bS_2 hk]; rfl) dX2_give_15 (fun H locs hR hS => ?_)
  obtain ⟨X3, eX3⟩ : ∃ Y : gM, Y = updM X2 c 2 a3 := ⟨_, rfl⟩
  rw [← eX3] at hR
  refine lv_aload_n hx hb dX2_give_18 rfl (lv_at hl 0 rfl) ?_
  refine lv_iconst (v := 0) hx hb dX2_give_19 (by decide) ?_
  refine gm_put (v := .int 0) (ty := .int) (ci := 2) (C := RX2) (T := TX2) (N := 6) hx hb hts inX2 tyX2 tyX2_ok nmX2 hown hK.1 hR injS hS (a := c) hc rfl (bS_2 hk) rfl 3 (by decide) lk27 (fun _ h9 => h9) rfl (by decide +kernel) rfl rfl (Nat.le_of_ble_eq_true rfl) (j := 3) (x := 0) (by rw [bS_2 hk]; rfl) dX2_give_20 (fun H locs hR hS => ?_)
  obtain ⟨X4, eX4⟩ : ∃ Y : gM, Y = updM X3 c 3 0 := ⟨_, rfl⟩
  rw [← eX4] at hR
  refine lv_aload_n hx hb dX2_give_23 rfl (lv_at hl 0 rfl) ?_
  refine lv_iconst (v := 0) hx hb dX2_give_24 (by decide) ?_
  refine gm_put (v := .int 0) (ty := .int) (ci := 2) (C := RX2) (T := TX2) (N := 6) hx hb hts inX2 tyX2 tyX2_ok nmX2 hown hK.1 hR injS hS (a := c) hc rfl (bS_2 hk) rfl 4 (by decide) lk30 (fun _ h9 => h9) rfl (by decide +kernel) rfl rfl (Nat.le_of_ble_eq_true rfl) (j := 4) (x := 0) (by rw [bS_2 hk]; rfl) dX2_give_25 (fun H locs hR hS => ?_)
  obtain ⟨X5, eX5⟩ : ∃ Y : gM, Y = updM X4 c 4 0 := ⟨_, rfl⟩
  rw [← eX5] at hR
  refine lv_aload_n hx hb dX2_give_28 rfl (lv_at hl 0 rfl) ?_
  refine lv_iconst (v := 0) hx hb dX2_give_29 (by decide) ?_
  refine gm_put (v := .int 0) (ty := .boolean) (ci := 2) (C := RX2) (T := TX2) (N := 6) hx hb hts inX2 tyX2 tyX2_ok nmX2 hown hK.1 hR injS hS (a := c) hc rfl (bS_2 hk) rfl 5 (by decide) lk33 (fun _ h9 => h9) rfl (by decide +kernel) rfl rfl (Nat.le_of_ble_eq_true rfl) (j := 5) (x := 0) (by rw [bS_2 hk]; rfl) dX2_give_30 (fun H locs hR hS => ?_)
  obtain ⟨X6, eX6⟩ : ∃ Y : gM, Y = updM X5 c 5 0 := ⟨_, rfl⟩
  rw [← eX6] at hR
  exact gm_vret hx hb hr hlocks hS (by (try simp only [p_X2_give, ← eX1, ← eX2, ← eX3, ← eX4, ← eX5, ← eX6]); exact hR) dX2_give_33
