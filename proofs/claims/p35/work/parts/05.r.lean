def p_X4_copyFrom (X : gM) (c : Nat) : gM :=
  let X1 := cpyR X (c + 1) (123 + (c + 1)) 3
  let X2 := updM X1 c 4 (X1 (123 + c) 4)
  let X3 := updM X2 c 5 (X2 (123 + c) 5)
  let X4 := updM X3 c 6 (X3 (123 + c) 6)
  let X5 := updM X4 c 7 (X4 (123 + c) 7)
  let X6 := updM X5 c 8 (X5 (123 + c) 8)
  let X7 := updM X6 c 9 (X6 (123 + c) 9)
  X7
set_option maxHeartbeats 4000000 in
set_option maxRecDepth 100000 in
theorem cr_X4_copyFrom (l : Launch) (D : va_G) (cy : Nat → ClassId) (σ : Nat) (τ : Nat) (X : gM) (c : Nat) (hdis : σ + 123 ≤ τ ∨ τ + 123 ≤ σ) (hc : c < 123) (hk : kdS c = 4) : Met l yX4_copyFrom wsX4_copyFrom ({ frames := 1, cells := 0, slots := 0, locals := 26 }) (gP [.ref (σ + c), .ref (τ + c)] D cy (DR D cy σ τ X)) (gQv (DR D cy σ τ (p_X4_copyFrom X c)) (DA σ τ)) 0 0 (DA σ τ) := by
  refine gm_met (cc := cX4_copyFrom) (maxL := 2) (ret := none) [.ref (σ + c), .ref (τ + c)] (by decide) rfl (Nat.le_of_ble_eq_true rfl) ?_
  intro p e s m args below meth c0 ls C hR hl
  obtain ⟨hx, hb, hr, hts, hown, hlocks, hml, hK⟩ := C
  have hl : lv_has ls 2 [(0, .ref (σ + c)), (1, .ref (τ + c))] := hl
  have hS : va_S (DA σ τ) s.heap s.heap [] := va_S.rf
  have lk11 := hts (.fieldLink RX4 11 "MercuryLine$Station" "values" "[I") (by decide +kernel)
  have inX4 : ∀ w ∈ u_ws RX4 TX4 10, w ∈ wsX4_copyFrom := by decide +kernel
  have lk32 := hts (.fieldLink RX4 32 "MercuryLine$Station" "callCount" "I") (by decide +kernel)
  have lk35 := hts (.fieldLink RX4 35 "MercuryLine$Station" "offset" "I") (by decide +kernel)
  have lk38 := hts (.fieldLink RX4 38 "MercuryLine$Station" "boarded" "I") (by decide +kernel)
  have lk41 := hts (.fieldLink RX4 41 "MercuryLine$Station" "arrived" "I") (by decide +kernel)
  have lk44 := hts (.fieldLink RX4 44 "MercuryLine$Station" "calledOff" "I") (by decide +kernel)
  have lk47 := hts (.fieldLink RX4 47 "MercuryLine$Station" "shovedOut" "I") (by decide +kernel)
  refine lv_aload_n hx hb dX4_copyFrom_0 rfl (lv_at hl 1 rfl) ?_
  refine va_get (D := D) (ci := 4) (v := .ref (τ + (c + 1))) (C := RX4) (T := TX4) (N := 10) hx hb hts inX4 hown hK.1 (DR.mkB hR (c := c) hc (bS_4 hk)) 0 rfl rfl 3 (by decide) lk11 (fun _ h9 => h9) rfl dX4_copyFrom_1 ?_
  refine lv_iconst (v := 0) hx hb dX4_copyFrom_4 (by decide) ?_
  refine lv_aload_n hx hb dX4_copyFrom_5 rfl (lv_at hl 0 rfl) ?_
  refine va_get (D := D) (ci := 4) (v := .ref (σ + (c + 1))) (C := RX4) (T := TX4) (N := 10) hx hb hts inX4 hown hK.1 (DR.mkA hR (c := c) hc (bS_4 hk)) 0 rfl rfl 3 (by decide) lk11 (fun _ h9 => h9) rfl dX4_copyFrom_6 ?_
  refine lv_iconst (v := 0) hx hb dX4_copyFrom_9 (by decide) ?_
  refine lv_iconst (v := 3) hx hb dX4_copyFrom_10 (by decide) ?_
  refine gm_acopy (a := c + 1) (b := 123 + (c + 1)) (k := 3) (index := 26) hx hb (hml.trans hl.1.symm) hown (hts (.methodLink RX4 26 arraycopyName) (by decide +kernel)) (hts (.native arraycopyName) (by decide +kernel)) (hts (.static arraycopyName) (by decide +kernel)) (hts (.initialized "java/lang/System") (by decide +kernel)) hK.1 hR (injD hdis) hS (Nat.lt_trans (kd_4 c hc hk).1 (by decide)) (Nat.add_lt_add_left (kd_4 c hc hk).1 123) (adD_A (c := c + 1) (kd_4 c hc hk).1) adD_B (fun r => ((bD_A (c := c + 1) (kd_4 c hc hk).1).trans (bS_21 (kd_4 c hc hk).2))) (fun r => bD_B.trans (bS_21 (kd_4 c hc hk).2)) (by decide) (by decide) (Nat.le_of_ble_eq_true rfl) (Nat.le_of_ble_eq_true rfl) dX4_copyFrom_11 (fun H locs hR hS => ?_)
  obtain ⟨X1, eX1⟩ : ∃ Y : gM, Y = cpyR X (c + 1) (123 + (c + 1)) 3 := ⟨_, rfl⟩
  rw [← eX1] at hR
  refine lv_aload_n hx hb dX4_copyFrom_14 rfl (lv_at hl 0 rfl) ?_
  refine lv_aload_n hx hb dX4_copyFrom_15 rfl (lv_at hl 1 rfl) ?_
  refine va_get (D := D) (ci := 4) (v := .int (X1 (123 + c) 4)) (C := RX4) (T := TX4) (N := 10) hx hb hts inX4 hown hK.1 (DR.mkB hR (c := c) hc (bS_4 hk)) 0 rfl rfl 4 (by decide) lk32 (fun _ h9 => h9) rfl dX4_copyFrom_16 ?_
  refine gm_put (v := .int (X1 (123 + c) 4)) (ty := .int) (ci := 4) (C := RX4) (T := TX4) (N := 10) hx hb hts inX4 tyX4 tyX4_ok nmX4 hown hK.1 hR (injD hdis) hS (a := c) (Nat.lt_trans hc (by decide)) (adD_A (c := c) hc) ((bD_A (c := c) hc).trans (bS_4 hk)) rfl 4 (by decide) lk32 (fun _ h9 => h9) rfl (by decide +kernel) rfl rfl (Nat.le_of_ble_eq_true rfl) (j := 4) (x := X1 (123 + c) 4) (by rw [(bD_A (c := c) hc).trans (bS_4 hk)]; rfl) dX4_copyFrom_19 (fun H locs hR hS => ?_)
  obtain ⟨X2, eX2⟩ : ∃ Y : gM, Y = updM X1 c 4 (X1 (123 + c) 4) := ⟨_, rfl⟩
  rw [← eX2] at hR
  refine lv_aload_n hx hb dX4_copyFrom_22 rfl (lv_at hl 0 rfl) ?_
  refine lv_aload_n hx hb dX4_copyFrom_23 rfl (lv_at hl 1 rfl) ?_
  refine va_get (D := D) (ci := 4) (v := .int (X2 (123 + c) 5)) (C := RX4) (T := TX4) (N := 10) hx hb hts inX4 hown hK.1 (DR.mkB hR (c := c) hc (bS_4 hk)) 0 rfl rfl 5 (by decide) lk35 (fun _ h9 => h9) rfl dX4_copyFrom_24 ?_
  refine gm_put (v := .int (X2 (123 + c) 5)) (ty := .int) (ci := 4) (C := RX4) (T := TX4) (N := 10) hx hb hts inX4 tyX4 tyX4_ok nmX4 hown hK.1 hR (injD hdis) hS (a := c) (Nat.lt_trans hc (by decide)) (adD_A (c := c) hc) ((bD_A (c := c) hc).trans (bS_4 hk)) rfl 5 (by decide) lk35 (fun _ h9 => h9) rfl (by decide +kernel) rfl rfl (Nat.le_of_ble_eq_true rfl) (j := 5) (x := X2 (123 + c) 5) (by rw [(bD_A (c := c) hc).trans (bS_4 hk)]; rfl) dX4_copyFrom_27 (fun H locs hR hS => ?_)
  obtain ⟨X3, eX3⟩ : ∃ Y : gM, Y = updM X2 c 5 (X2 (123 + c) 5) := ⟨_, rfl⟩
  rw [← eX3] at hR
  refine lv_aload_n hx hb dX4_copyFrom_30 rfl (lv_at hl 0 rfl) ?_
  refine lv_aload_n hx hb dX4_copyFrom_31 rfl (lv_at hl 1 rfl) ?_
  refine va_get (D := D) (ci := 4) (v := .int (X3 (123 + c) 6)) (C := RX4) (T := TX4) (N := 10) hx hb hts inX4 hown hK.1 (DR.mkB hR (c := c) hc (bS_4 hk)) 0 rfl rfl 6 (by decide) lk38 (fun _ h9 => h9) rfl dX4_copyFrom_32 ?_
  refine gm_put (v := .int (X3 (123 + c) 6)) (ty := .int) (ci := 4) (C := RX4) (T := TX4) (N := 10) hx hb hts inX4 tyX4 tyX4_ok nmX4 hown hK.1 hR (injD hdis) hS (a := c) (Nat.lt_trans hc (by decide)) (adD_A (c := c) hc) ((bD_A (c := c) hc).trans (bS_4 hk)) rfl 6 (by decide) lk38 (fun _ h9 => h9) rfl (by decide +kernel) rfl rfl (Nat.le_of_ble_eq_true rfl) (j := 6) (x := X3 (123 + c) 6) (by rw [(bD_A (c := c) hc).trans (bS_4 hk)]; rfl) dX4_copyFrom_35 (fun H locs hR hS => ?_)
  obtain ⟨X4, eX4⟩ : ∃ Y : gM, Y = updM X3 c 6 (X3 (123 + c) 6) := ⟨_, rfl⟩
  rw [← eX4] at hR
  refine lv_aload_n hx hb dX4_copyFrom_38 rfl (lv_at hl 0 rfl) ?_
  refine lv_aload_n hx hb dX4_copyFrom_39 rfl (lv_at hl 1 rfl) ?_
  refine va_get (D := D) (ci := 4) (v := .int (X4 (123 + c) 7)) (C := RX4) (T := TX4) (N := 10) hx hb hts inX4 hown hK.1 (DR.mkB hR (c := c) hc (bS_4 hk)) 0 rfl rfl 7 (by decide) lk41 (fun _ h9 => h9) rfl dX4_copyFrom_40 ?_
  refine gm_put (v := .int (X4 (123 + c) 7)) (ty := .int) (ci := 4) (C := RX4) (T := TX4) (N := 10) hx hb hts inX4 tyX4 tyX4_ok nmX4 hown hK.1 hR (injD hdis) hS (a := c) (Nat.lt_trans hc (by decide)) (adD_A (c := c) hc) ((bD_A (c := c) hc).trans (bS_4 hk)) rfl 7 (by decide) lk41 (fun _ h9 => h9) rfl (by decide +kernel) rfl rfl (Nat.le_of_ble_eq_true rfl) (j := 7) (x := X4 (123 + c) 7) (by rw [(bD_A (c := c) hc).trans (bS_4 hk)]; rfl) dX4_copyFrom_43 (fun H locs hR hS => ?_)
  obtain ⟨X5, eX5⟩ : ∃ Y : gM, Y = updM X4 c 7 (X4 (123 + c) 7) := ⟨_, rfl⟩
  rw [← eX5] at hR
  refine lv_aload_n hx hb dX4_copyFrom_46 rfl (lv_at hl 0 rfl) ?_
  refine lv_aload_n hx hb dX4_copyFrom_47 rfl (lv_at hl 1 rfl) ?_
  refine va_get (D := D) (ci := 4) (v := .int (X5 (123 + c) 8)) (C := RX4) (T := TX4) (N := 10) hx hb hts inX4 hown hK.1 (DR.mkB hR (c := c) hc (bS_4 hk)) 0 rfl rfl 8 (by decide) lk44 (fun _ h9 => h9) rfl dX4_copyFrom_48 ?_
  refine gm_put (v := .int (X5 (123 + c) 8)) (ty := .int) (ci := 4) (C := RX4) (T := TX4) (N := 10) hx hb hts inX4 tyX4 tyX4_ok nmX4 hown hK.1 hR (injD hdis) hS (a := c) (Nat.lt_trans hc (by decide)) (adD_A (c := c) hc) ((bD_A (c := c) hc).trans (bS_4 hk)) rfl 8 (by decide) lk44 (fun _ h9 => h9) rfl (by decide +kernel) rfl rfl (Nat.le_of_ble_eq_true rfl) (j := 8) (x := X5 (123 + c) 8) (by rw [(bD_A (c := c) hc).trans (bS_4 hk)]; rfl) dX4_copyFrom_51 (fun H locs hR hS => ?_)
  obtain ⟨X6, eX6⟩ : ∃ Y : gM, Y = updM X5 c 8 (X5 (123 + c) 8) := ⟨_, rfl⟩
  rw [← eX6] at hR
  refine lv_aload_n hx hb dX4_copyFrom_54 rfl (lv_at hl 0 rfl) ?_
  refine lv_aload_n hx hb dX4_copyFrom_55 rfl (lv_at hl 1 rfl) ?_
  refine va_get (D := D) (ci := 4) (v := .int (X6 (123 + c) 9)) (C := RX4) (T := TX4) (N := 10) hx hb hts inX4 hown hK.1 (DR.mkB hR (c := c) hc (bS_4 hk)) 0 rfl rfl 9 (by decide) lk47 (fun _ h9 => h9) rfl dX4_copyFrom_56 ?_
  refine gm_put (v := .int (X6 (123 + c) 9)) (ty := .int) (ci := 4) (C := RX4) (T := TX4) (N := 10) hx hb hts inX4 tyX4 tyX4_ok nmX4 hown hK.1 hR (injD hdis) hS (a := c) (Nat.lt_trans hc (by decide)) (adD_A (c := c) hc) ((bD_A (c := c) hc).trans (bS_4 hk)) rfl 9 (by decide) lk47 (fun _ h9 => h9) rfl (by decide +kernel) rfl rfl (Nat.le_of_ble_eq_true rfl) (j := 9) (x := X6 (123 + c) 9) (by rw [(bD_A (c := c) hc).trans (bS_4 hk)]; rfl) dX4_copyFrom_59 (fun H locs hR hS => ?_)
  obtain ⟨X7, eX7⟩ : ∃ Y : gM, Y = updM X6 c 9 (X6 (123 + c) 9) := ⟨_, rfl⟩
  rw [← eX7] at hR
  exact gm_vret hx hb hr hlocks hS (by (try simp only [p_X4_copyFrom, ← eX1, ← eX2, ← eX3, ← eX4, ← eX5, ← eX6, ← eX7]); exact hR) dX4_copyFrom_62
theorem c_X4_copyFrom (l : Launch) (D : va_G) (cy : Nat → ClassId) (σ : Nat) (τ : Nat) (X : gM) (c : Nat) (hdis : σ + 123 ≤ τ ∨ τ + 123 ≤ σ) (hc : c < 123) (hk : kdS c = 4) : Met l yX4_copyFrom wsX4_copyFrom ({ frames := 1, cells := 0, slots := 0, locals := 26 }) (gP [.ref (σ + c), .ref (τ + c)] D cy (DR D cy σ τ X)) (gQv (DR D cy σ τ (cpD X c 2)) (DA σ τ)) 0 0 (DA σ τ) :=
  gMet_v (cr_X4_copyFrom l D cy σ τ X c hdis hc hk) (fun H h => gRep.same2 h (by
    intro a ha
    by_cases h1 : a = c
    · subst h1
      refine Or.inl ?_
      rw [bD_A hc, bD_A hc, bS_4 hk, bS_4 hk]
      have hz : ¬ (123 + a = a + 1) := by omega
      simp [p_X4_copyFrom, cpD, cpyR, updM, upd, hz]
    · by_cases h2 : a = c + 1
      · subst h2
        have q := kd_4 c hc hk
        refine Or.inr ⟨_, _, _, _, (bD_A q.1).trans (bS_21 q.2), (bD_A q.1).trans (bS_21 q.2), fun i hi => ?_⟩
        simp [p_X4_copyFrom, cpD, cpyR, updM, upd, va_cpy, hi]
      · have e : p_X4_copyFrom X c a = cpD X c 2 a := by
          simp only [p_X4_copyFrom, cpD, cpyR, updM, if_neg h1, if_neg h2]
          (repeat' (first | rw [if_neg (by omega)] | rfl))
        exact Or.inl (by rw [e])))
def p_X1_copyFrom (X : gM) (c : Nat) : gM :=
  let X1 := cpyR X (c + 1) (123 + (c + 1)) 60
  let X2 := updM X1 c 1 (X1 (123 + c) 1)
  let X3 := updM X2 c 2 (X2 (123 + c) 2)
  X3
set_option maxHeartbeats 4000000 in
set_option maxRecDepth 100000 in
theorem cr_X1_copyFrom (l : Launch) (D : va_G) (cy : Nat → ClassId) (σ : Nat) (τ : Nat) (X : gM) (c : Nat) (hdis : σ + 123 ≤ τ ∨ τ + 123 ≤ σ) (hc : c < 123) (hk : kdS c = 1) : Met l yX1_copyFrom wsX1_copyFrom ({ frames := 1, cells := 0, slots := 0, locals := 26 }) (gP [.ref (σ + c), .ref (τ + c)] D cy (DR D cy σ τ X)) (gQv (DR D cy σ τ (p_X1_copyFrom X c)) (DA σ τ)) 0 0 (DA σ τ) := by
  refine gm_met (cc := cX1_copyFrom) (maxL := 2) (ret := none) [.ref (σ + c), .ref (τ + c)] (by decide) rfl (Nat.le_of_ble_eq_true rfl) ?_
  intro p e s m args below meth c0 ls C hR hl
  obtain ⟨hx, hb, hr, hts, hown, hlocks, hml, hK⟩ := C
  have hl : lv_has ls 2 [(0, .ref (σ + c)), (1, .ref (τ + c))] := hl
  have hS : va_S (DA σ τ) s.heap s.heap [] := va_S.rf
  have lk11 := hts (.fieldLink RX1 11 "MercuryLine$Log" "cells" "[I") (by decide +kernel)
  have inX1 : ∀ w ∈ u_ws RX1 TX1 3, w ∈ wsX1_copyFrom := by decide +kernel
  have lk21 := hts (.fieldLink RX1 21 "MercuryLine$Log" "known" "I") (by decide +kernel)
  have lk25 := hts (.fieldLink RX1 25 "MercuryLine$Log" "nextRow" "I") (by decide +kernel)
  refine lv_aload_n hx hb dX1_copyFrom_0 rfl (lv_at hl 1 rfl) ?_
  refine va_get (D := D) (ci := 1) (v := .ref (τ + (c + 1))) (C := RX1) (T := TX1) (N := 3) hx hb hts inX1 hown hK.1 (DR.mkB hR (c := c) hc (bS_1 hk)) 0 rfl rfl 0 (by decide) lk11 (fun _ h9 => h9) rfl dX1_copyFrom_1 ?_
  refine lv_iconst (v := 0) hx hb dX1_copyFrom_4 (by decide) ?_
  refine lv_aload_n hx hb dX1_copyFrom_5 rfl (lv_at hl 0 rfl) ?_
  refine va_get (D := D) (ci := 1) (v := .ref (σ + (c + 1))) (C := RX1) (T := TX1) (N := 3) hx hb hts inX1 hown hK.1 (DR.mkA hR (c := c) hc (bS_1 hk)) 0 rfl rfl 0 (by decide) lk11 (fun _ h9 => h9) rfl dX1_copyFrom_6 ?_
  refine lv_iconst (v := 0) hx hb dX1_copyFrom_9 (by decide) ?_
  refine lv_bipush (v := 60) hx hb dX1_copyFrom_10 (by decide) ?_
  refine gm_acopy (a := c + 1) (b := 123 + (c + 1)) (k := 60) (index := 15) hx hb (hml.trans hl.1.symm) hown (hts (.methodLink RX1 15 arraycopyName) (by decide +kernel)) (hts (.native arraycopyName) (by decide +kernel)) (hts (.static arraycopyName) (by decide +kernel)) (hts (.initialized "java/lang/System") (by decide +kernel)) hK.1 hR (injD hdis) hS (Nat.lt_trans (kd_1 c hc hk).1 (by decide)) (Nat.add_lt_add_left (kd_1 c hc hk).1 123) (adD_A (c := c + 1) (kd_1 c hc hk).1) adD_B (fun r => ((bD_A (c := c + 1) (kd_1 c hc hk).1).trans (bS_22 (kd_1 c hc hk).2))) (fun r => bD_B.trans (bS_22 (kd_1 c hc hk).2)) (by decide) (by decide) (Nat.le_of_ble_eq_true rfl) (Nat.le_of_ble_eq_true rfl) dX1_copyFrom_12 (fun H locs hR hS => ?_)
  obtain ⟨X1, eX1⟩ : ∃ Y : gM, Y = cpyR X (c + 1) (123 + (c + 1)) 60 := ⟨_, rfl⟩
  rw [← eX1] at hR
  refine lv_aload_n hx hb dX1_copyFrom_15 rfl (lv_at hl 0 rfl) ?_
  refine lv_aload_n hx hb dX1_copyFrom_16 rfl (lv_at hl 1 rfl) ?_
  refine va_get (D := D) (ci := 1) (v := .int (X1 (123 + c) 1)) (C := RX1) (T := TX1) (N := 3) hx hb hts inX1 hown hK.1 (DR.mkB hR (c := c) hc (bS_1 hk)) 0 rfl rfl 1 (by decide) lk21 (fun _ h9 => h9) rfl dX1_copyFrom_17 ?_
  refine gm_put (v := .int (X1 (123 + c) 1)) (ty := .int) (ci := 1) (C := RX1) (T := TX1) (N := 3) hx hb hts inX1 tyX1 tyX1_ok nmX1 hown hK.1 hR (injD hdis) hS (a := c) (Nat.lt_trans hc (by decide)) (adD_A (c := c) hc) ((bD_A (c := c) hc).trans (bS_1 hk)) rfl 1 (by decide) lk21 (fun _ h9 => h9) rfl (by decide +kernel) rfl rfl (Nat.le_of_ble_eq_true rfl) (j := 1) (x := X1 (123 + c) 1) (by rw [(bD_A (c := c) hc).trans (bS_1 hk)]; rfl) dX1_copyFrom_20 (fun H locs hR hS => ?_)
  obtain ⟨X2, eX2⟩ : ∃ Y : gM, Y = updM X1 c 1 (X1 (123 + c) 1) := ⟨_, rfl⟩
  rw [← eX2] at hR
  refine lv_aload_n hx hb dX1_copyFrom_23 rfl (lv_at hl 0 rfl) ?_
  refine lv_aload_n hx hb dX1_copyFrom_24 rfl (lv_at hl 1 rfl) ?_
  refine va_get (D := D) (ci := 1) (v := .int (X2 (123 + c) 2)) (C := RX1) (T := TX1) (N := 3) hx hb hts inX1 hown hK.1 (DR.mkB hR (c := c) hc (bS_1 hk)) 0 rfl rfl 2 (by decide) lk25 (fun _ h9 => h9) rfl dX1_copyFrom_25 ?_
  refine gm_put (v := .int (X2 (123 + c) 2)) (ty := .int) (ci := 1) (C := RX1) (T := TX1) (N := 3) hx hb hts inX1 tyX1 tyX1_ok nmX1 hown hK.1 hR (injD hdis) hS (a := c) (Nat.lt_trans hc (by decide)) (adD_A (c := c) hc) ((bD_A (c := c) hc).trans (bS_1 hk)) rfl 2 (by decide) lk25 (fun _ h9 => h9) rfl (by decide +kernel) rfl rfl (Nat.le_of_ble_eq_true rfl) (j := 2) (x := X2 (123 + c) 2) (by rw [(bD_A (c := c) hc).trans (bS_1 hk)]; rfl) dX1_copyFrom_28 (fun H locs hR hS => ?_)
  obtain ⟨X3, eX3⟩ : ∃ Y : gM, Y = updM X2 c 2 (X2 (123 + c) 2) := ⟨_, rfl⟩
  rw [← eX3] at hR
  exact gm_vret hx hb hr hlocks hS (by (try simp only [p_X1_copyFrom, ← eX1, ← eX2, ← eX3]); exact hR) dX1_copyFrom_31
theorem c_X1_copyFrom (l : Launch) (D : va_G) (cy : Nat → ClassId) (σ : Nat) (τ : Nat) (X : gM) (c : Nat) (hdis : σ + 123 ≤ τ ∨ τ + 123 ≤ σ) (hc : c < 123) (hk : kdS c = 1) : Met l yX1_copyFrom wsX1_copyFrom ({ frames := 1, cells := 0, slots := 0, locals := 26 }) (gP [.ref (σ + c), .ref (τ + c)] D cy (DR D cy σ τ X)) (gQv (DR D cy σ τ (cpD X c 2)) (DA σ τ)) 0 0 (DA σ τ) :=
  gMet_v (cr_X1_copyFrom l D cy σ τ X c hdis hc hk) (fun H h => gRep.same2 h (by
    intro a ha
    by_cases h1 : a = c
    · subst h1
      refine Or.inl ?_
      rw [bD_A hc, bD_A hc, bS_1 hk, bS_1 hk]
      have hz : ¬ (123 + a = a + 1) := by omega
      simp [p_X1_copyFrom, cpD, cpyR, updM, upd, hz]
    · by_cases h2 : a = c + 1
      · subst h2
        have q := kd_1 c hc hk
        refine Or.inr ⟨_, _, _, _, (bD_A q.1).trans (bS_22 q.2), (bD_A q.1).trans (bS_22 q.2), fun i hi => ?_⟩
        simp [p_X1_copyFrom, cpD, cpyR, updM, upd, va_cpy, hi]
      · have e : p_X1_copyFrom X c a = cpD X c 2 a := by
          simp only [p_X1_copyFrom, cpD, cpyR, updM, if_neg h1, if_neg h2]
          (repeat' (first | rw [if_neg (by omega)] | rfl))
        exact Or.inl (by rw [e])))
