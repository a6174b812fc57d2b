def p_X3_getsOff (X : gM) (c1 : Nat) (c2 : Nat) : Int32 × gM :=
  if X (c1 + 1) 3 = nI (10 * nLin c2 + nSta c2) then
    let X8 := p_X3_arrive X c1 c2
    (1, X8)
  else
    let X1 := (p_X4_takeCall X c2 (X (c1 + 1) 0)).2
    if (p_X4_takeCall X c2 (X (c1 + 1) 0)).1 = 0 then
      if f_X3_changesLines X1 c1 c2 = 0 then
        if X1 c1 13 = nI (10 * nLin c2 + nSta c2) then
          let X2 := updM X1 c1 2 ((X1 c1 2) - 1)
          if X2 c1 2 ≤ 0 then
            let X3 := p_X3_putOut X2 c1 c2 6 4
            (1, X3)
          else
            (0, X2)
        else
          (0, X1)
      else
        let X4 := p_X1_write X1 33 3 (nI (nTic c1)) (nI (nLin c2)) (nI (10 * nLin c2 + nSta c2)) (X1 0 7)
        let X5 := p_X5_enterHall X4 c1 (f_X7_lineTo (X4 (c1 + 1))) (X4 0 7)
        (1, X5)
    else
      let X6 := updM X1 c2 8 ((X1 c2 8) + 1)
      let X7 := p_X3_putOut X6 c1 c2 4 2
      (1, X7)
set_option maxHeartbeats 4000000 in
set_option maxRecDepth 100000 in
theorem c_X3_getsOff (l : Launch) (D : va_G) (cy : Nat → ClassId) (σ : Nat) (X : gM) (c1 : Nat) (c2 : Nat) (hc1 : c1 < 123) (hk1 : kdS c1 = 5) (hc2 : c2 < 123) (hk2 : kdS c2 = 4) : Met l yX3_getsOff wsX3_getsOff ({ frames := 2, cells := 0, slots := 0, locals := 50 }) (gP [.ref σ, .ref (σ + c1), .ref (σ + c2)] D cy (SR D cy σ X)) (gQi (p_X3_getsOff X c1 c2).1 (SR D cy σ (p_X3_getsOff X c1 c2).2) (SA σ)) 0 0 (SA σ) := by
  refine gm_met (cc := cX3_getsOff) (maxL := 3) (ret := (some .boolean)) [.ref σ, .ref (σ + c1), .ref (σ + c2)] (by decide) rfl (Nat.le_of_ble_eq_true rfl) ?_
  intro p e s m args below meth c0 ls C hR hl
  obtain ⟨hx, hb, hr, hts, hown, hlocks, hml, hK⟩ := C
  have hl : lv_has ls 3 [(0, .ref σ), (1, .ref (σ + c1)), (2, .ref (σ + c2))] := hl
  have hS : va_S (SA σ) s.heap s.heap [] := va_S.rf
  have lk125 := hts (.fieldLink RX3 125 "MercuryLine$Ticket" "trip" "LMercuryLine$Trip;") (by decide +kernel)
  have inX5 : ∀ w ∈ u_ws RX5 TX5 14, w ∈ wsX3_getsOff := by decide +kernel
  have lk105 := hts (.fieldLink RX3 105 "MercuryLine$Trip" "to" "I") (by decide +kernel)
  have inX7 : ∀ w ∈ u_ws RX7 TX7 5, w ∈ wsX3_getsOff := by decide +kernel
  have lk146 := hts (.fieldLink RX3 146 "MercuryLine$Station" "code" "I") (by decide +kernel)
  have inX4 : ∀ w ∈ u_ws RX4 TX4 10, w ∈ wsX3_getsOff := by decide +kernel
  have lk267 := hts (.fieldLink RX3 267 "MercuryLine$Trip" "value" "I") (by decide +kernel)
  have lk285 := hts (.fieldLink RX3 285 "MercuryLine$Ticket" "boardedAt" "I") (by decide +kernel)
  have lk288 := hts (.fieldLink RX3 288 "MercuryLine$Ticket" "lapsLeft" "I") (by decide +kernel)
  have lk38 := hts (.fieldLink RX3 38 "MercuryLine$State" "log" "LMercuryLine$Log;") (by decide +kernel)
  have inX3 : ∀ w ∈ u_ws RX3 TX3 14, w ∈ wsX3_getsOff := by decide +kernel
  have lk185 := hts (.fieldLink RX3 185 "MercuryLine$Ticket" "number" "I") (by decide +kernel)
  have lk138 := hts (.fieldLink RX3 138 "MercuryLine$Station" "line" "I") (by decide +kernel)
  have lk70 := hts (.fieldLink RX3 70 "MercuryLine$State" "tick" "I") (by decide +kernel)
  have lk273 := hts (.fieldLink RX3 273 "MercuryLine$Station" "calledOff" "I") (by decide +kernel)
  refine lv_aload_n hx hb dX3_getsOff_0 rfl (lv_at hl 1 rfl) ?_
  refine va_get (D := D) (ci := 5) (v := .ref (σ + (c1 + 1))) (C := RX5) (T := TX5) (N := 14) hx hb hts inX5 hown hK.1 (SR.mk1 hR (c := c1) hc1 (bS_5 hk1)) 0 rfl rfl 1 (by decide) lk125 (fun _ h9 => h9) rfl dX3_getsOff_1 ?_
  refine va_get (D := D) (ci := 7) (v := .int (X (c1 + 1) 3)) (C := RX7) (T := TX7) (N := 5) hx hb hts inX7 hown hK.1 (SR.mk1 hR (c := c1 + 1) (kd_5 c1 hc1 hk1).1 (bS_7 (kd_5 c1 hc1 hk1).2)) 0 rfl rfl 3 (by decide) lk105 (fun _ h9 => h9) rfl dX3_getsOff_4 ?_
  refine lv_aload_n hx hb dX3_getsOff_7 rfl (lv_at hl 2 rfl) ?_
  refine va_get (D := D) (ci := 4) (v := .int (nI (10 * nLin c2 + nSta c2))) (C := RX4) (T := TX4) (N := 10) hx hb hts inX4 hown hK.1 (SR.mk1 hR (c := c2) hc2 (bS_4 hk2)) 0 rfl rfl 1 (by decide) lk146 (fun _ h9 => h9) rfl dX3_getsOff_8 ?_
  refine lv_icmp_ne (tgt := 22) hx hb dX3_getsOff_11 (by decide) (fun c_1 => ?_) (fun c_1 => ?_)
  · refine lv_aload_n hx hb dX3_getsOff_22 rfl (lv_at hl 2 rfl) ?_
    refine lv_aload_n hx hb dX3_getsOff_23 rfl (lv_at hl 1 rfl) ?_
    refine va_get (D := D) (ci := 5) (v := .ref (σ + (c1 + 1))) (C := RX5) (T := TX5) (N := 14) hx hb hts inX5 hown hK.1 (SR.mk1 hR (c := c1) hc1 (bS_5 hk1)) 0 rfl rfl 1 (by decide) lk125 (fun _ h9 => h9) rfl dX3_getsOff_24 ?_
    refine va_get (D := D) (ci := 7) (v := .int (X (c1 + 1) 0)) (C := RX7) (T := TX7) (N := 5) hx hb hts inX7 hown hK.1 (SR.mk1 hR (c := c1 + 1) (kd_5 c1 hc1 hk1).1 (bS_7 (kd_5 c1 hc1 hk1).2)) 0 rfl rfl 0 (by decide) lk267 (fun _ h9 => h9) rfl dX3_getsOff_27 ?_
    refine gm_ci (gm_call (As := [.int (X (c1 + 1) 0)]) (rest := []) (ci := 4) (q := (RX4, TX4, 10)) ⟨hx, hb, hml, hown, hts⟩ hK (c_X4_takeCall l D cy σ X c2 (X (c1 + 1) 0) hc2 hk2) (cwV 1 hts gX3_getsOff_X4_takeCall rfl rfl rfl (by decide +kernel) ⟨Nat.le_of_ble_eq_true rfl, Nat.le_of_ble_eq_true rfl⟩) (SR.mk1 hR (c := c2) hc2 (bS_4 hk2)) rfl hR rfl hl.1 rfl (Nat.le_of_ble_eq_true rfl) dX3_getsOff_30 (Nat.zero_le _) (Nat.zero_le _)) hS (fun _ h => h) (fun H locs hR _ _ hS => ?_)
    obtain ⟨X1, eX1⟩ : ∃ Y : gM, Y = (p_X4_takeCall X c2 (X (c1 + 1) 0)).2 := ⟨_, rfl⟩
    rw [← eX1] at hR
    refine lv_if_eq (tgt := 56) hx hb dX3_getsOff_33 (by decide) (fun c_2 => ?_) (fun c_2 => ?_)
    · refine lv_aload_n hx hb dX3_getsOff_56 rfl (lv_at hl 0 rfl) ?_
      refine lv_aload_n hx hb dX3_getsOff_57 rfl (lv_at hl 1 rfl) ?_
      refine lv_aload_n hx hb dX3_getsOff_58 rfl (lv_at hl 2 rfl) ?_
      refine gm_ci (gm_call (As := [.ref (σ + c1), .ref (σ + c2)]) (rest := []) (ci := 3) (q := (RX3, TX3, 14)) ⟨hx, hb, hml, hown, hts⟩ hK (c_X3_changesLines l D cy σ X1 c1 c2 hc1 hk1 hc2 hk2) (cwV 2 hts gX3_getsOff_X3_changesLines rfl rfl rfl (by decide +kernel) ⟨Nat.le_of_ble_eq_true rfl, Nat.le_of_ble_eq_true rfl⟩) (SR.mk0 hR) rfl hR rfl hl.1 rfl (Nat.le_of_ble_eq_true rfl) dX3_getsOff_59 (Nat.zero_le _) (Nat.zero_le _)) hS (fun _ h => h.elim) (fun H locs _ _ hfr hS => ?_)
      have hR := gRep.keep hR hfr (fun _ _ h => h)
      refine lv_if_eq (tgt := 106) hx hb dX3_getsOff_62 (by decide) (fun c_3 => ?_) (fun c_3 => ?_)
      · refine lv_aload_n hx hb dX3_getsOff_106 rfl (lv_at hl 1 rfl) ?_
        refine va_get (D := D) (ci := 5) (v := .int (X1 c1 13)) (C := RX5) (T := TX5) (N := 14) hx hb hts inX5 hown hK.1 (SR.mk1 hR (c := c1) hc1 (bS_5 hk1)) 0 rfl rfl 13 (by decide) lk285 (fun _ h9 => h9) rfl dX3_getsOff_107 ?_
        refine lv_aload_n hx hb dX3_getsOff_110 rfl (lv_at hl 2 rfl) ?_
        refine va_get (D := D) (ci := 4) (v := .int (nI (10 * nLin c2 + nSta c2))) (C := RX4) (T := TX4) (N := 10) hx hb hts inX4 hown hK.1 (SR.mk1 hR (c := c2) hc2 (bS_4 hk2)) 0 rfl rfl 1 (by decide) lk146 (fun _ h9 => h9) rfl dX3_getsOff_111 ?_
        refine lv_icmp_eq (tgt := 119) hx hb dX3_getsOff_114 (by decide) (fun c_4 => ?_) (fun c_4 => ?_)
        · refine lv_aload_n hx hb dX3_getsOff_119 rfl (lv_at hl 1 rfl) ?_
          refine lv_dup hx hb dX3_getsOff_120 rfl ?_
          refine va_get (D := D) (ci := 5) (v := .int (X1 c1 2)) (C := RX5) (T := TX5) (N := 14) hx hb hts inX5 hown hK.1 (SR.mk1 hR (c := c1) hc1 (bS_5 hk1)) 0 rfl rfl 2 (by decide) lk288 (fun _ h9 => h9) rfl dX3_getsOff_121 ?_
          refine lv_iconst (v := 1) hx hb dX3_getsOff_124 (by decide) ?_
          refine lv_isub hx hb dX3_getsOff_125 ?_
          refine gm_put (v := .int ((X1 c1 2) - 1)) (ty := .int) (ci := 5) (C := RX5) (T := TX5) (N := 14) hx hb hts inX5 tyX5 tyX5_ok nmX5 hown hK.1 hR injS hS (a := c1) hc1 rfl (bS_5 hk1) rfl 2 (by decide) lk288 (fun _ h9 => h9) rfl (by decide +kernel) rfl rfl (Nat.le_of_ble_eq_true rfl) (j := 2) (x := (X1 c1 2) - 1) (by rw [bS_5 hk1]; rfl) dX3_getsOff_126 (fun H locs hR hS => ?_)
          obtain ⟨X2, eX2⟩ : ∃ Y : gM, Y = updM X1 c1 2 ((X1 c1 2) - 1) := ⟨_, rfl⟩
          rw [← eX2] at hR
          refine lv_aload_n hx hb dX3_getsOff_129 rfl (lv_at hl 1 rfl) ?_
          refine va_get (D := D) (ci := 5) (v := .int (X2 c1 2)) (C := RX5) (T := TX5) (N := 14) hx hb hts inX5 hown hK.1 (SR.mk1 hR (c := c1) hc1 (bS_5 hk1)) 0 rfl rfl 2 (by decide) lk288 (fun _ h9 => h9) rfl dX3_getsOff_130 ?_
          refine lv_if_le (tgt := 138) hx hb dX3_getsOff_133 (by decide) (fun c_5 => ?_) (fun c_5 => ?_)
          · refine lv_aload_n hx hb dX3_getsOff_138 rfl (lv_at hl 0 rfl) ?_
            refine lv_aload_n hx hb dX3_getsOff_139 rfl (lv_at hl 1 rfl) ?_
            refine lv_aload_n hx hb dX3_getsOff_140 rfl (lv_at hl 2 rfl) ?_
            refine lv_bipush (v := 6) hx hb dX3_getsOff_141 (by decide) ?_
            refine lv_iconst (v := 4) hx hb dX3_getsOff_143 (by decide) ?_
            refine gm_cv (gm_call (As := [.ref (σ + c1), .ref (σ + c2), .int 6, .int 4]) (rest := []) (ci := 3) (q := (RX3, TX3, 14)) ⟨hx, hb, hml, hown, hts⟩ hK (c_X3_putOut l D cy σ X2 c1 c2 6 4 hc1 hk1 hc2 hk2) (cwV 4 hts gX3_getsOff_X3_putOut rfl rfl rfl (by decide +kernel) ⟨Nat.le_of_ble_eq_true rfl, Nat.le_of_ble_eq_true rfl⟩) (SR.mk0 hR) rfl hR rfl hl.1 rfl (Nat.le_of_ble_eq_true rfl) dX3_getsOff_144 (Nat.zero_le _) (Nat.zero_le _)) hS (fun _ h => h) (fun H locs hR _ _ hS => ?_)
            obtain ⟨X3, eX3⟩ : ∃ Y : gM, Y = p_X3_putOut X2 c1 c2 6 4 := ⟨_, rfl⟩
            rw [← eX3] at hR
            refine lv_iconst (v := 1) hx hb dX3_getsOff_147 (by decide) ?_
            exact gm_zret hx hb hr hlocks rfl hS (by (try simp only [p_X3_getsOff, ↓if_neg c_1, ↓if_pos c_2, ↓if_pos c_3, ↓if_pos c_4, ↓if_pos c_5, ← eX1, ← eX2, ← eX3]); (try rfl)) (by (try simp only [p_X3_getsOff, ↓if_neg c_1, ↓if_pos c_2, ↓if_pos c_3, ↓if_pos c_4, ↓if_pos c_5, ← eX1, ← eX2, ← eX3]); exact hR) dX3_getsOff_148
          · refine lv_iconst (v := 0) hx hb dX3_getsOff_136 (by decide) ?_
            exact gm_zret hx hb hr hlocks rfl hS (by (try simp only [p_X3_getsOff, ↓if_neg c_1, ↓if_pos c_2, ↓if_pos c_3, ↓if_pos c_4, ↓if_neg c_5, ← eX1, ← eX2]); (try rfl)) (by (try simp only [p_X3_getsOff, ↓if_neg c_1, ↓if_pos c_2, ↓if_pos c_3, ↓if_pos c_4, ↓if_neg c_5, ← eX1, ← eX2]); exact hR) dX3_getsOff_137
        · refine lv_iconst (v := 0) hx hb dX3_getsOff_117 (by decide) ?_
          exact gm_zret hx hb hr hlocks rfl hS (by (try simp only [p_X3_getsOff, ↓if_neg c_1, ↓if_pos c_2, ↓if_pos c_3, ↓if_neg c_4, ← eX1]); (try rfl)) (by (try simp only [p_X3_getsOff, ↓if_neg c_1, ↓if_pos c_2, ↓if_pos c_3, ↓if_neg c_4, ← eX1]); exact hR) dX3_getsOff_118
      · refine lv_aload_n hx hb dX3_getsOff_65 rfl (lv_at hl 0 rfl) ?_
        refine va_get (D := D) (ci := 3) (v := .ref (σ + 33)) (C := RX3) (T := TX3) (N := 14) hx hb hts inX3 hown hK.1 (SR.mk0 hR) 0 rfl rfl 4 (by decide) lk38 (fun _ h9 => h9) rfl dX3_getsOff_66 ?_
        refine lv_iconst (v := 3) hx hb dX3_getsOff_69 (by decide) ?_
        refine lv_aload_n hx hb dX3_getsOff_70 rfl (lv_at hl 1 rfl) ?_
        refine va_get (D := D) (ci := 5) (v := .int (nI (nTic c1))) (C := RX5) (T := TX5) (N := 14) hx hb hts inX5 hown hK.1 (SR.mk1 hR (c := c1) hc1 (bS_5 hk1)) 0 rfl rfl 0 (by decide) lk185 (fun _ h9 => h9) rfl dX3_getsOff_71 ?_
        refine lv_aload_n hx hb dX3_getsOff_74 rfl (lv_at hl 2 rfl) ?_
        refine va_get (D := D) (ci := 4) (v := .int (nI (nLin c2))) (C := RX4) (T := TX4) (N := 10) hx hb hts inX4 hown hK.1 (SR.mk1 hR (c := c2) hc2 (bS_4 hk2)) 0 rfl rfl 0 (by decide) lk138 (fun _ h9 => h9) rfl dX3_getsOff_75 ?_
        refine lv_aload_n hx hb dX3_getsOff_78 rfl (lv_at hl 2 rfl) ?_
        refine va_get (D := D) (ci := 4) (v := .int (nI (10 * nLin c2 + nSta c2))) (C := RX4) (T := TX4) (N := 10) hx hb hts inX4 hown hK.1 (SR.mk1 hR (c := c2) hc2 (bS_4 hk2)) 0 rfl rfl 1 (by decide) lk146 (fun _ h9 => h9) rfl dX3_getsOff_79 ?_
        refine lv_aload_n hx hb dX3_getsOff_82 rfl (lv_at hl 0 rfl) ?_
        refine va_get (D := D) (ci := 3) (v := .int (X1 0 7)) (C := RX3) (T := TX3) (N := 14) hx hb hts inX3 hown hK.1 (SR.mk0 hR) 0 rfl rfl 7 (by decide) lk70 (fun _ h9 => h9) rfl dX3_getsOff_83 ?_
        refine gm_cv (gm_call (As := [.int 3, .int (nI (nTic c1)), .int (nI (nLin c2)), .int (nI (10 * nLin c2 + nSta c2)), .int (X1 0 7)]) (rest := []) (ci := 1) (q := (RX1, TX1, 3)) ⟨hx, hb, hml, hown, hts⟩ hK (c_X1_write l D cy σ X1 33 3 (nI (nTic c1)) (nI (nLin c2)) (nI (10 * nLin c2 + nSta c2)) (X1 0 7) (by decide) (by decide)) (cwV 5 hts gX3_getsOff_X1_write rfl rfl rfl (by decide +kernel) ⟨Nat.le_of_ble_eq_true rfl, Nat.le_of_ble_eq_true rfl⟩) (SR.mk1 hR (c := 33) (by decide) (bS_1 (by decide))) rfl hR rfl hl.1 rfl (Nat.le_of_ble_eq_true rfl) dX3_getsOff_86 (Nat.zero_le _) (Nat.zero_le _)) hS (fun _ h => h) (fun H locs hR _ _ hS => ?_)
        obtain ⟨X4, eX4⟩ : ∃ Y : gM, Y = p_X1_write X1 33 3 (nI (nTic c1)) (nI (nLin c2)) (nI (10 * nLin c2 + nSta c2)) (X1 0 7) := ⟨_, rfl⟩
        rw [← eX4] at hR
        refine lv_aload_n hx hb dX3_getsOff_89 rfl (lv_at hl 1 rfl) ?_
        refine lv_aload_n hx hb dX3_getsOff_90 rfl (lv_at hl 1 rfl) ?_
        refine va_get (D := D) (ci := 5) (v := .ref (σ + (c1 + 1))) (C := RX5) (T := TX5) (N := 14) hx hb hts inX5 hown hK.1 (SR.mk1 hR (c := c1) hc1 (bS_5 hk1)) 0 rfl rfl 1 (by decide) lk125 (fun _ h9 => h9) rfl dX3_getsOff_91 ?_
        refine gm_ci (gm_call (As := []) (rest := [.ref (σ + c1)]) (ci := 7) (q := (RX7, TX7, 5)) ⟨hx, hb, hml, hown, hts⟩ hK (c_X7_lineTo l D cy (σ + (c1 + 1)) (X4 (c1 + 1))) (cwV 0 hts gX3_getsOff_X7_lineTo rfl rfl rfl (by decide +kernel) ⟨Nat.le_of_ble_eq_true rfl, Nat.le_of_ble_eq_true rfl⟩) (SR.mk1 hR (c := c1 + 1) (kd_5 c1 hc1 hk1).1 (bS_7 (kd_5 c1 hc1 hk1).2)) rfl (SR.mk1 hR (c := c1 + 1) (kd_5 c1 hc1 hk1).1 (bS_7 (kd_5 c1 hc1 hk1).2)) rfl hl.1 rfl (Nat.le_of_ble_eq_true rfl) dX3_getsOff_94 (Nat.zero_le _) (Nat.zero_le _)) hS (fun _ h => h.elim) (fun H locs _ _ hfr hS => ?_)
        have hR := gRep.keep hR hfr (fun _ _ h => h)
        refine lv_aload_n hx hb dX3_getsOff_97 rfl (lv_at hl 0 rfl) ?_
        refine va_get (D := D) (ci := 3) (v := .int (X4 0 7)) (C := RX3) (T := TX3) (N := 14) hx hb hts inX3 hown hK.1 (SR.mk0 hR) 0 rfl rfl 7 (by decide) lk70 (fun _ h9 => h9) rfl dX3_getsOff_98 ?_
        refine gm_cv (gm_call (As := [.int (f_X7_lineTo (X4 (c1 + 1))), .int (X4 0 7)]) (rest := []) (ci := 5) (q := (RX5, TX5, 14)) ⟨hx, hb, hml, hown, hts⟩ hK (c_X5_enterHall l D cy σ X4 c1 (f_X7_lineTo (X4 (c1 + 1))) (X4 0 7) hc1 hk1) (cwV 2 hts gX3_getsOff_X5_enterHall rfl rfl rfl (by decide +kernel) ⟨Nat.le_of_ble_eq_true rfl, Nat.le_of_ble_eq_true rfl⟩) (SR.mk1 hR (c := c1) hc1 (bS_5 hk1)) rfl hR rfl hl.1 rfl (Nat.le_of_ble_eq_true rfl) dX3_getsOff_101 (Nat.zero_le _) (Nat.zero_le _)) hS (fun _ h => h) (fun H locs hR _ _ hS => ?_)
        obtain ⟨X5, eX5⟩ : ∃ Y : gM, Y = p_X5_enterHall X4 c1 (f_X7_lineTo (X4 (c1 + 1))) (X4 0 7) := ⟨_, rfl⟩
        rw [← eX5] at hR
        refine lv_iconst (v := 1) hx hb dX3_getsOff_104 (by decide) ?_
        exact gm_zret hx hb hr hlocks rfl hS (by (try simp only [p_X3_getsOff, ↓if_neg c_1, ↓if_pos c_2, ↓if_neg c_3, ← eX1, ← eX4, ← eX5]); (try rfl)) (by (try simp only [p_X3_getsOff, ↓if_neg c_1, ↓if_pos c_2, ↓if_neg c_3, ← eX1, ← eX4, ← eX5]); exact hR) dX3_getsOff_105
    · refine lv_aload_n hx hb dX3_getsOff_36 rfl (lv_at hl 2 rfl) ?_
      refine lv_dup hx hb dX3_getsOff_37 rfl ?_
      refine va_get (D := D) (ci := 4) (v := .int (X1 c2 8)) (C := RX4) (T := TX4) (N := 10) hx hb hts inX4 hown hK.1 (SR.mk1 hR (c := c2) hc2 (bS_4 hk2)) 0 rfl rfl 8 (by decide) lk273 (fun _ h9 => h9) rfl dX3_getsOff_38 ?_
      refine lv_iconst (v := 1) hx hb dX3_getsOff_41 (by decide) ?_
      refine lv_iadd hx hb dX3_getsOff_42 ?_
      refine gm_put (v := .int ((X1 c2 8) + 1)) (ty := .int) (ci := 4) (C := RX4) (T := TX4) (N := 10) hx hb hts inX4 tyX4 tyX4_ok nmX4 hown hK.1 hR injS hS (a := c2) hc2 rfl (bS_4 hk2) rfl 8 (by decide) lk273 (fun _ h9 => h9) rfl (by decide +kernel) rfl rfl (Nat.le_of_ble_eq_true rfl) (j := 8) (x := (X1 c2 8) + 1) (by rw [bS_4 hk2]; rfl) dX3_getsOff_43 (fun H locs hR hS => ?_)
      obtain ⟨X6, eX6⟩ : ∃ Y : gM, Y = updM X1 c2 8 ((X1 c2 8) + 1) := ⟨_, rfl⟩
      rw [← eX6] at hR
      refine lv_aload_n hx hb dX3_getsOff_46 rfl (lv_at hl 0 rfl) ?_
      refine lv_aload_n hx hb dX3_getsOff_47 rfl (lv_at hl 1 rfl) ?_
      refine lv_aload_n hx hb dX3_getsOff_48 rfl (lv_at hl 2 rfl) ?_
      refine lv_iconst (v := 4) hx hb dX3_getsOff_49 (by decide) ?_
      refine lv_iconst (v := 2) hx hb dX3_getsOff_50 (by decide) ?_
      refine gm_cv (gm_call (As := [.ref (σ + c1), .ref (σ + c2), .int 4, .int 2]) (rest := []) (ci := 3) (q := (RX3, TX3, 14)) ⟨hx, hb, hml, hown, hts⟩ hK (c_X3_putOut l D cy σ X6 c1 c2 4 2 hc1 hk1 hc2 hk2) (cwV 4 hts gX3_getsOff_X3_putOut rfl rfl rfl (by decide +kernel) ⟨Nat.le_of_ble_eq_true rfl, Nat.le_of_ble_eq_true rfl⟩) (SR.mk0 hR) rfl hR rfl hl.1 rfl (Nat.le_of_ble_eq_true rfl) dX3_getsOff_51 (Nat.zero_le _) (Nat.zero_le _)) hS (fun _ h => h) (fun H locs hR _ _ hS => ?_)
      obtain ⟨X7, eX7⟩ : ∃ Y : gM, Y = p_X3_putOut X6 c1 c2 4 2 := ⟨_, rfl⟩
      rw [← eX7] at hR
      refine lv_iconst (v := 1) hx hb dX3_getsOff_54 (by decide) ?_
      exact gm_zret hx hb hr hlocks rfl hS (by (try simp only [p_X3_getsOff, ↓if_neg c_1, ↓if_neg c_2, ← eX1, ← eX6, ← eX7]); (try rfl)) (by (try simp only [p_X3_getsOff, ↓if_neg c_1, ↓if_neg c_2, ← eX1, ← eX6, ← eX7]); exact hR) dX3_getsOff_55
  · refine lv_aload_n hx hb dX3_getsOff_14 rfl (lv_at hl 0 rfl) ?_
    refine lv_aload_n hx hb dX3_getsOff_15 rfl (lv_at hl 1 rfl) ?_
    refine lv_aload_n hx hb dX3_getsOff_16 rfl (lv_at hl 2 rfl) ?_
    refine gm_cv (gm_call (As := [.ref (σ + c1), .ref (σ + c2)]) (rest := []) (ci := 3) (q := (RX3, TX3, 14)) ⟨hx, hb, hml, hown, hts⟩ hK (c_X3_arrive l D cy σ X c1 c2 hc1 hk1 hc2 hk2) (cwV 2 hts gX3_getsOff_X3_arrive rfl rfl rfl (by decide +kernel) ⟨Nat.le_of_ble_eq_true rfl, Nat.le_of_ble_eq_true rfl⟩) (SR.mk0 hR) rfl hR rfl hl.1 rfl (Nat.le_of_ble_eq_true rfl) dX3_getsOff_17 (Nat.zero_le _) (Nat.zero_le _)) hS (fun _ h => h) (fun H locs hR _ _ hS => ?_)
    obtain ⟨X8, eX8⟩ : ∃ Y : gM, Y = p_X3_arrive X c1 c2 := ⟨_, rfl⟩
    rw [← eX8] at hR
    refine lv_iconst (v := 1) hx hb dX3_getsOff_20 (by decide) ?_
    exact gm_zret hx hb hr hlocks rfl hS (by (try simp only [p_X3_getsOff, ↓if_pos c_1, ← eX8]); (try rfl)) (by (try simp only [p_X3_getsOff, ↓if_pos c_1, ← eX8]); exact hR) dX3_getsOff_21
