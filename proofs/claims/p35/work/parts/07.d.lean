def p_X8_build (X : gM) (a1 : Int32) (a2 : Int32) : Int32 × gM :=
  if f_X8_isLine a1 = 0 then
    ((-1), X)
  else
    if f_X8_within a2 2 24 = 0 then
      ((-2), X)
    else
      if 0 < f_X0_riderCount (vw 0 X) (f_X3_lineOf (vw 0 X) a1) then
        ((-4), X)
      else
        if f_X0_hasOffsetFrom (vw 0 X) (f_X3_lineOf (vw 0 X) a1) a2 = 0 then
          if vw 0 X (f_X3_lineOf (vw 0 X) a1) 4 = a2 then
            ((-5), X)
          else
            let X1 := p_X8_recordState X
            let X2 := putS X1 0 (p_X0_rebuild (vw 0 X1) (f_X3_lineOf (vw 0 X) a1) a2)
            (vw 0 X (f_X3_lineOf (vw 0 X) a1) 4, X2)
        else
          ((-4), X)
set_option maxHeartbeats 4000000 in
set_option maxRecDepth 100000 in
theorem c_X8_build (l : Launch) (D : va_G) (cy : Nat → ClassId) (β : Nat) (X : gM) (a1 : Int32) (a2 : Int32) (hh : HOK X) : Met l yX8_build wsX8_build ({ frames := 5, cells := 0, slots := 0, locals := 111 }) (gP [.ref β, .int a1, .int a2] D cy (TR D cy β X)) (gQi (p_X8_build X a1 a2).1 (TR D cy β (p_X8_build X a1 a2).2) (TA β)) 0 0 (TA β) := by
  refine gm_met (cc := cX8_build) (maxL := 5) (ret := (some .int)) [.ref β, .int a1, .int a2] (by decide) rfl (Nat.le_of_ble_eq_true rfl) ?_
  intro p e s m args below meth c0 ls C hR hl
  obtain ⟨hx, hb, hr, hts, hown, hlocks, hml, hK⟩ := C
  have hl : lv_has ls 5 [(0, .ref β), (1, .int a1), (2, .int a2)] := hl
  have hS : va_S (TA β) s.heap s.heap [] := va_S.rf
  have lk10 := hts (.fieldLink RX8 10 "MercuryLine" "now" "LMercuryLine$State;") (by decide +kernel)
  have inX8 : ∀ w ∈ u_ws RX8 TX8 8, w ∈ wsX8_build := by decide +kernel
  have lk61 := hts (.fieldLink RX8 61 "MercuryLine$Line" "slots" "I") (by decide +kernel)
  have inX0 : ∀ w ∈ u_ws RX0 TX0 10, w ∈ wsX8_build := by decide +kernel
  refine lv_iload_n hx hb dX8_build_0 rfl (lv_at hl 1 rfl) ?_
  refine gm_ci (gm_callS (As := [.int a1]) (rest := []) ⟨hx, hb, hml, hown, hts⟩ hK (c_X8_isLine l D cy a1) (va_cwS 1 hts gX8_build_X8_isLine rfl rfl rfl (by decide +kernel) ⟨Nat.le_of_ble_eq_true rfl, Nat.le_of_ble_eq_true rfl⟩) trivial rfl hl.1 rfl (Nat.le_of_ble_eq_true rfl) dX8_build_1 (Nat.zero_le _) (Nat.zero_le _)) hS (fun _ h => h.elim) (fun H locs _ _ hfr hS => ?_)
  have hR := gRep.keep hR hfr (fun _ _ h => h)
  refine lv_if_ne (tgt := 9) hx hb dX8_build_4 (by decide) (fun c_1 => ?_) (fun c_1 => ?_)
  · refine lv_iload_n hx hb dX8_build_9 rfl (lv_at hl 2 rfl) ?_
    refine lv_iconst (v := 2) hx hb dX8_build_10 (by decide) ?_
    refine lv_bipush (v := 24) hx hb dX8_build_11 (by decide) ?_
    refine gm_ci (gm_callS (As := [.int a2, .int 2, .int 24]) (rest := []) ⟨hx, hb, hml, hown, hts⟩ hK (c_X8_within l D cy a2 2 24) (va_cwS 3 hts gX8_build_X8_within rfl rfl rfl (by decide +kernel) ⟨Nat.le_of_ble_eq_true rfl, Nat.le_of_ble_eq_true rfl⟩) trivial rfl hl.1 rfl (Nat.le_of_ble_eq_true rfl) dX8_build_13 (Nat.zero_le _) (Nat.zero_le _)) hS (fun _ h => h.elim) (fun H locs _ _ hfr hS => ?_)
    have hR := gRep.keep hR hfr (fun _ _ h => h)
    refine lv_if_ne (tgt := 22) hx hb dX8_build_16 (by decide) (fun c_2 => ?_) (fun c_2 => ?_)
    · refine lv_aload_n hx hb dX8_build_22 rfl (lv_at hl 0 rfl) ?_
      refine va_get (D := D) (ci := 8) (v := .ref (β + off 0)) (C := RX8) (T := TX8) (N := 8) hx hb hts inX8 hown hK.1 (TR.mk0 hR) 0 rfl rfl 0 (by decide) lk10 (fun _ h9 => h9) rfl dX8_build_23 ?_
      refine lv_iload_n hx hb dX8_build_26 rfl (lv_at hl 1 rfl) ?_
      refine gm_cq (gm_call (As := [.int a1]) (rest := []) (ci := 3) (q := (RX3, TX3, 14)) ⟨hx, hb, hml, hown, hts⟩ hK (c_X3_lineOf l D cy (β + off 0) (vw 0 X) a1) (cwV 1 hts gX8_build_X3_lineOf rfl rfl rfl (by decide +kernel) ⟨Nat.le_of_ble_eq_true rfl, Nat.le_of_ble_eq_true rfl⟩) (SR.mk0 (TR.st hR (by decide))) rfl (TR.st hR (by decide)) rfl hl.1 rfl (Nat.le_of_ble_eq_true rfl) dX8_build_27 (Nat.zero_le _) (Nat.zero_le _)) hS (fun _ h => h.elim) (fun H locs _ _ hfr hS => ?_)
      have hR := gRep.keep hR hfr (fun _ _ h => h)
      refine W.eq (g2 := F0 m 30 ls [.ref (β + off 0 + (f_X3_lineOf (vw 0 X) a1))]) rfl ?_
      refine lv_astore_n (lv' := [(3, .ref (β + off 0 + (f_X3_lineOf (vw 0 X) a1))), (0, .ref β), (1, .int a1), (2, .int a2)]) hx hb dX8_build_30 rfl hl (by decide) rfl (fun ls hl => ?_)
      refine lv_aload_n hx hb dX8_build_31 rfl (lv_at hl 0 rfl) ?_
      refine gm_ci (gm_call (As := []) (rest := []) (ci := 0) (q := (RX0, TX0, 10)) ⟨hx, hb, hml, hown, hts⟩ hK (c_X0_riderCount l D cy (β + off 0) (vw 0 X) (f_X3_lineOf (vw 0 X) a1) (fk_X3_lineOf (vw 0 X) a1).1 (fk_X3_lineOf (vw 0 X) a1).2) (cwV 0 hts gX8_build_X0_riderCount rfl rfl rfl (by decide +kernel) ⟨Nat.le_of_ble_eq_true rfl, Nat.le_of_ble_eq_true rfl⟩) (SR.mk1 (TR.st hR (by decide)) (c := f_X3_lineOf (vw 0 X) a1) (fk_X3_lineOf (vw 0 X) a1).1 (bS_0 (fk_X3_lineOf (vw 0 X) a1).2)) rfl (TR.st hR (by decide)) rfl hl.1 rfl (Nat.le_of_ble_eq_true rfl) dX8_build_32 (Nat.zero_le _) (Nat.zero_le _)) hS (fun _ h => h.elim) (fun H locs _ _ hfr hS => ?_)
      have hR := gRep.keep hR hfr (fun _ _ h => h)
      refine lv_if_gt (tgt := 46) hx hb dX8_build_35 (by decide) (fun c_3 => ?_) (fun c_3 => ?_)
      · refine lv_bipush (v := (-4)) hx hb dX8_build_46 (by decide) ?_
        exact gm_iret hx hb hr hlocks hS (by (try simp only [p_X8_build, ↓if_neg c_1, ↓if_neg c_2, ↓if_pos c_3]); (try rfl)) (by (try simp only [p_X8_build, ↓if_neg c_1, ↓if_neg c_2, ↓if_pos c_3]); exact hR) dX8_build_48
      · refine lv_aload_n hx hb dX8_build_38 rfl (lv_at hl 0 rfl) ?_
        refine lv_iload_n hx hb dX8_build_39 rfl (lv_at hl 3 rfl) ?_
        refine gm_ci (gm_call (As := [.int a2]) (rest := []) (ci := 0) (q := (RX0, TX0, 10)) ⟨hx, hb, hml, hown, hts⟩ hK (c_X0_hasOffsetFrom l D cy (β + off 0) (vw 0 X) (f_X3_lineOf (vw 0 X) a1) a2 (fk_X3_lineOf (vw 0 X) a1).1 (fk_X3_lineOf (vw 0 X) a1).2) (cwV 1 hts gX8_build_X0_hasOffsetFrom rfl rfl rfl (by decide +kernel) ⟨Nat.le_of_ble_eq_true rfl, Nat.le_of_ble_eq_true rfl⟩) (SR.mk1 (TR.st hR (by decide)) (c := f_X3_lineOf (vw 0 X) a1) (fk_X3_lineOf (vw 0 X) a1).1 (bS_0 (fk_X3_lineOf (vw 0 X) a1).2)) rfl (TR.st hR (by decide)) rfl hl.1 rfl (Nat.le_of_ble_eq_true rfl) dX8_build_40 (Nat.zero_le _) (Nat.zero_le _)) hS (fun _ h => h.elim) (fun H locs _ _ hfr hS => ?_)
        have hR := gRep.keep hR hfr (fun _ _ h => h)
        refine lv_if_eq (tgt := 49) hx hb dX8_build_43 (by decide) (fun c_4 => ?_) (fun c_4 => ?_)
        · refine lv_aload_n hx hb dX8_build_49 rfl (lv_at hl 0 rfl) ?_
          refine va_get (D := D) (ci := 0) (v := .int (vw 0 X (f_X3_lineOf (vw 0 X) a1) 4)) (C := RX0) (T := TX0) (N := 10) hx hb hts inX0 hown hK.1 (SR.mk1 (TR.st hR (by decide)) (c := f_X3_lineOf (vw 0 X) a1) (fk_X3_lineOf (vw 0 X) a1).1 (bS_0 (fk_X3_lineOf (vw 0 X) a1).2)) 0 rfl rfl 4 (by decide) lk61 (fun _ h9 => h9) rfl dX8_build_50 ?_
          refine lv_istore (lv' := [(4, .int (vw 0 X (f_X3_lineOf (vw 0 X) a1) 4)), (3, .ref (β + off 0 + (f_X3_lineOf (vw 0 X) a1))), (0, .ref β), (1, .int a1), (2, .int a2)]) hx hb dX8_build_53 hl (by decide) rfl (fun ls hl => ?_)
          refine lv_iload hx hb dX8_build_55 (lv_at hl 0 rfl) ?_
          refine lv_iload_n hx hb dX8_build_57 rfl (lv_at hl 4 rfl) ?_
          refine lv_icmp_ne (tgt := 64) hx hb dX8_build_58 (by decide) (fun c_5 => ?_) (fun c_5 => ?_)
          · refine lv_aload_n hx hb dX8_build_64 rfl (lv_at hl 2 rfl) ?_
            refine gm_cv (gm_call (As := []) (rest := []) (ci := 8) (q := (RX8, TX8, 8)) ⟨hx, hb, hml, hown, hts⟩ hK (c_X8_recordState l D cy β X hh) (cwV 0 hts gX8_build_X8_recordState rfl rfl rfl (by decide +kernel) ⟨Nat.le_of_ble_eq_true rfl, Nat.le_of_ble_eq_true rfl⟩) (TR.mk0 hR) rfl hR rfl hl.1 rfl (Nat.le_of_ble_eq_true rfl) dX8_build_65 (Nat.zero_le _) (Nat.zero_le _)) hS (fun _ h => h) (fun H locs hR _ _ hS => ?_)
            obtain ⟨X1, eX1⟩ : ∃ Y : gM, Y = p_X8_recordState X := ⟨_, rfl⟩
            rw [← eX1] at hR
            refine lv_aload_n hx hb dX8_build_68 rfl (lv_at hl 1 rfl) ?_
            refine lv_iload_n hx hb dX8_build_69 rfl (lv_at hl 4 rfl) ?_
            refine gm_cv (gm_call (As := [.int a2]) (rest := []) (ci := 0) (q := (RX0, TX0, 10)) ⟨hx, hb, hml, hown, hts⟩ hK (c_X0_rebuild l D cy (β + off 0) (vw 0 X1) (f_X3_lineOf (vw 0 X) a1) a2 (fk_X3_lineOf (vw 0 X) a1).1 (fk_X3_lineOf (vw 0 X) a1).2) (cwV 1 hts gX8_build_X0_rebuild rfl rfl rfl (by decide +kernel) ⟨Nat.le_of_ble_eq_true rfl, Nat.le_of_ble_eq_true rfl⟩) (SR.mk1 (TR.st hR (by decide)) (c := f_X3_lineOf (vw 0 X) a1) (fk_X3_lineOf (vw 0 X) a1).1 (bS_0 (fk_X3_lineOf (vw 0 X) a1).2)) rfl (TR.st hR (by decide)) rfl hl.1 rfl (Nat.le_of_ble_eq_true rfl) dX8_build_70 (Nat.zero_le _) (Nat.zero_le _)) hS (TA_S (by decide)) (fun H locs hRR _ hfr hS => ?_)
            have hR := TR.mrgS hR (by decide) hRR hfr
            obtain ⟨X2, eX2⟩ : ∃ Y : gM, Y = putS X1 0 (p_X0_rebuild (vw 0 X1) (f_X3_lineOf (vw 0 X) a1) a2) := ⟨_, rfl⟩
            rw [← eX2] at hR
            refine lv_iload hx hb dX8_build_73 (lv_at hl 0 rfl) ?_
            exact gm_iret hx hb hr hlocks hS (by (try simp only [p_X8_build, ↓if_neg c_1, ↓if_neg c_2, ↓if_neg c_3, ↓if_pos c_4, ↓if_neg c_5, ← eX1, ← eX2]); (try rfl)) (by (try simp only [p_X8_build, ↓if_neg c_1, ↓if_neg c_2, ↓if_neg c_3, ↓if_pos c_4, ↓if_neg c_5, ← eX1, ← eX2]); exact hR) dX8_build_75
          · refine lv_bipush (v := (-5)) hx hb dX8_build_61 (by decide) ?_
            exact gm_iret hx hb hr hlocks hS (by (try simp only [p_X8_build, ↓if_neg c_1, ↓if_neg c_2, ↓if_neg c_3, ↓if_pos c_4, ↓if_pos c_5]); (try rfl)) (by (try simp only [p_X8_build, ↓if_neg c_1, ↓if_neg c_2, ↓if_neg c_3, ↓if_pos c_4, ↓if_pos c_5]); exact hR) dX8_build_63
        · refine lv_bipush (v := (-4)) hx hb dX8_build_46 (by decide) ?_
          exact gm_iret hx hb hr hlocks hS (by (try simp only [p_X8_build, ↓if_neg c_1, ↓if_neg c_2, ↓if_neg c_3, ↓if_neg c_4]); (try rfl)) (by (try simp only [p_X8_build, ↓if_neg c_1, ↓if_neg c_2, ↓if_neg c_3, ↓if_neg c_4]); exact hR) dX8_build_48
    · refine lv_bipush (v := (-2)) hx hb dX8_build_19 (by decide) ?_
      exact gm_iret hx hb hr hlocks hS (by (try simp only [p_X8_build, ↓if_neg c_1, ↓if_pos c_2]); (try rfl)) (by (try simp only [p_X8_build, ↓if_neg c_1, ↓if_pos c_2]); exact hR) dX8_build_21
  · refine lv_iconst (v := (-1)) hx hb dX8_build_7 (by decide) ?_
    exact gm_iret hx hb hr hlocks hS (by (try simp only [p_X8_build, ↓if_pos c_1]); (try rfl)) (by (try simp only [p_X8_build, ↓if_pos c_1]); exact hR) dX8_build_8
def p_X8_addStation (X : gM) (a1 : Int32) (a2 : Int32) : Int32 × gM :=
  if f_X8_isLine a1 = 0 then
    ((-1), X)
  else
    if f_X8_within a2 0 ((vw 0 X (f_X3_lineOf (vw 0 X) a1) 4) - 1) = 0 then
      ((-2), X)
    else
      if f_X0_hasOffset (vw 0 X) (f_X3_lineOf (vw 0 X) a1) a2 = 0 then
        if vw 0 X (f_X3_lineOf (vw 0 X) a1) 3 < 6 then
          let X1 := p_X8_recordState X
          let X2 := putS X1 0 ((p_X0_openStation (vw 0 X1) (f_X3_lineOf (vw 0 X) a1) a2).2)
          ((p_X0_openStation (vw 0 X1) (f_X3_lineOf (vw 0 X) a1) a2).1, X2)
        else
          ((-3), X)
      else
        ((-4), X)
set_option maxHeartbeats 4000000 in
set_option maxRecDepth 100000 in
theorem c_X8_addStation (l : Launch) (D : va_G) (cy : Nat → ClassId) (β : Nat) (X : gM) (a1 : Int32) (a2 : Int32) (hh : HOK X) : Met l yX8_addStation wsX8_addStation ({ frames := 5, cells := 0, slots := 0, locals := 111 }) (gP [.ref β, .int a1, .int a2] D cy (TR D cy β X)) (gQi (p_X8_addStation X a1 a2).1 (TR D cy β (p_X8_addStation X a1 a2).2) (TA β)) 0 0 (TA β) := by
  refine gm_met (cc := cX8_addStation) (maxL := 4) (ret := (some .int)) [.ref β, .int a1, .int a2] (by decide) rfl (Nat.le_of_ble_eq_true rfl) ?_
  intro p e s m args below meth c0 ls C hR hl
  obtain ⟨hx, hb, hr, hts, hown, hlocks, hml, hK⟩ := C
  have hl : lv_has ls 4 [(0, .ref β), (1, .int a1), (2, .int a2)] := hl
  have hS : va_S (TA β) s.heap s.heap [] := va_S.rf
  have lk10 := hts (.fieldLink RX8 10 "MercuryLine" "now" "LMercuryLine$State;") (by decide +kernel)
  have inX8 : ∀ w ∈ u_ws RX8 TX8 8, w ∈ wsX8_addStation := by decide +kernel
  have lk61 := hts (.fieldLink RX8 61 "MercuryLine$Line" "slots" "I") (by decide +kernel)
  have inX0 : ∀ w ∈ u_ws RX0 TX0 10, w ∈ wsX8_addStation := by decide +kernel
  have lk75 := hts (.fieldLink RX8 75 "MercuryLine$Line" "stationCount" "I") (by decide +kernel)
  refine lv_iload_n hx hb dX8_addStation_0 rfl (lv_at hl 1 rfl) ?_
  refine gm_ci (gm_callS (As := [.int a1]) (rest := []) ⟨hx, hb, hml, hown, hts⟩ hK (c_X8_isLine l D cy a1) (va_cwS 1 hts gX8_addStation_X8_isLine rfl rfl rfl (by decide +kernel) ⟨Nat.le_of_ble_eq_true rfl, Nat.le_of_ble_eq_true rfl⟩) trivial rfl hl.1 rfl (Nat.le_of_ble_eq_true rfl) dX8_addStation_1 (Nat.zero_le _) (Nat.zero_le _)) hS (fun _ h => h.elim) (fun H locs _ _ hfr hS => ?_)
  have hR := gRep.keep hR hfr (fun _ _ h => h)
  refine lv_if_ne (tgt := 9) hx hb dX8_addStation_4 (by decide) (fun c_1 => ?_) (fun c_1 => ?_)
  · refine lv_aload_n hx hb dX8_addStation_9 rfl (lv_at hl 0 rfl) ?_
    refine va_get (D := D) (ci := 8) (v := .ref (β + off 0)) (C := RX8) (T := TX8) (N := 8) hx hb hts inX8 hown hK.1 (TR.mk0 hR) 0 rfl rfl 0 (by decide) lk10 (fun _ h9 => h9) rfl dX8_addStation_10 ?_
    refine lv_iload_n hx hb dX8_addStation_13 rfl (lv_at hl 1 rfl) ?_
    refine gm_cq (gm_call (As := [.int a1]) (rest := []) (ci := 3) (q := (RX3, TX3, 14)) ⟨hx, hb, hml, hown, hts⟩ hK (c_X3_lineOf l D cy (β + off 0) (vw 0 X) a1) (cwV 1 hts gX8_addStation_X3_lineOf rfl rfl rfl (by decide +kernel) ⟨Nat.le_of_ble_eq_true rfl, Nat.le_of_ble_eq_true rfl⟩) (SR.mk0 (TR.st hR (by decide))) rfl (TR.st hR (by decide)) rfl hl.1 rfl (Nat.le_of_ble_eq_true rfl) dX8_addStation_14 (Nat.zero_le _) (Nat.zero_le _)) hS (fun _ h => h.elim) (fun H locs _ _ hfr hS => ?_)
    have hR := gRep.keep hR hfr (fun _ _ h => h)
    refine W.eq (g2 := F0 m 17 ls [.ref (β + off 0 + (f_X3_lineOf (vw 0 X) a1))]) rfl ?_
    refine lv_astore_n (lv' := [(3, .ref (β + off 0 + (f_X3_lineOf (vw 0 X) a1))), (0, .ref β), (1, .int a1), (2, .int a2)]) hx hb dX8_addStation_17 rfl hl (by decide) rfl (fun ls hl => ?_)
    refine lv_iload_n hx hb dX8_addStation_18 rfl (lv_at hl 3 rfl) ?_
    refine lv_iconst (v := 0) hx hb dX8_addStation_19 (by decide) ?_
    refine lv_aload_n hx hb dX8_addStation_20 rfl (lv_at hl 0 rfl) ?_
    refine va_get (D := D) (ci := 0) (v := .int (vw 0 X (f_X3_lineOf (vw 0 X) a1) 4)) (C := RX0) (T := TX0) (N := 10) hx hb hts inX0 hown hK.1 (SR.mk1 (TR.st hR (by decide)) (c := f_X3_lineOf (vw 0 X) a1) (fk_X3_lineOf (vw 0 X) a1).1 (bS_0 (fk_X3_lineOf (vw 0 X) a1).2)) 0 rfl rfl 4 (by decide) lk61 (fun _ h9 => h9) rfl dX8_addStation_21 ?_
    refine lv_iconst (v := 1) hx hb dX8_addStation_24 (by decide) ?_
    refine lv_isub hx hb dX8_addStation_25 ?_
    refine gm_ci (gm_callS (As := [.int a2, .int 0, .int ((vw 0 X (f_X3_lineOf (vw 0 X) a1) 4) - 1)]) (rest := []) ⟨hx, hb, hml, hown, hts⟩ hK (c_X8_within l D cy a2 0 ((vw 0 X (f_X3_lineOf (vw 0 X) a1) 4) - 1)) (va_cwS 3 hts gX8_addStation_X8_within rfl rfl rfl (by decide +kernel) ⟨Nat.le_of_ble_eq_true rfl, Nat.le_of_ble_eq_true rfl⟩) trivial rfl hl.1 rfl (Nat.le_of_ble_eq_true rfl) dX8_addStation_26 (Nat.zero_le _) (Nat.zero_le _)) hS (fun _ h => h.elim) (fun H locs _ _ hfr hS => ?_)
    have hR := gRep.keep hR hfr (fun _ _ h => h)
    refine lv_if_ne (tgt := 35) hx hb dX8_addStation_29 (by decide) (fun c_2 => ?_) (fun c_2 => ?_)
    · refine lv_aload_n hx hb dX8_addStation_35 rfl (lv_at hl 0 rfl) ?_
      refine lv_iload_n hx hb dX8_addStation_36 rfl (lv_at hl 3 rfl) ?_
      refine gm_ci (gm_call (As := [.int a2]) (rest := []) (ci := 0) (q := (RX0, TX0, 10)) ⟨hx, hb, hml, hown, hts⟩ hK (c_X0_hasOffset l D cy (β + off 0) (vw 0 X) (f_X3_lineOf (vw 0 X) a1) a2 (fk_X3_lineOf (vw 0 X) a1).1 (fk_X3_lineOf (vw 0 X) a1).2) (cwV 1 hts gX8_addStation_X0_hasOffset rfl rfl rfl (by decide +kernel) ⟨Nat.le_of_ble_eq_true rfl, Nat.le_of_ble_eq_true rfl⟩) (SR.mk1 (TR.st hR (by decide)) (c := f_X3_lineOf (vw 0 X) a1) (fk_X3_lineOf (vw 0 X) a1).1 (bS_0 (fk_X3_lineOf (vw 0 X) a1).2)) rfl (TR.st hR (by decide)) rfl hl.1 rfl (Nat.le_of_ble_eq_true rfl) dX8_addStation_37 (Nat.zero_le _) (Nat.zero_le _)) hS (fun _ h => h.elim) (fun H locs _ _ hfr hS => ?_)
      have hR := gRep.keep hR hfr (fun _ _ h => h)
      refine lv_if_eq (tgt := 46) hx hb dX8_addStation_40 (by decide) (fun c_3 => ?_) (fun c_3 => ?_)
      · refine lv_aload_n hx hb dX8_addStation_46 rfl (lv_at hl 0 rfl) ?_
        refine va_get (D := D) (ci := 0) (v := .int (vw 0 X (f_X3_lineOf (vw 0 X) a1) 3)) (C := RX0) (T := TX0) (N := 10) hx hb hts inX0 hown hK.1 (SR.mk1 (TR.st hR (by decide)) (c := f_X3_lineOf (vw 0 X) a1) (fk_X3_lineOf (vw 0 X) a1).1 (bS_0 (fk_X3_lineOf (vw 0 X) a1).2)) 0 rfl rfl 3 (by decide) lk75 (fun _ h9 => h9) rfl dX8_addStation_47 ?_
        refine lv_bipush (v := 6) hx hb dX8_addStation_50 (by decide) ?_
        refine lv_icmp_lt (tgt := 58) hx hb dX8_addStation_52 (by decide) (fun c_4 => ?_) (fun c_4 => ?_)
        · refine lv_aload_n hx hb dX8_addStation_58 rfl (lv_at hl 1 rfl) ?_
          refine gm_cv (gm_call (As := []) (rest := []) (ci := 8) (q := (RX8, TX8, 8)) ⟨hx, hb, hml, hown, hts⟩ hK (c_X8_recordState l D cy β X hh) (cwV 0 hts gX8_addStation_X8_recordState rfl rfl rfl (by decide +kernel) ⟨Nat.le_of_ble_eq_true rfl, Nat.le_of_ble_eq_true rfl⟩) (TR.mk0 hR) rfl hR rfl hl.1 rfl (Nat.le_of_ble_eq_true rfl) dX8_addStation_59 (Nat.zero_le _) (Nat.zero_le _)) hS (fun _ h => h) (fun H locs hR _ _ hS => ?_)
          obtain ⟨X1, eX1⟩ : ∃ Y : gM, Y = p_X8_recordState X := ⟨_, rfl⟩
          rw [← eX1] at hR
          refine lv_aload_n hx hb dX8_addStation_62 rfl (lv_at hl 0 rfl) ?_
          refine lv_iload_n hx hb dX8_addStation_63 rfl (lv_at hl 3 rfl) ?_
          refine gm_ci (gm_call (As := [.int a2]) (rest := []) (ci := 0) (q := (RX0, TX0, 10)) ⟨hx, hb, hml, hown, hts⟩ hK (c_X0_openStation l D cy (β + off 0) (vw 0 X1) (f_X3_lineOf (vw 0 X) a1) a2 (fk_X3_lineOf (vw 0 X) a1).1 (fk_X3_lineOf (vw 0 X) a1).2) (cwV 1 hts gX8_addStation_X0_openStation rfl rfl rfl (by decide +kernel) ⟨Nat.le_of_ble_eq_true rfl, Nat.le_of_ble_eq_true rfl⟩) (SR.mk1 (TR.st hR (by decide)) (c := f_X3_lineOf (vw 0 X) a1) (fk_X3_lineOf (vw 0 X) a1).1 (bS_0 (fk_X3_lineOf (vw 0 X) a1).2)) rfl (TR.st hR (by decide)) rfl hl.1 rfl (Nat.le_of_ble_eq_true rfl) dX8_addStation_64 (Nat.zero_le _) (Nat.zero_le _)) hS (TA_S (by decide)) (fun H locs hRR _ hfr hS => ?_)
          have hR := TR.mrgS hR (by decide) hRR hfr
          obtain ⟨X2, eX2⟩ : ∃ Y : gM, Y = putS X1 0 ((p_X0_openStation (vw 0 X1) (f_X3_lineOf (vw 0 X) a1) a2).2) := ⟨_, rfl⟩
          rw [← eX2] at hR
          exact gm_iret hx hb hr hlocks hS (by (try simp only [p_X8_addStation, ↓if_neg c_1, ↓if_neg c_2, ↓if_pos c_3, ↓if_pos c_4, ← eX1, ← eX2]); (try rfl)) (by (try simp only [p_X8_addStation, ↓if_neg c_1, ↓if_neg c_2, ↓if_pos c_3, ↓if_pos c_4, ← eX1, ← eX2]); exact hR) dX8_addStation_67
        · refine lv_bipush (v := (-3)) hx hb dX8_addStation_55 (by decide) ?_
          exact gm_iret hx hb hr hlocks hS (by (try simp only [p_X8_addStation, ↓if_neg c_1, ↓if_neg c_2, ↓if_pos c_3, ↓if_neg c_4]); (try rfl)) (by (try simp only [p_X8_addStation, ↓if_neg c_1, ↓if_neg c_2, ↓if_pos c_3, ↓if_neg c_4]); exact hR) dX8_addStation_57
      · refine lv_bipush (v := (-4)) hx hb dX8_addStation_43 (by decide) ?_
        exact gm_iret hx hb hr hlocks hS (by (try simp only [p_X8_addStation, ↓if_neg c_1, ↓if_neg c_2, ↓if_neg c_3]); (try rfl)) (by (try simp only [p_X8_addStation, ↓if_neg c_1, ↓if_neg c_2, ↓if_neg c_3]); exact hR) dX8_addStation_45
    · refine lv_bipush (v := (-2)) hx hb dX8_addStation_32 (by decide) ?_
      exact gm_iret hx hb hr hlocks hS (by (try simp only [p_X8_addStation, ↓if_neg c_1, ↓if_pos c_2]); (try rfl)) (by (try simp only [p_X8_addStation, ↓if_neg c_1, ↓if_pos c_2]); exact hR) dX8_addStation_34
  · refine lv_iconst (v := (-1)) hx hb dX8_addStation_7 (by decide) ?_
    exact gm_iret hx hb hr hlocks hS (by (try simp only [p_X8_addStation, ↓if_pos c_1]); (try rfl)) (by (try simp only [p_X8_addStation, ↓if_pos c_1]); exact hR) dX8_addStation_8
def p_X8_setHeat (X : gM) (a1 : Int32) (a2 : Int32) : Int32 × gM :=
  if f_X8_isLine a1 = 0 then
    ((-1), X)
  else
    if f_X8_within a2 (-10) 10 = 0 then
      ((-2), X)
    else
      if vw 0 X (f_X3_lineOf (vw 0 X) a1) 7 = a2 then
        ((-5), X)
      else
        let X1 := p_X8_recordState X
        let X2 := updM X1 (off 0 + (f_X3_lineOf (vw 0 X) a1)) 7 a2
        (if 0 ≤ a2 - (vw 0 X (f_X3_lineOf (vw 0 X) a1) 7) then (a2 - (vw 0 X (f_X3_lineOf (vw 0 X) a1) 7)) else 0 - (a2 - (vw 0 X (f_X3_lineOf (vw 0 X) a1) 7)), X2)
set_option maxHeartbeats 4000000 in
set_option maxRecDepth 100000 in
theorem c_X8_setHeat (l : Launch) (D : va_G) (cy : Nat → ClassId) (β : Nat) (X : gM) (a1 : Int32) (a2 : Int32) (hh : HOK X) : Met l yX8_setHeat wsX8_setHeat ({ frames := 5, cells := 0, slots := 0, locals := 111 }) (gP [.ref β, .int a1, .int a2] D cy (TR D cy β X)) (gQi (p_X8_setHeat X a1 a2).1 (TR D cy β (p_X8_setHeat X a1 a2).2) (TA β)) 0 0 (TA β) := by
  refine gm_met (cc := cX8_setHeat) (maxL := 5) (ret := (some .int)) [.ref β, .int a1, .int a2] (by decide) rfl (Nat.le_of_ble_eq_true rfl) ?_
  intro p e s m args below meth c0 ls C hR hl
  obtain ⟨hx, hb, hr, hts, hown, hlocks, hml, hK⟩ := C
  have hl : lv_has ls 5 [(0, .ref β), (1, .int a1), (2, .int a2)] := hl
  have hS : va_S (TA β) s.heap s.heap [] := va_S.rf
  have lk10 := hts (.fieldLink RX8 10 "MercuryLine" "now" "LMercuryLine$State;") (by decide +kernel)
  have inX8 : ∀ w ∈ u_ws RX8 TX8 8, w ∈ wsX8_setHeat := by decide +kernel
  have lk82 := hts (.fieldLink RX8 82 "MercuryLine$Line" "heat" "I") (by decide +kernel)
  have inX0 : ∀ w ∈ u_ws RX0 TX0 10, w ∈ wsX8_setHeat := by decide +kernel
  refine lv_iload_n hx hb dX8_setHeat_0 rfl (lv_at hl 1 rfl) ?_
  refine gm_ci (gm_callS (As := [.int a1]) (rest := []) ⟨hx, hb, hml, hown, hts⟩ hK (c_X8_isLine l D cy a1) (va_cwS 1 hts gX8_setHeat_X8_isLine rfl rfl rfl (by decide +kernel) ⟨Nat.le_of_ble_eq_true rfl, Nat.le_of_ble_eq_true rfl⟩) trivial rfl hl.1 rfl (Nat.le_of_ble_eq_true rfl) dX8_setHeat_1 (Nat.zero_le _) (Nat.zero_le _)) hS (fun _ h => h.elim) (fun H locs _ _ hfr hS => ?_)
  have hR := gRep.keep hR hfr (fun _ _ h => h)
  refine lv_if_ne (tgt := 9) hx hb dX8_setHeat_4 (by decide) (fun c_1 => ?_) (fun c_1 => ?_)
  · refine lv_iload_n hx hb dX8_setHeat_9 rfl (lv_at hl 2 rfl) ?_
    refine lv_bipush (v := (-10)) hx hb dX8_setHeat_10 (by decide) ?_
    refine lv_bipush (v := 10) hx hb dX8_setHeat_12 (by decide) ?_
    refine gm_ci (gm_callS (As := [.int a2, .int (-10), .int 10]) (rest := []) ⟨hx, hb, hml, hown, hts⟩ hK (c_X8_within l D cy a2 (-10) 10) (va_cwS 3 hts gX8_setHeat_X8_within rfl rfl rfl (by decide +kernel) ⟨Nat.le_of_ble_eq_true rfl, Nat.le_of_ble_eq_true rfl⟩) trivial rfl hl.1 rfl (Nat.le_of_ble_eq_true rfl) dX8_setHeat_14 (Nat.zero_le _) (Nat.zero_le _)) hS (fun _ h => h.elim) (fun H locs _ _ hfr hS => ?_)
    have hR := gRep.keep hR hfr (fun _ _ h => h)
    refine lv_if_ne (tgt := 23) hx hb dX8_setHeat_17 (by decide) (fun c_2 => ?_) (fun c_2 => ?_)
    · refine lv_aload_n hx hb dX8_setHeat_23 rfl (lv_at hl 0 rfl) ?_
      refine va_get (D := D) (ci := 8) (v := .ref (β + off 0)) (C := RX8) (T := TX8) (N := 8) hx hb hts inX8 hown hK.1 (TR.mk0 hR) 0 rfl rfl 0 (by decide) lk10 (fun _ h9 => h9) rfl dX8_setHeat_24 ?_
      refine lv_iload_n hx hb dX8_setHeat_27 rfl (lv_at hl 1 rfl) ?_
      refine gm_cq (gm_call (As := [.int a1]) (rest := []) (ci := 3) (q := (RX3, TX3, 14)) ⟨hx, hb, hml, hown, hts⟩ hK (c_X3_lineOf l D cy (β + off 0) (vw 0 X) a1) (cwV 1 hts gX8_setHeat_X3_lineOf rfl rfl rfl (by decide +kernel) ⟨Nat.le_of_ble_eq_true rfl, Nat.le_of_ble_eq_true rfl⟩) (SR.mk0 (TR.st hR (by decide))) rfl (TR.st hR (by decide)) rfl hl.1 rfl (Nat.le_of_ble_eq_true rfl) dX8_setHeat_28 (Nat.zero_le _) (Nat.zero_le _)) hS (fun _ h => h.elim) (fun H locs _ _ hfr hS => ?_)
      have hR := gRep.keep hR hfr (fun _ _ h => h)
      refine W.eq (g2 := F0 m 31 ls [.ref (β + off 0 + (f_X3_lineOf (vw 0 X) a1))]) rfl ?_
      refine lv_astore_n (lv' := [(3, .ref (β + off 0 + (f_X3_lineOf (vw 0 X) a1))), (0, .ref β), (1, .int a1), (2, .int a2)]) hx hb dX8_setHeat_31 rfl hl (by decide) rfl (fun ls hl => ?_)
      refine lv_aload_n hx hb dX8_setHeat_32 rfl (lv_at hl 0 rfl) ?_
      refine va_get (D := D) (ci := 0) (v := .int (vw 0 X (f_X3_lineOf (vw 0 X) a1) 7)) (C := RX0) (T := TX0) (N := 10) hx hb hts inX0 hown hK.1 (SR.mk1 (TR.st hR (by decide)) (c := f_X3_lineOf (vw 0 X) a1) (fk_X3_lineOf (vw 0 X) a1).1 (bS_0 (fk_X3_lineOf (vw 0 X) a1).2)) 0 rfl rfl 7 (by decide) lk82 (fun _ h9 => h9) rfl dX8_setHeat_33 ?_
      refine lv_istore (lv' := [(4, .int (vw 0 X (f_X3_lineOf (vw 0 X) a1) 7)), (3, .ref (β + off 0 + (f_X3_lineOf (vw 0 X) a1))), (0, .ref β), (1, .int a1), (2, .int a2)]) hx hb dX8_setHeat_36 hl (by decide) rfl (fun ls hl => ?_)
      refine lv_iload hx hb dX8_setHeat_38 (lv_at hl 0 rfl) ?_
      refine lv_iload_n hx hb dX8_setHeat_40 rfl (lv_at hl 4 rfl) ?_
      refine lv_icmp_ne (tgt := 47) hx hb dX8_setHeat_41 (by decide) (fun c_3 => ?_) (fun c_3 => ?_)
      · refine lv_aload_n hx hb dX8_setHeat_47 rfl (lv_at hl 2 rfl) ?_
        refine gm_cv (gm_call (As := []) (rest := []) (ci := 8) (q := (RX8, TX8, 8)) ⟨hx, hb, hml, hown, hts⟩ hK (c_X8_recordState l D cy β X hh) (cwV 0 hts gX8_setHeat_X8_recordState rfl rfl rfl (by decide +kernel) ⟨Nat.le_of_ble_eq_true rfl, Nat.le_of_ble_eq_true rfl⟩) (TR.mk0 hR) rfl hR rfl hl.1 rfl (Nat.le_of_ble_eq_true rfl) dX8_setHeat_48 (Nat.zero_le _) (Nat.zero_le _)) hS (fun _ h => h) (fun H locs hR _ _ hS => ?_)
        obtain ⟨X1, eX1⟩ : ∃ Y : gM, Y = p_X8_recordState X := ⟨_, rfl⟩
        rw [← eX1] at hR
        refine lv_aload_n hx hb dX8_setHeat_51 rfl (lv_at hl 1 rfl) ?_
        refine lv_iload_n hx hb dX8_setHeat_52 rfl (lv_at hl 4 rfl) ?_
        refine gm_put (v := .int a2) (ty := .int) (ci := 0) (C := RX0) (T := TX0) (N := 10) hx hb hts inX0 tyX0 tyX0_ok nmX0 hown hK.1 hR injT hS (a := off 0 + (f_X3_lineOf (vw 0 X) a1)) (Nat.lt_of_lt_of_le (Nat.add_lt_add_left (show f_X3_lineOf (vw 0 X) a1 < 123 from (fk_X3_lineOf (vw 0 X) a1).1) _) (off_lt (by decide))) (Nat.add_assoc _ _ _).symm ((bT_S (by decide) (show f_X3_lineOf (vw 0 X) a1 < 123 from (fk_X3_lineOf (vw 0 X) a1).1)).trans (bS_0 (fk_X3_lineOf (vw 0 X) a1).2)) rfl 7 (by decide) lk82 (fun _ h9 => h9) rfl (by decide +kernel) rfl rfl (Nat.le_of_ble_eq_true rfl) (j := 7) (x := a2) (by rw [(bT_S (by decide) (show f_X3_lineOf (vw 0 X) a1 < 123 from (fk_X3_lineOf (vw 0 X) a1).1)).trans (bS_0 (fk_X3_lineOf (vw 0 X) a1).2)]; rfl) dX8_setHeat_53 (fun H locs hR hS => ?_)
        obtain ⟨X2, eX2⟩ : ∃ Y : gM, Y = updM X1 (off 0 + (f_X3_lineOf (vw 0 X) a1)) 7 a2 := ⟨_, rfl⟩
        rw [← eX2] at hR
        refine lv_iload_n hx hb dX8_setHeat_56 rfl (lv_at hl 4 rfl) ?_
        refine lv_iload hx hb dX8_setHeat_57 (lv_at hl 0 rfl) ?_
        refine lv_isub hx hb dX8_setHeat_59 ?_
        refine va_mabs (index := 85) hx hb (hml.trans hl.1.symm) hown (hts (.methodLink RX8 85 Lib.Math.abs.name) (by decide +kernel)) (hts (.static Lib.Math.abs.name) (by decide +kernel)) (hts (.initialized "java/lang/Math") (by decide +kernel)) (hts (.code Lib.Math.abs.name Lib.Math.abs.code 1 (some .int)) (by decide +kernel)) (Nat.le_of_ble_eq_true rfl) (Nat.le_of_ble_eq_true rfl) (Nat.zero_le _) (Nat.zero_le _) dX8_setHeat_60 ?_
        exact gm_iret hx hb hr hlocks hS (by (try simp only [p_X8_setHeat, ↓if_neg c_1, ↓if_neg c_2, ↓if_neg c_3, ← eX1, ← eX2]); (try rfl)) (by (try simp only [p_X8_setHeat, ↓if_neg c_1, ↓if_neg c_2, ↓if_neg c_3, ← eX1, ← eX2]); exact hR) dX8_setHeat_63
      · refine lv_bipush (v := (-5)) hx hb dX8_setHeat_44 (by decide) ?_
        exact gm_iret hx hb hr hlocks hS (by (try simp only [p_X8_setHeat, ↓if_neg c_1, ↓if_neg c_2, ↓if_pos c_3]); (try rfl)) (by (try simp only [p_X8_setHeat, ↓if_neg c_1, ↓if_neg c_2, ↓if_pos c_3]); exact hR) dX8_setHeat_46
    · refine lv_bipush (v := (-2)) hx hb dX8_setHeat_20 (by decide) ?_
      exact gm_iret hx hb hr hlocks hS (by (try simp only [p_X8_setHeat, ↓if_neg c_1, ↓if_pos c_2]); (try rfl)) (by (try simp only [p_X8_setHeat, ↓if_neg c_1, ↓if_pos c_2]); exact hR) dX8_setHeat_22
  · refine lv_iconst (v := (-1)) hx hb dX8_setHeat_7 (by decide) ?_
    exact gm_iret hx hb hr hlocks hS (by (try simp only [p_X8_setHeat, ↓if_pos c_1]); (try rfl)) (by (try simp only [p_X8_setHeat, ↓if_pos c_1]); exact hR) dX8_setHeat_8
def p_X8_setFare (X : gM) (a1 : Int32) : Int32 × gM :=
  if f_X8_within a1 1 99 = 0 then
    ((-2), X)
  else
    if vw 0 X 0 8 = a1 then
      ((-5), X)
    else
      let X1 := p_X8_recordState X
      let X2 := updM X1 (off 0 + 0) 8 a1
      (vw 0 X 0 8, X2)
set_option maxHeartbeats 4000000 in
set_option maxRecDepth 100000 in
theorem c_X8_setFare (l : Launch) (D : va_G) (cy : Nat → ClassId) (β : Nat) (X : gM) (a1 : Int32) (hh : HOK X) : Met l yX8_setFare wsX8_setFare ({ frames := 5, cells := 0, slots := 0, locals := 111 }) (gP [.ref β, .int a1] D cy (TR D cy β X)) (gQi (p_X8_setFare X a1).1 (TR D cy β (p_X8_setFare X a1).2) (TA β)) 0 0 (TA β) := by
  refine gm_met (cc := cX8_setFare) (maxL := 3) (ret := (some .int)) [.ref β, .int a1] (by decide) rfl (Nat.le_of_ble_eq_true rfl) ?_
  intro p e s m args below meth c0 ls C hR hl
  obtain ⟨hx, hb, hr, hts, hown, hlocks, hml, hK⟩ := C
  have hl : lv_has ls 3 [(0, .ref β), (1, .int a1)] := hl
  have hS : va_S (TA β) s.heap s.heap [] := va_S.rf
  have lk10 := hts (.fieldLink RX8 10 "MercuryLine" "now" "LMercuryLine$State;") (by decide +kernel)
  have inX8 : ∀ w ∈ u_ws RX8 TX8 8, w ∈ wsX8_setFare := by decide +kernel
  have lk90 := hts (.fieldLink RX8 90 "MercuryLine$State" "fare" "I") (by decide +kernel)
  have inX3 : ∀ w ∈ u_ws RX3 TX3 14, w ∈ wsX8_setFare := by decide +kernel
  refine lv_iload_n hx hb dX8_setFare_0 rfl (lv_at hl 1 rfl) ?_
  refine lv_iconst (v := 1) hx hb dX8_setFare_1 (by decide) ?_
  refine lv_bipush (v := 99) hx hb dX8_setFare_2 (by decide) ?_
  refine gm_ci (gm_callS (As := [.int a1, .int 1, .int 99]) (rest := []) ⟨hx, hb, hml, hown, hts⟩ hK (c_X8_within l D cy a1 1 99) (va_cwS 3 hts gX8_setFare_X8_within rfl rfl rfl (by decide +kernel) ⟨Nat.le_of_ble_eq_true rfl, Nat.le_of_ble_eq_true rfl⟩) trivial rfl hl.1 rfl (Nat.le_of_ble_eq_true rfl) dX8_setFare_4 (Nat.zero_le _) (Nat.zero_le _)) hS (fun _ h => h.elim) (fun H locs _ _ hfr hS => ?_)
  have hR := gRep.keep hR hfr (fun _ _ h => h)
  refine lv_if_ne (tgt := 13) hx hb dX8_setFare_7 (by decide) (fun c_1 => ?_) (fun c_1 => ?_)
  · refine lv_aload_n hx hb dX8_setFare_13 rfl (lv_at hl 0 rfl) ?_
    refine va_get (D := D) (ci := 8) (v := .ref (β + off 0)) (C := RX8) (T := TX8) (N := 8) hx hb hts inX8 hown hK.1 (TR.mk0 hR) 0 rfl rfl 0 (by decide) lk10 (fun _ h9 => h9) rfl dX8_setFare_14 ?_
    refine va_get (D := D) (ci := 3) (v := .int (vw 0 X 0 8)) (C := RX3) (T := TX3) (N := 14) hx hb hts inX3 hown hK.1 (SR.mk0 (TR.st hR (by decide))) 0 rfl rfl 8 (by decide) lk90 (fun _ h9 => h9) rfl dX8_setFare_17 ?_
    refine lv_istore_n (lv' := [(2, .int (vw 0 X 0 8)), (0, .ref β), (1, .int a1)]) hx hb dX8_setFare_20 rfl hl (by decide) rfl (fun ls hl => ?_)
    refine lv_iload_n hx hb dX8_setFare_21 rfl (lv_at hl 0 rfl) ?_
    refine lv_iload_n hx hb dX8_setFare_22 rfl (lv_at hl 2 rfl) ?_
    refine lv_icmp_ne (tgt := 29) hx hb dX8_setFare_23 (by decide) (fun c_2 => ?_) (fun c_2 => ?_)
    · refine lv_aload_n hx hb dX8_setFare_29 rfl (lv_at hl 1 rfl) ?_
      refine gm_cv (gm_call (As := []) (rest := []) (ci := 8) (q := (RX8, TX8, 8)) ⟨hx, hb, hml, hown, hts⟩ hK (c_X8_recordState l D cy β X hh) (cwV 0 hts gX8_setFare_X8_recordState rfl rfl rfl (by decide +kernel) ⟨Nat.le_of_ble_eq_true rfl, Nat.le_of_ble_eq_true rfl⟩) (TR.mk0 hR) rfl hR rfl hl.1 rfl (Nat.le_of_ble_eq_true rfl) dX8_setFare_30 (Nat.zero_le _) (Nat.zero_le _)) hS (fun _ h => h) (fun H locs hR _ _ hS => ?_)
      obtain ⟨X1, eX1⟩ : ∃ Y : gM, Y = p_X8_recordState X := ⟨_, rfl⟩
      rw [← eX1] at hR
      refine lv_aload_n hx hb dX8_setFare_33 rfl (lv_at hl 1 rfl) ?_
      refine va_get (D := D) (ci := 8) (v := .ref (β + off 0)) (C := RX8) (T := TX8) (N := 8) hx hb hts inX8 hown hK.1 (TR.mk0 hR) 0 rfl rfl 0 (by decide) lk10 (fun _ h9 => h9) rfl dX8_setFare_34 ?_
      refine lv_iload_n hx hb dX8_setFare_37 rfl (lv_at hl 2 rfl) ?_
      refine gm_put (v := .int a1) (ty := .int) (ci := 3) (C := RX3) (T := TX3) (N := 14) hx hb hts inX3 tyX3 tyX3_ok nmX3 hown hK.1 hR injT hS (a := off 0 + 0) (Nat.lt_of_lt_of_le (Nat.add_lt_add_left (show 0 < 123 from (by decide)) _) (off_lt (by decide))) rfl ((bT_S (by decide) (show 0 < 123 from (by decide))).trans (bS_3 (by decide))) rfl 8 (by decide) lk90 (fun _ h9 => h9) rfl (by decide +kernel) rfl rfl (Nat.le_of_ble_eq_true rfl) (j := 8) (x := a1) (by rw [(bT_S (by decide) (show 0 < 123 from (by decide))).trans (bS_3 (by decide))]; rfl) dX8_setFare_38 (fun H locs hR hS => ?_)
      obtain ⟨X2, eX2⟩ : ∃ Y : gM, Y = updM X1 (off 0 + 0) 8 a1 := ⟨_, rfl⟩
      rw [← eX2] at hR
      refine lv_iload_n hx hb dX8_setFare_41 rfl (lv_at hl 0 rfl) ?_
      exact gm_iret hx hb hr hlocks hS (by (try simp only [p_X8_setFare, ↓if_neg c_1, ↓if_neg c_2, ← eX1, ← eX2]); (try rfl)) (by (try simp only [p_X8_setFare, ↓if_neg c_1, ↓if_neg c_2, ← eX1, ← eX2]); exact hR) dX8_setFare_42
    · refine lv_bipush (v := (-5)) hx hb dX8_setFare_26 (by decide) ?_
      exact gm_iret hx hb hr hlocks hS (by (try simp only [p_X8_setFare, ↓if_neg c_1, ↓if_pos c_2]); (try rfl)) (by (try simp only [p_X8_setFare, ↓if_neg c_1, ↓if_pos c_2]); exact hR) dX8_setFare_28
  · refine lv_bipush (v := (-2)) hx hb dX8_setFare_10 (by decide) ?_
    exact gm_iret hx hb hr hlocks hS (by (try simp only [p_X8_setFare, ↓if_pos c_1]); (try rfl)) (by (try simp only [p_X8_setFare, ↓if_pos c_1]); exact hR) dX8_setFare_12
def p_X8_setPatience (X : gM) (a1 : Int32) : Int32 × gM :=
  if f_X8_within a1 0 50 = 0 then
    ((-2), X)
  else
    if vw 0 X 0 9 = a1 then
      ((-5), X)
    else
      let X1 := p_X8_recordState X
      let X2 := updM X1 (off 0 + 0) 9 a1
      (vw 0 X 0 9, X2)
set_option maxHeartbeats 4000000 in
set_option maxRecDepth 100000 in
theorem c_X8_setPatience (l : Launch) (D : va_G) (cy : Nat → ClassId) (β : Nat) (X : gM) (a1 : Int32) (hh : HOK X) : Met l yX8_setPatience wsX8_setPatience ({ frames := 5, cells := 0, slots := 0, locals := 111 }) (gP [.ref β, .int a1] D cy (TR D cy β X)) (gQi (p_X8_setPatience X a1).1 (TR D cy β (p_X8_setPatience X a1).2) (TA β)) 0 0 (TA β) := by
  refine gm_met (cc := cX8_setPatience) (maxL := 3) (ret := (some .int)) [.ref β, .int a1] (by decide) rfl (Nat.le_of_ble_eq_true rfl) ?_
  intro p e s m args below meth c0 ls C hR hl
  obtain ⟨hx, hb, hr, hts, hown, hlocks, hml, hK⟩ := C
  have hl : lv_has ls 3 [(0, .ref β), (1, .int a1)] := hl
  have hS : va_S (TA β) s.heap s.heap [] := va_S.rf
  have lk10 := hts (.fieldLink RX8 10 "MercuryLine" "now" "LMercuryLine$State;") (by decide +kernel)
  have inX8 : ∀ w ∈ u_ws RX8 TX8 8, w ∈ wsX8_setPatience := by decide +kernel
  have lk93 := hts (.fieldLink RX8 93 "MercuryLine$State" "patience" "I") (by decide +kernel)
  have inX3 : ∀ w ∈ u_ws RX3 TX3 14, w ∈ wsX8_setPatience := by decide +kernel
  refine lv_iload_n hx hb dX8_setPatience_0 rfl (lv_at hl 1 rfl) ?_
  refine lv_iconst (v := 0) hx hb dX8_setPatience_1 (by decide) ?_
  refine lv_bipush (v := 50) hx hb dX8_setPatience_2 (by decide) ?_
  refine gm_ci (gm_callS (As := [.int a1, .int 0, .int 50]) (rest := []) ⟨hx, hb, hml, hown, hts⟩ hK (c_X8_within l D cy a1 0 50) (va_cwS 3 hts gX8_setPatience_X8_within rfl rfl rfl (by decide +kernel) ⟨Nat.le_of_ble_eq_true rfl, Nat.le_of_ble_eq_true rfl⟩) trivial rfl hl.1 rfl (Nat.le_of_ble_eq_true rfl) dX8_setPatience_4 (Nat.zero_le _) (Nat.zero_le _)) hS (fun _ h => h.elim) (fun H locs _ _ hfr hS => ?_)
  have hR := gRep.keep hR hfr (fun _ _ h => h)
  refine lv_if_ne (tgt := 13) hx hb dX8_setPatience_7 (by decide) (fun c_1 => ?_) (fun c_1 => ?_)
  · refine lv_aload_n hx hb dX8_setPatience_13 rfl (lv_at hl 0 rfl) ?_
    refine va_get (D := D) (ci := 8) (v := .ref (β + off 0)) (C := RX8) (T := TX8) (N := 8) hx hb hts inX8 hown hK.1 (TR.mk0 hR) 0 rfl rfl 0 (by decide) lk10 (fun _ h9 => h9) rfl dX8_setPatience_14 ?_
    refine va_get (D := D) (ci := 3) (v := .int (vw 0 X 0 9)) (C := RX3) (T := TX3) (N := 14) hx hb hts inX3 hown hK.1 (SR.mk0 (TR.st hR (by decide))) 0 rfl rfl 9 (by decide) lk93 (fun _ h9 => h9) rfl dX8_setPatience_17 ?_
    refine lv_istore_n (lv' := [(2, .int (vw 0 X 0 9)), (0, .ref β), (1, .int a1)]) hx hb dX8_setPatience_20 rfl hl (by decide) rfl (fun ls hl => ?_)
    refine lv_iload_n hx hb dX8_setPatience_21 rfl (lv_at hl 0 rfl) ?_
    refine lv_iload_n hx hb dX8_setPatience_22 rfl (lv_at hl 2 rfl) ?_
    refine lv_icmp_ne (tgt := 29) hx hb dX8_setPatience_23 (by decide) (fun c_2 => ?_) (fun c_2 => ?_)
    · refine lv_aload_n hx hb dX8_setPatience_29 rfl (lv_at hl 1 rfl) ?_
      refine gm_cv (gm_call (As := []) (rest := []) (ci := 8) (q := (RX8, TX8, 8)) ⟨hx, hb, hml, hown, hts⟩ hK (c_X8_recordState l D cy β X hh) (cwV 0 hts gX8_setPatience_X8_recordState rfl rfl rfl (by decide +kernel) ⟨Nat.le_of_ble_eq_true rfl, Nat.le_of_ble_eq_true rfl⟩) (TR.mk0 hR) rfl hR rfl hl.1 rfl (Nat.le_of_ble_eq_true rfl) dX8_setPatience_30 (Nat.zero_le _) (Nat.zero_le _)) hS (fun _ h => h) (fun H locs hR _ _ hS => ?_)
      obtain ⟨X1, eX1⟩ : ∃ Y : gM, Y = p_X8_recordState X := ⟨_, rfl⟩
      rw [← eX1] at hR
      refine lv_aload_n hx hb dX8_setPatience_33 rfl (lv_at hl 1 rfl) ?_
      refine va_get (D := D) (ci := 8) (v := .ref (β + off 0)) (C := RX8) (T := TX8) (N := 8) hx hb hts inX8 hown hK.1 (TR.mk0 hR) 0 rfl rfl 0 (by decide) lk10 (fun _ h9 => h9) rfl dX8_setPatience_34 ?_
      refine lv_iload_n hx hb dX8_setPatience_37 rfl (lv_at hl 2 rfl) ?_
      refine gm_put (v := .int a1) (ty := .int) (ci := 3) (C := RX3) (T := TX3) (N := 14) hx hb hts inX3 tyX3 tyX3_ok nmX3 hown hK.1 hR injT hS (a := off 0 + 0) (Nat.lt_of_lt_of_le (Nat.add_lt_add_left (show 0 < 123 from (by decide)) _) (off_lt (by decide))) rfl ((bT_S (by decide) (show 0 < 123 from (by decide))).trans (bS_3 (by decide))) rfl 9 (by decide) lk93 (fun _ h9 => h9) rfl (by decide +kernel) rfl rfl (Nat.le_of_ble_eq_true rfl) (j := 9) (x := a1) (by rw [(bT_S (by decide) (show 0 < 123 from (by decide))).trans (bS_3 (by decide))]; rfl) dX8_setPatience_38 (fun H locs hR hS => ?_)
      obtain ⟨X2, eX2⟩ : ∃ Y : gM, Y = updM X1 (off 0 + 0) 9 a1 := ⟨_, rfl⟩
      rw [← eX2] at hR
      refine lv_iload_n hx hb dX8_setPatience_41 rfl (lv_at hl 0 rfl) ?_
      exact gm_iret hx hb hr hlocks hS (by (try simp only [p_X8_setPatience, ↓if_neg c_1, ↓if_neg c_2, ← eX1, ← eX2]); (try rfl)) (by (try simp only [p_X8_setPatience, ↓if_neg c_1, ↓if_neg c_2, ← eX1, ← eX2]); exact hR) dX8_setPatience_42
    · refine lv_bipush (v := (-5)) hx hb dX8_setPatience_26 (by decide) ?_
      exact gm_iret hx hb hr hlocks hS (by (try simp only [p_X8_setPatience, ↓if_neg c_1, ↓if_pos c_2]); (try rfl)) (by (try simp only [p_X8_setPatience, ↓if_neg c_1, ↓if_pos c_2]); exact hR) dX8_setPatience_28
  · refine lv_bipush (v := (-2)) hx hb dX8_setPatience_10 (by decide) ?_
    exact gm_iret hx hb hr hlocks hS (by (try simp only [p_X8_setPatience, ↓if_pos c_1]); (try rfl)) (by (try simp only [p_X8_setPatience, ↓if_pos c_1]); exact hR) dX8_setPatience_12
def p_X8_drain (X : gM) (a1 : Int32) : Int32 × gM :=
  if f_X8_isLine a1 = 0 then
    ((-1), X)
  else
    if f_X0_riderCount (vw 0 X) (f_X3_lineOf (vw 0 X) a1) = 0 then
      ((-5), X)
    else
      let X1 := p_X8_recordState X
      let X2 := putS X1 0 (p_X3_putOutRiders (vw 0 X1) (f_X3_lineOf (vw 0 X) a1))
      (f_X0_riderCount (vw 0 X) (f_X3_lineOf (vw 0 X) a1), X2)
set_option maxHeartbeats 4000000 in
set_option maxRecDepth 100000 in
theorem c_X8_drain (l : Launch) (D : va_G) (cy : Nat → ClassId) (β : Nat) (X : gM) (a1 : Int32) (hh : HOK X) : Met l yX8_drain wsX8_drain ({ frames := 5, cells := 0, slots := 0, locals := 111 }) (gP [.ref β, .int a1] D cy (TR D cy β X)) (gQi (p_X8_drain X a1).1 (TR D cy β (p_X8_drain X a1).2) (TA β)) 0 0 (TA β) := by
  refine gm_met (cc := cX8_drain) (maxL := 4) (ret := (some .int)) [.ref β, .int a1] (by decide) rfl (Nat.le_of_ble_eq_true rfl) ?_
  intro p e s m args below meth c0 ls C hR hl
  obtain ⟨hx, hb, hr, hts, hown, hlocks, hml, hK⟩ := C
  have hl : lv_has ls 4 [(0, .ref β), (1, .int a1)] := hl
  have hS : va_S (TA β) s.heap s.heap [] := va_S.rf
  have lk10 := hts (.fieldLink RX8 10 "MercuryLine" "now" "LMercuryLine$State;") (by decide +kernel)
  have inX8 : ∀ w ∈ u_ws RX8 TX8 8, w ∈ wsX8_drain := by decide +kernel
  refine lv_iload_n hx hb dX8_drain_0 rfl (lv_at hl 1 rfl) ?_
  refine gm_ci (gm_callS (As := [.int a1]) (rest := []) ⟨hx, hb, hml, hown, hts⟩ hK (c_X8_isLine l D cy a1) (va_cwS 1 hts gX8_drain_X8_isLine rfl rfl rfl (by decide +kernel) ⟨Nat.le_of_ble_eq_true rfl, Nat.le_of_ble_eq_true rfl⟩) trivial rfl hl.1 rfl (Nat.le_of_ble_eq_true rfl) dX8_drain_1 (Nat.zero_le _) (Nat.zero_le _)) hS (fun _ h => h.elim) (fun H locs _ _ hfr hS => ?_)
  have hR := gRep.keep hR hfr (fun _ _ h => h)
  refine lv_if_ne (tgt := 9) hx hb dX8_drain_4 (by decide) (fun c_1 => ?_) (fun c_1 => ?_)
  · refine lv_aload_n hx hb dX8_drain_9 rfl (lv_at hl 0 rfl) ?_
    refine va_get (D := D) (ci := 8) (v := .ref (β + off 0)) (C := RX8) (T := TX8) (N := 8) hx hb hts inX8 hown hK.1 (TR.mk0 hR) 0 rfl rfl 0 (by decide) lk10 (fun _ h9 => h9) rfl dX8_drain_10 ?_
    refine lv_iload_n hx hb dX8_drain_13 rfl (lv_at hl 1 rfl) ?_
    refine gm_cq (gm_call (As := [.int a1]) (rest := []) (ci := 3) (q := (RX3, TX3, 14)) ⟨hx, hb, hml, hown, hts⟩ hK (c_X3_lineOf l D cy (β + off 0) (vw 0 X) a1) (cwV 1 hts gX8_drain_X3_lineOf rfl rfl rfl (by decide +kernel) ⟨Nat.le_of_ble_eq_true rfl, Nat.le_of_ble_eq_true rfl⟩) (SR.mk0 (TR.st hR (by decide))) rfl (TR.st hR (by decide)) rfl hl.1 rfl (Nat.le_of_ble_eq_true rfl) dX8_drain_14 (Nat.zero_le _) (Nat.zero_le _)) hS (fun _ h => h.elim) (fun H locs _ _ hfr hS => ?_)
    have hR := gRep.keep hR hfr (fun _ _ h => h)
    refine W.eq (g2 := F0 m 17 ls [.ref (β + off 0 + (f_X3_lineOf (vw 0 X) a1))]) rfl ?_
    refine lv_astore_n (lv' := [(2, .ref (β + off 0 + (f_X3_lineOf (vw 0 X) a1))), (0, .ref β), (1, .int a1)]) hx hb dX8_drain_17 rfl hl (by decide) rfl (fun ls hl => ?_)
    refine lv_aload_n hx hb dX8_drain_18 rfl (lv_at hl 0 rfl) ?_
    refine gm_ci (gm_call (As := []) (rest := []) (ci := 0) (q := (RX0, TX0, 10)) ⟨hx, hb, hml, hown, hts⟩ hK (c_X0_riderCount l D cy (β + off 0) (vw 0 X) (f_X3_lineOf (vw 0 X) a1) (fk_X3_lineOf (vw 0 X) a1).1 (fk_X3_lineOf (vw 0 X) a1).2) (cwV 0 hts gX8_drain_X0_riderCount rfl rfl rfl (by decide +kernel) ⟨Nat.le_of_ble_eq_true rfl, Nat.le_of_ble_eq_true rfl⟩) (SR.mk1 (TR.st hR (by decide)) (c := f_X3_lineOf (vw 0 X) a1) (fk_X3_lineOf (vw 0 X) a1).1 (bS_0 (fk_X3_lineOf (vw 0 X) a1).2)) rfl (TR.st hR (by decide)) rfl hl.1 rfl (Nat.le_of_ble_eq_true rfl) dX8_drain_19 (Nat.zero_le _) (Nat.zero_le _)) hS (fun _ h => h.elim) (fun H locs _ _ hfr hS => ?_)
    have hR := gRep.keep hR hfr (fun _ _ h => h)
    refine lv_istore_n (lv' := [(3, .int (f_X0_riderCount (vw 0 X) (f_X3_lineOf (vw 0 X) a1))), (2, .ref (β + off 0 + (f_X3_lineOf (vw 0 X) a1))), (0, .ref β), (1, .int a1)]) hx hb dX8_drain_22 rfl hl (by decide) rfl (fun ls hl => ?_)
    refine lv_iload_n hx hb dX8_drain_23 rfl (lv_at hl 0 rfl) ?_
    refine lv_if_ne (tgt := 30) hx hb dX8_drain_24 (by decide) (fun c_2 => ?_) (fun c_2 => ?_)
    · refine lv_aload_n hx hb dX8_drain_30 rfl (lv_at hl 2 rfl) ?_
      refine gm_cv (gm_call (As := []) (rest := []) (ci := 8) (q := (RX8, TX8, 8)) ⟨hx, hb, hml, hown, hts⟩ hK (c_X8_recordState l D cy β X hh) (cwV 0 hts gX8_drain_X8_recordState rfl rfl rfl (by decide +kernel) ⟨Nat.le_of_ble_eq_true rfl, Nat.le_of_ble_eq_true rfl⟩) (TR.mk0 hR) rfl hR rfl hl.1 rfl (Nat.le_of_ble_eq_true rfl) dX8_drain_31 (Nat.zero_le _) (Nat.zero_le _)) hS (fun _ h => h) (fun H locs hR _ _ hS => ?_)
      obtain ⟨X1, eX1⟩ : ∃ Y : gM, Y = p_X8_recordState X := ⟨_, rfl⟩
      rw [← eX1] at hR
      refine lv_aload_n hx hb dX8_drain_34 rfl (lv_at hl 2 rfl) ?_
      refine va_get (D := D) (ci := 8) (v := .ref (β + off 0)) (C := RX8) (T := TX8) (N := 8) hx hb hts inX8 hown hK.1 (TR.mk0 hR) 0 rfl rfl 0 (by decide) lk10 (fun _ h9 => h9) rfl dX8_drain_35 ?_
      refine lv_aload_n hx hb dX8_drain_38 rfl (lv_at hl 1 rfl) ?_
      refine gm_cv (gm_call (As := [.ref (β + off 0 + (f_X3_lineOf (vw 0 X) a1))]) (rest := []) (ci := 3) (q := (RX3, TX3, 14)) ⟨hx, hb, hml, hown, hts⟩ hK (c_X3_putOutRiders l D cy (β + off 0) (vw 0 X1) (f_X3_lineOf (vw 0 X) a1) (fk_X3_lineOf (vw 0 X) a1).1 (fk_X3_lineOf (vw 0 X) a1).2) (cwV 1 hts gX8_drain_X3_putOutRiders rfl rfl rfl (by decide +kernel) ⟨Nat.le_of_ble_eq_true rfl, Nat.le_of_ble_eq_true rfl⟩) (SR.mk0 (TR.st hR (by decide))) rfl (TR.st hR (by decide)) rfl hl.1 rfl (Nat.le_of_ble_eq_true rfl) dX8_drain_39 (Nat.zero_le _) (Nat.zero_le _)) hS (TA_S (by decide)) (fun H locs hRR _ hfr hS => ?_)
      have hR := TR.mrgS hR (by decide) hRR hfr
      obtain ⟨X2, eX2⟩ : ∃ Y : gM, Y = putS X1 0 (p_X3_putOutRiders (vw 0 X1) (f_X3_lineOf (vw 0 X) a1)) := ⟨_, rfl⟩
      rw [← eX2] at hR
      refine lv_iload_n hx hb dX8_drain_42 rfl (lv_at hl 0 rfl) ?_
      exact gm_iret hx hb hr hlocks hS (by (try simp only [p_X8_drain, ↓if_neg c_1, ↓if_neg c_2, ← eX1, ← eX2]); (try rfl)) (by (try simp only [p_X8_drain, ↓if_neg c_1, ↓if_neg c_2, ← eX1, ← eX2]); exact hR) dX8_drain_43
    · refine lv_bipush (v := (-5)) hx hb dX8_drain_27 (by decide) ?_
      exact gm_iret hx hb hr hlocks hS (by (try simp only [p_X8_drain, ↓if_neg c_1, ↓if_pos c_2]); (try rfl)) (by (try simp only [p_X8_drain, ↓if_neg c_1, ↓if_pos c_2]); exact hR) dX8_drain_29
  · refine lv_iconst (v := (-1)) hx hb dX8_drain_7 (by decide) ?_
    exact gm_iret hx hb hr hlocks hS (by (try simp only [p_X8_drain, ↓if_pos c_1]); (try rfl)) (by (try simp only [p_X8_drain, ↓if_pos c_1]); exact hR) dX8_drain_8
