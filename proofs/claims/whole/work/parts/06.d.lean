def p_X9_comesTo (X : gM) (a1 : Int32) (a2 : Int32) : gM :=
  if f_X9_of X a1 3 = a2 then
    let X19 := p_X9_ends X a1 3 a2 0
    let X20 := updM X19 1 8 ((X19 1 8) ^^^ (f_X9_of X19 a1 0))
    let X21 := updM X20 1 (((f_X9_stationAt a2) + 2).toNatClampNeg) ((X20 1 (((f_X9_stationAt a2) + 2).toNatClampNeg)) + 1)
    let X22 := updM X21 0 8 ((X21 0 8) + 1)
    let X23 := p_X9_logs X22 1 a1 (a2 / 10) a2
    X23
  else
    if f_X9_callOf X a2 (f_X9_of X a1 0) = (-5) then
      if (f_X9_of X a1 3) / 10 = a2 / 10 then
        if f_X9_of X a1 16 = a2 - a2 / 10 * 10 then
          let X1 := p_X9_put X a1 4 ((f_X9_of X a1 4) - 1)
          if f_X9_of X1 a1 4 = 0 then
            let X2 := p_X9_ends X1 a1 6 a2 (f_X9_of X1 a1 5)
            let X3 := p_X9_logs X2 4 a1 (a2 / 10) a2
            X3
          else
            X1
        else
          X
      else
        if a2 - a2 / 10 * 10 = 0 then
          if 3 ≤ f_X9_on X (1 - (a2 / 10)) 2 then
            if f_X9_of X a1 16 = a2 - a2 / 10 * 10 then
              let X7 := p_X9_put X a1 4 ((f_X9_of X a1 4) - 1)
              if f_X9_of X7 a1 4 = 0 then
                let X8 := p_X9_ends X7 a1 6 a2 (f_X9_of X7 a1 5)
                let X9 := p_X9_logs X8 4 a1 (a2 / 10) a2
                X9
              else
                X7
            else
              X
          else
            let X10 := p_X9_rises X a1
            let X11 := p_X9_put X10 a1 6 2
            let X12 := p_X9_put X11 a1 7 (1 - (a2 / 10))
            let X13 := p_X9_put X12 a1 15 (X12 1 0)
            let X14 := p_X9_logs X13 3 a1 (a2 / 10) a2
            X14
        else
          if f_X9_of X a1 16 = a2 - a2 / 10 * 10 then
            let X4 := p_X9_put X a1 4 ((f_X9_of X a1 4) - 1)
            if f_X9_of X4 a1 4 = 0 then
              let X5 := p_X9_ends X4 a1 6 a2 (f_X9_of X4 a1 5)
              let X6 := p_X9_logs X5 4 a1 (a2 / 10) a2
              X6
            else
              X4
          else
            X
    else
      let X15 := p_X9_ends X a1 4 a2 (f_X9_of X a1 5)
      let X16 := p_X9_dropCall X15 a2 (f_X9_callOf X a2 (f_X9_of X a1 0))
      let X17 := updM X16 1 (((f_X9_stationAt a2) + 3).toNatClampNeg) ((X16 1 (((f_X9_stationAt a2) + 3).toNatClampNeg)) + 1)
      let X18 := p_X9_logs X17 2 a1 (a2 / 10) a2
      X18
def ok_X9_comesTo (X : gM) (a1 : Int32) (a2 : Int32) : Prop :=
  (ok_X9_of X a1 0) ∧
  (ok_X9_callOf X a2 (f_X9_of X a1 0)) ∧
  (ok_X9_of X a1 3) ∧
  (if f_X9_of X a1 3 = a2 then
    (ok_X9_ends X a1 3 a2 0) ∧
    ∀ X19 : gM, X19 = p_X9_ends X a1 3 a2 0 →
    (ok_X9_of X19 a1 0) ∧
    ∀ X20 : gM, X20 = updM X19 1 8 ((X19 1 8) ^^^ (f_X9_of X19 a1 0)) →
    (vp_in ((f_X9_stationAt a2) + 2) 974) ∧
    (vp_in ((f_X9_stationAt a2) + 2) 974) ∧
    ∀ X21 : gM, X21 = updM X20 1 (((f_X9_stationAt a2) + 2).toNatClampNeg) ((X20 1 (((f_X9_stationAt a2) + 2).toNatClampNeg)) + 1) →
    ∀ X22 : gM, X22 = updM X21 0 8 ((X21 0 8) + 1) →
    (ok_X9_logs X22 1 a1 (a2 / 10) a2) ∧
    True
  else
    (if f_X9_callOf X a2 (f_X9_of X a1 0) = (-5) then
      (ok_X9_of X a1 3) ∧
      (if (f_X9_of X a1 3) / 10 = a2 / 10 then
        (ok_X9_of X a1 16) ∧
        (if f_X9_of X a1 16 = a2 - a2 / 10 * 10 then
          (ok_X9_of X a1 4) ∧
          (ok_X9_put X a1 4 ((f_X9_of X a1 4) - 1)) ∧
          ∀ X1 : gM, X1 = p_X9_put X a1 4 ((f_X9_of X a1 4) - 1) →
          (ok_X9_of X1 a1 4) ∧
          (if f_X9_of X1 a1 4 = 0 then
            (ok_X9_of X1 a1 5) ∧
            (ok_X9_ends X1 a1 6 a2 (f_X9_of X1 a1 5)) ∧
            ∀ X2 : gM, X2 = p_X9_ends X1 a1 6 a2 (f_X9_of X1 a1 5) →
            (ok_X9_logs X2 4 a1 (a2 / 10) a2) ∧
            True
          else
            True)
        else
          True)
      else
        (if a2 - a2 / 10 * 10 = 0 then
          (ok_X9_on X (1 - (a2 / 10)) 2) ∧
          (if 3 ≤ f_X9_on X (1 - (a2 / 10)) 2 then
            (ok_X9_of X a1 16) ∧
            (if f_X9_of X a1 16 = a2 - a2 / 10 * 10 then
              (ok_X9_of X a1 4) ∧
              (ok_X9_put X a1 4 ((f_X9_of X a1 4) - 1)) ∧
              ∀ X7 : gM, X7 = p_X9_put X a1 4 ((f_X9_of X a1 4) - 1) →
              (ok_X9_of X7 a1 4) ∧
              (if f_X9_of X7 a1 4 = 0 then
                (ok_X9_of X7 a1 5) ∧
                (ok_X9_ends X7 a1 6 a2 (f_X9_of X7 a1 5)) ∧
                ∀ X8 : gM, X8 = p_X9_ends X7 a1 6 a2 (f_X9_of X7 a1 5) →
                (ok_X9_logs X8 4 a1 (a2 / 10) a2) ∧
                True
              else
                True)
            else
              True)
          else
            (ok_X9_rises X a1) ∧
            ∀ X10 : gM, X10 = p_X9_rises X a1 →
            (ok_X9_put X10 a1 6 2) ∧
            ∀ X11 : gM, X11 = p_X9_put X10 a1 6 2 →
            (ok_X9_put X11 a1 7 (1 - (a2 / 10))) ∧
            ∀ X12 : gM, X12 = p_X9_put X11 a1 7 (1 - (a2 / 10)) →
            (ok_X9_put X12 a1 15 (X12 1 0)) ∧
            ∀ X13 : gM, X13 = p_X9_put X12 a1 15 (X12 1 0) →
            (ok_X9_logs X13 3 a1 (a2 / 10) a2) ∧
            True)
        else
          (ok_X9_of X a1 16) ∧
          (if f_X9_of X a1 16 = a2 - a2 / 10 * 10 then
            (ok_X9_of X a1 4) ∧
            (ok_X9_put X a1 4 ((f_X9_of X a1 4) - 1)) ∧
            ∀ X4 : gM, X4 = p_X9_put X a1 4 ((f_X9_of X a1 4) - 1) →
            (ok_X9_of X4 a1 4) ∧
            (if f_X9_of X4 a1 4 = 0 then
              (ok_X9_of X4 a1 5) ∧
              (ok_X9_ends X4 a1 6 a2 (f_X9_of X4 a1 5)) ∧
              ∀ X5 : gM, X5 = p_X9_ends X4 a1 6 a2 (f_X9_of X4 a1 5) →
              (ok_X9_logs X5 4 a1 (a2 / 10) a2) ∧
              True
            else
              True)
          else
            True)))
    else
      (ok_X9_of X a1 5) ∧
      (ok_X9_ends X a1 4 a2 (f_X9_of X a1 5)) ∧
      ∀ X15 : gM, X15 = p_X9_ends X a1 4 a2 (f_X9_of X a1 5) →
      (ok_X9_dropCall X15 a2 (f_X9_callOf X a2 (f_X9_of X a1 0))) ∧
      ∀ X16 : gM, X16 = p_X9_dropCall X15 a2 (f_X9_callOf X a2 (f_X9_of X a1 0)) →
      (vp_in ((f_X9_stationAt a2) + 3) 974) ∧
      (vp_in ((f_X9_stationAt a2) + 3) 974) ∧
      ∀ X17 : gM, X17 = updM X16 1 (((f_X9_stationAt a2) + 3).toNatClampNeg) ((X16 1 (((f_X9_stationAt a2) + 3).toNatClampNeg)) + 1) →
      (ok_X9_logs X17 2 a1 (a2 / 10) a2) ∧
      True))
set_option maxHeartbeats 4000000 in
set_option maxRecDepth 100000 in
theorem c_X9_comesTo (l : Launch) (D : va_G) (cy : Nat → ClassId) (μ : Nat) (X : gM) (a1 : Int32) (a2 : Int32)  (hok : ok_X9_comesTo X a1 a2) : Met l yX9_comesTo wsX9_comesTo ({ frames := 3, cells := 0, slots := 0, locals := 68 }) (gP [.ref μ, .int a1, .int a2] D cy (MR D cy μ X)) (gQv (MR D cy μ (p_X9_comesTo X a1 a2)) (MA μ)) 0 0 (MA μ) := by
  refine gm_met (cc := cX9_comesTo) (maxL := 5) (ret := none) [.ref μ, .int a1, .int a2] (by decide) rfl (Nat.le_of_ble_eq_true rfl) ?_
  intro p e s m args below meth c0 ls C hR hl
  obtain ⟨hx, hb, hr, hts, hown, hlocks, hml, hK⟩ := C
  have hl : lv_has ls 5 [(0, .ref μ), (1, .int a1), (2, .int a2)] := hl
  have hS : va_S (MA μ) s.heap s.heap [] := va_S.rf
  have lk7 := hts (.fieldLink RX9 7 "MercuryLineModel" "s" "[I") (by decide +kernel)
  have inX9 : ∀ w ∈ u_ws RX9 TX9 15, w ∈ wsX9_comesTo := by decide +kernel
  have lk84 := hts (.fieldLink RX9 84 "MercuryLineModel" "arrivals" "I") (by decide +kernel)
  unfold ok_X9_comesTo at hok
  refine lv_iload_n hx hb dX9_comesTo_0 rfl (lv_at hl 2 rfl) ?_
  refine lv_bipush (v := 10) hx hb dX9_comesTo_1 (by decide) ?_
  refine lv_idiv hx hb dX9_comesTo_3 (by decide) ?_
  refine lv_istore_n (lv' := [(3, .int (a2 / 10)), (0, .ref μ), (1, .int a1), (2, .int a2)]) hx hb dX9_comesTo_4 rfl hl (by decide) rfl (fun ls hl => ?_)
  refine lv_aload_n hx hb dX9_comesTo_5 rfl (lv_at hl 1 rfl) ?_
  refine lv_iload_n hx hb dX9_comesTo_6 rfl (lv_at hl 3 rfl) ?_
  refine lv_aload_n hx hb dX9_comesTo_7 rfl (lv_at hl 1 rfl) ?_
  refine lv_iload_n hx hb dX9_comesTo_8 rfl (lv_at hl 2 rfl) ?_
  refine lv_iconst (v := 0) hx hb dX9_comesTo_9 (by decide) ?_
  obtain ⟨h_1, hok⟩ := hok
  refine gm_ci (gm_call (As := [.int a1, .int 0]) (rest := [.int a2, .ref μ]) (ci := 9) (q := (RX9, TX9, 15)) ⟨hx, hb, hml, hown, hts⟩ hK (c_X9_of l D cy μ X a1 0 h_1) (cwV 2 hts gX9_comesTo_X9_of rfl rfl rfl (by decide +kernel) ⟨Nat.le_of_ble_eq_true rfl, Nat.le_of_ble_eq_true rfl⟩) (MR.mk0 hR) rfl hR rfl hl.1 rfl (Nat.le_of_ble_eq_true rfl) dX9_comesTo_10 (Nat.zero_le _) (Nat.zero_le _)) hS (fun _ h => h.elim) (fun H locs _ _ hfr hS => ?_)
  have hR := gRep.keep hR hfr (fun _ _ h => h)
  obtain ⟨h_2, hok⟩ := hok
  refine gm_ci (gm_call (As := [.int a2, .int (f_X9_of X a1 0)]) (rest := []) (ci := 9) (q := (RX9, TX9, 15)) ⟨hx, hb, hml, hown, hts⟩ hK (c_X9_callOf l D cy μ X a2 (f_X9_of X a1 0) h_2) (cwV 2 hts gX9_comesTo_X9_callOf rfl rfl rfl (by decide +kernel) ⟨Nat.le_of_ble_eq_true rfl, Nat.le_of_ble_eq_true rfl⟩) (MR.mk0 hR) rfl hR rfl hl.1 rfl (Nat.le_of_ble_eq_true rfl) dX9_comesTo_13 (Nat.zero_le _) (Nat.zero_le _)) hS (fun _ h => h.elim) (fun H locs _ _ hfr hS => ?_)
  have hR := gRep.keep hR hfr (fun _ _ h => h)
  refine lv_istore (lv' := [(4, .int (f_X9_callOf X a2 (f_X9_of X a1 0))), (3, .int (a2 / 10)), (0, .ref μ), (1, .int a1), (2, .int a2)]) hx hb dX9_comesTo_16 hl (by decide) rfl (fun ls hl => ?_)
  refine lv_aload_n hx hb dX9_comesTo_18 rfl (lv_at hl 2 rfl) ?_
  refine lv_iload_n hx hb dX9_comesTo_19 rfl (lv_at hl 3 rfl) ?_
  refine lv_iconst (v := 3) hx hb dX9_comesTo_20 (by decide) ?_
  obtain ⟨h_3, hok⟩ := hok
  refine gm_ci (gm_call (As := [.int a1, .int 3]) (rest := []) (ci := 9) (q := (RX9, TX9, 15)) ⟨hx, hb, hml, hown, hts⟩ hK (c_X9_of l D cy μ X a1 3 h_3) (cwV 2 hts gX9_comesTo_X9_of rfl rfl rfl (by decide +kernel) ⟨Nat.le_of_ble_eq_true rfl, Nat.le_of_ble_eq_true rfl⟩) (MR.mk0 hR) rfl hR rfl hl.1 rfl (Nat.le_of_ble_eq_true rfl) dX9_comesTo_21 (Nat.zero_le _) (Nat.zero_le _)) hS (fun _ h => h.elim) (fun H locs _ _ hfr hS => ?_)
  have hR := gRep.keep hR hfr (fun _ _ h => h)
  refine lv_iload_n hx hb dX9_comesTo_24 rfl (lv_at hl 4 rfl) ?_
  refine lv_icmp_ne (tgt := 88) hx hb dX9_comesTo_25 (by decide) (fun c_4 => ?_) (fun c_4 => ?_)
  · try rw [if_neg c_4] at hok
    refine lv_iload hx hb dX9_comesTo_88 (lv_at hl 0 rfl) ?_
    refine lv_bipush (v := (-5)) hx hb dX9_comesTo_90 (by decide) ?_
    refine lv_icmp_eq (tgt := 141) hx hb dX9_comesTo_92 (by decide) (fun c_5 => ?_) (fun c_5 => ?_)
    · try rw [if_pos c_5] at hok
      refine lv_aload_n hx hb dX9_comesTo_141 rfl (lv_at hl 2 rfl) ?_
      refine lv_iload_n hx hb dX9_comesTo_142 rfl (lv_at hl 3 rfl) ?_
      refine lv_iconst (v := 3) hx hb dX9_comesTo_143 (by decide) ?_
      obtain ⟨h_6, hok⟩ := hok
      refine gm_ci (gm_call (As := [.int a1, .int 3]) (rest := []) (ci := 9) (q := (RX9, TX9, 15)) ⟨hx, hb, hml, hown, hts⟩ hK (c_X9_of l D cy μ X a1 3 h_6) (cwV 2 hts gX9_comesTo_X9_of rfl rfl rfl (by decide +kernel) ⟨Nat.le_of_ble_eq_true rfl, Nat.le_of_ble_eq_true rfl⟩) (MR.mk0 hR) rfl hR rfl hl.1 rfl (Nat.le_of_ble_eq_true rfl) dX9_comesTo_144 (Nat.zero_le _) (Nat.zero_le _)) hS (fun _ h => h.elim) (fun H locs _ _ hfr hS => ?_)
      have hR := gRep.keep hR hfr (fun _ _ h => h)
      refine lv_bipush (v := 10) hx hb dX9_comesTo_147 (by decide) ?_
      refine lv_idiv hx hb dX9_comesTo_149 (by decide) ?_
      refine lv_iload_n hx hb dX9_comesTo_150 rfl (lv_at hl 1 rfl) ?_
      refine lv_icmp_eq (tgt := 220) hx hb dX9_comesTo_151 (by decide) (fun c_7 => ?_) (fun c_7 => ?_)
      · try rw [if_pos c_7] at hok
        refine lv_aload_n hx hb dX9_comesTo_220 rfl (lv_at hl 2 rfl) ?_
        refine lv_iload_n hx hb dX9_comesTo_221 rfl (lv_at hl 3 rfl) ?_
        refine lv_bipush (v := 16) hx hb dX9_comesTo_222 (by decide) ?_
        obtain ⟨h_8, hok⟩ := hok
        refine gm_ci (gm_call (As := [.int a1, .int 16]) (rest := []) (ci := 9) (q := (RX9, TX9, 15)) ⟨hx, hb, hml, hown, hts⟩ hK (c_X9_of l D cy μ X a1 16 h_8) (cwV 2 hts gX9_comesTo_X9_of rfl rfl rfl (by decide +kernel) ⟨Nat.le_of_ble_eq_true rfl, Nat.le_of_ble_eq_true rfl⟩) (MR.mk0 hR) rfl hR rfl hl.1 rfl (Nat.le_of_ble_eq_true rfl) dX9_comesTo_224 (Nat.zero_le _) (Nat.zero_le _)) hS (fun _ h => h.elim) (fun H locs _ _ hfr hS => ?_)
        have hR := gRep.keep hR hfr (fun _ _ h => h)
        refine lv_iload_n hx hb dX9_comesTo_227 rfl (lv_at hl 4 rfl) ?_
        refine lv_bipush (v := 10) hx hb dX9_comesTo_228 (by decide) ?_
        refine lv_irem hx hb dX9_comesTo_230 (by decide) ?_
        refine lv_icmp_ne (tgt := 279) hx hb dX9_comesTo_231 (by decide) (fun c_9 => ?_) (fun c_9 => ?_)
        · try rw [if_neg c_9] at hok
          exact gm_vret hx hb hr hlocks hS (by (try simp only [p_X9_comesTo, ↓if_neg c_4, ↓if_pos c_5, ↓if_pos c_7, ↓if_neg c_9]); exact hR) dX9_comesTo_279
        · try rw [if_pos c_9] at hok
          refine lv_aload_n hx hb dX9_comesTo_234 rfl (lv_at hl 2 rfl) ?_
          refine lv_iload_n hx hb dX9_comesTo_235 rfl (lv_at hl 3 rfl) ?_
          refine lv_iconst (v := 4) hx hb dX9_comesTo_236 (by decide) ?_
          refine lv_aload_n hx hb dX9_comesTo_237 rfl (lv_at hl 2 rfl) ?_
          refine lv_iload_n hx hb dX9_comesTo_238 rfl (lv_at hl 3 rfl) ?_
          refine lv_iconst (v := 4) hx hb dX9_comesTo_239 (by decide) ?_
          obtain ⟨h_10, hok⟩ := hok
          refine gm_ci (gm_call (As := [.int a1, .int 4]) (rest := [.int 4, .int a1, .ref μ]) (ci := 9) (q := (RX9, TX9, 15)) ⟨hx, hb, hml, hown, hts⟩ hK (c_X9_of l D cy μ X a1 4 h_10) (cwV 2 hts gX9_comesTo_X9_of rfl rfl rfl (by decide +kernel) ⟨Nat.le_of_ble_eq_true rfl, Nat.le_of_ble_eq_true rfl⟩) (MR.mk0 hR) rfl hR rfl hl.1 rfl (Nat.le_of_ble_eq_true rfl) dX9_comesTo_240 (Nat.zero_le _) (Nat.zero_le _)) hS (fun _ h => h.elim) (fun H locs _ _ hfr hS => ?_)
          have hR := gRep.keep hR hfr (fun _ _ h => h)
          refine lv_iconst (v := 1) hx hb dX9_comesTo_243 (by decide) ?_
          refine lv_isub hx hb dX9_comesTo_244 ?_
          obtain ⟨h_11, hok⟩ := hok
          refine gm_cv (gm_call (As := [.int a1, .int 4, .int ((f_X9_of X a1 4) - 1)]) (rest := []) (ci := 9) (q := (RX9, TX9, 15)) ⟨hx, hb, hml, hown, hts⟩ hK (c_X9_put l D cy μ X a1 4 ((f_X9_of X a1 4) - 1) h_11) (cwV 3 hts gX9_comesTo_X9_put rfl rfl rfl (by decide +kernel) ⟨Nat.le_of_ble_eq_true rfl, Nat.le_of_ble_eq_true rfl⟩) (MR.mk0 hR) rfl hR rfl hl.1 rfl (Nat.le_of_ble_eq_true rfl) dX9_comesTo_245 (Nat.zero_le _) (Nat.zero_le _)) hS (fun _ h => h) (fun H locs hR _ _ hS => ?_)
          obtain ⟨X1, eX1⟩ : ∃ Y : gM, Y = p_X9_put X a1 4 ((f_X9_of X a1 4) - 1) := ⟨_, rfl⟩
          rw [← eX1] at hR
          try replace hok := hok X1 eX1
          refine lv_aload_n hx hb dX9_comesTo_248 rfl (lv_at hl 2 rfl) ?_
          refine lv_iload_n hx hb dX9_comesTo_249 rfl (lv_at hl 3 rfl) ?_
          refine lv_iconst (v := 4) hx hb dX9_comesTo_250 (by decide) ?_
          obtain ⟨h_12, hok⟩ := hok
          refine gm_ci (gm_call (As := [.int a1, .int 4]) (rest := []) (ci := 9) (q := (RX9, TX9, 15)) ⟨hx, hb, hml, hown, hts⟩ hK (c_X9_of l D cy μ X1 a1 4 h_12) (cwV 2 hts gX9_comesTo_X9_of rfl rfl rfl (by decide +kernel) ⟨Nat.le_of_ble_eq_true rfl, Nat.le_of_ble_eq_true rfl⟩) (MR.mk0 hR) rfl hR rfl hl.1 rfl (Nat.le_of_ble_eq_true rfl) dX9_comesTo_251 (Nat.zero_le _) (Nat.zero_le _)) hS (fun _ h => h.elim) (fun H locs _ _ hfr hS => ?_)
          have hR := gRep.keep hR hfr (fun _ _ h => h)
          refine lv_if_ne (tgt := 279) hx hb dX9_comesTo_254 (by decide) (fun c_13 => ?_) (fun c_13 => ?_)
          · try rw [if_neg c_13] at hok
            exact gm_vret hx hb hr hlocks hS (by (try simp only [p_X9_comesTo, ↓if_neg c_4, ↓if_pos c_5, ↓if_pos c_7, ↓if_pos c_9, ↓if_neg c_13, ← eX1]); exact hR) dX9_comesTo_279
          · try rw [if_pos c_13] at hok
            refine lv_aload_n hx hb dX9_comesTo_257 rfl (lv_at hl 2 rfl) ?_
            refine lv_iload_n hx hb dX9_comesTo_258 rfl (lv_at hl 3 rfl) ?_
            refine lv_bipush (v := 6) hx hb dX9_comesTo_259 (by decide) ?_
            refine lv_iload_n hx hb dX9_comesTo_261 rfl (lv_at hl 4 rfl) ?_
            refine lv_aload_n hx hb dX9_comesTo_262 rfl (lv_at hl 2 rfl) ?_
            refine lv_iload_n hx hb dX9_comesTo_263 rfl (lv_at hl 3 rfl) ?_
            refine lv_iconst (v := 5) hx hb dX9_comesTo_264 (by decide) ?_
            obtain ⟨h_14, hok⟩ := hok
            refine gm_ci (gm_call (As := [.int a1, .int 5]) (rest := [.int a2, .int 6, .int a1, .ref μ]) (ci := 9) (q := (RX9, TX9, 15)) ⟨hx, hb, hml, hown, hts⟩ hK (c_X9_of l D cy μ X1 a1 5 h_14) (cwV 2 hts gX9_comesTo_X9_of rfl rfl rfl (by decide +kernel) ⟨Nat.le_of_ble_eq_true rfl, Nat.le_of_ble_eq_true rfl⟩) (MR.mk0 hR) rfl hR rfl hl.1 rfl (Nat.le_of_ble_eq_true rfl) dX9_comesTo_265 (Nat.zero_le _) (Nat.zero_le _)) hS (fun _ h => h.elim) (fun H locs _ _ hfr hS => ?_)
            have hR := gRep.keep hR hfr (fun _ _ h => h)
            obtain ⟨h_15, hok⟩ := hok
            refine gm_cv (gm_call (As := [.int a1, .int 6, .int a2, .int (f_X9_of X1 a1 5)]) (rest := []) (ci := 9) (q := (RX9, TX9, 15)) ⟨hx, hb, hml, hown, hts⟩ hK (c_X9_ends l D cy μ X1 a1 6 a2 (f_X9_of X1 a1 5) h_15) (cwV 4 hts gX9_comesTo_X9_ends rfl rfl rfl (by decide +kernel) ⟨Nat.le_of_ble_eq_true rfl, Nat.le_of_ble_eq_true rfl⟩) (MR.mk0 hR) rfl hR rfl hl.1 rfl (Nat.le_of_ble_eq_true rfl) dX9_comesTo_268 (Nat.zero_le _) (Nat.zero_le _)) hS (fun _ h => h) (fun H locs hR _ _ hS => ?_)
            obtain ⟨X2, eX2⟩ : ∃ Y : gM, Y = p_X9_ends X1 a1 6 a2 (f_X9_of X1 a1 5) := ⟨_, rfl⟩
            rw [← eX2] at hR
            try replace hok := hok X2 eX2
            refine lv_aload_n hx hb dX9_comesTo_271 rfl (lv_at hl 2 rfl) ?_
            refine lv_iconst (v := 4) hx hb dX9_comesTo_272 (by decide) ?_
            refine lv_iload_n hx hb dX9_comesTo_273 rfl (lv_at hl 3 rfl) ?_
            refine lv_iload_n hx hb dX9_comesTo_274 rfl (lv_at hl 1 rfl) ?_
            refine lv_iload_n hx hb dX9_comesTo_275 rfl (lv_at hl 4 rfl) ?_
            obtain ⟨h_16, hok⟩ := hok
            refine gm_cv (gm_call (As := [.int 4, .int a1, .int (a2 / 10), .int a2]) (rest := []) (ci := 9) (q := (RX9, TX9, 15)) ⟨hx, hb, hml, hown, hts⟩ hK (c_X9_logs l D cy μ X2 4 a1 (a2 / 10) a2 h_16) (cwV 4 hts gX9_comesTo_X9_logs rfl rfl rfl (by decide +kernel) ⟨Nat.le_of_ble_eq_true rfl, Nat.le_of_ble_eq_true rfl⟩) (MR.mk0 hR) rfl hR rfl hl.1 rfl (Nat.le_of_ble_eq_true rfl) dX9_comesTo_276 (Nat.zero_le _) (Nat.zero_le _)) hS (fun _ h => h) (fun H locs hR _ _ hS => ?_)
            obtain ⟨X3, eX3⟩ : ∃ Y : gM, Y = p_X9_logs X2 4 a1 (a2 / 10) a2 := ⟨_, rfl⟩
            rw [← eX3] at hR
            try replace hok := hok X3 eX3
            exact gm_vret hx hb hr hlocks hS (by (try simp only [p_X9_comesTo, ↓if_neg c_4, ↓if_pos c_5, ↓if_pos c_7, ↓if_pos c_9, ↓if_pos c_13, ← eX1, ← eX2, ← eX3]); exact hR) dX9_comesTo_279
      · try rw [if_neg c_7] at hok
        refine lv_iload_n hx hb dX9_comesTo_154 rfl (lv_at hl 4 rfl) ?_
        refine lv_bipush (v := 10) hx hb dX9_comesTo_155 (by decide) ?_
        refine lv_irem hx hb dX9_comesTo_157 (by decide) ?_
        refine lv_if_ne (tgt := 220) hx hb dX9_comesTo_158 (by decide) (fun c_17 => ?_) (fun c_17 => ?_)
        · try rw [if_neg c_17] at hok
          refine lv_aload_n hx hb dX9_comesTo_220 rfl (lv_at hl 2 rfl) ?_
          refine lv_iload_n hx hb dX9_comesTo_221 rfl (lv_at hl 3 rfl) ?_
          refine lv_bipush (v := 16) hx hb dX9_comesTo_222 (by decide) ?_
          obtain ⟨h_18, hok⟩ := hok
          refine gm_ci (gm_call (As := [.int a1, .int 16]) (rest := []) (ci := 9) (q := (RX9, TX9, 15)) ⟨hx, hb, hml, hown, hts⟩ hK (c_X9_of l D cy μ X a1 16 h_18) (cwV 2 hts gX9_comesTo_X9_of rfl rfl rfl (by decide +kernel) ⟨Nat.le_of_ble_eq_true rfl, Nat.le_of_ble_eq_true rfl⟩) (MR.mk0 hR) rfl hR rfl hl.1 rfl (Nat.le_of_ble_eq_true rfl) dX9_comesTo_224 (Nat.zero_le _) (Nat.zero_le _)) hS (fun _ h => h.elim) (fun H locs _ _ hfr hS => ?_)
          have hR := gRep.keep hR hfr (fun _ _ h => h)
          refine lv_iload_n hx hb dX9_comesTo_227 rfl (lv_at hl 4 rfl) ?_
          refine lv_bipush (v := 10) hx hb dX9_comesTo_228 (by decide) ?_
          refine lv_irem hx hb dX9_comesTo_230 (by decide) ?_
          refine lv_icmp_ne (tgt := 279) hx hb dX9_comesTo_231 (by decide) (fun c_19 => ?_) (fun c_19 => ?_)
          · try rw [if_neg c_19] at hok
            exact gm_vret hx hb hr hlocks hS (by (try simp only [p_X9_comesTo, ↓if_neg c_4, ↓if_pos c_5, ↓if_neg c_7, ↓if_neg c_17, ↓if_neg c_19]); exact hR) dX9_comesTo_279
          · try rw [if_pos c_19] at hok
            refine lv_aload_n hx hb dX9_comesTo_234 rfl (lv_at hl 2 rfl) ?_
            refine lv_iload_n hx hb dX9_comesTo_235 rfl (lv_at hl 3 rfl) ?_
            refine lv_iconst (v := 4) hx hb dX9_comesTo_236 (by decide) ?_
            refine lv_aload_n hx hb dX9_comesTo_237 rfl (lv_at hl 2 rfl) ?_
            refine lv_iload_n hx hb dX9_comesTo_238 rfl (lv_at hl 3 rfl) ?_
            refine lv_iconst (v := 4) hx hb dX9_comesTo_239 (by decide) ?_
            obtain ⟨h_20, hok⟩ := hok
            refine gm_ci (gm_call (As := [.int a1, .int 4]) (rest := [.int 4, .int a1, .ref μ]) (ci := 9) (q := (RX9, TX9, 15)) ⟨hx, hb, hml, hown, hts⟩ hK (c_X9_of l D cy μ X a1 4 h_20) (cwV 2 hts gX9_comesTo_X9_of rfl rfl rfl (by decide +kernel) ⟨Nat.le_of_ble_eq_true rfl, Nat.le_of_ble_eq_true rfl⟩) (MR.mk0 hR) rfl hR rfl hl.1 rfl (Nat.le_of_ble_eq_true rfl) dX9_comesTo_240 (Nat.zero_le _) (Nat.zero_le _)) hS (fun _ h => h.elim) (fun H locs _ _ hfr hS => ?_)
            have hR := gRep.keep hR hfr (fun _ _ h => h)
            refine lv_iconst (v := 1) hx hb dX9_comesTo_243 (by decide) ?_
            refine lv_isub hx hb dX9_comesTo_244 ?_
            obtain ⟨h_21, hok⟩ := hok
            refine gm_cv (gm_call (As := [.int a1, .int 4, .int ((f_X9_of X a1 4) - 1)]) (rest := []) (ci := 9) (q := (RX9, TX9, 15)) ⟨hx, hb, hml, hown, hts⟩ hK (c_X9_put l D cy μ X a1 4 ((f_X9_of X a1 4) - 1) h_21) (cwV 3 hts gX9_comesTo_X9_put rfl rfl rfl (by decide +kernel) ⟨Nat.le_of_ble_eq_true rfl, Nat.le_of_ble_eq_true rfl⟩) (MR.mk0 hR) rfl hR rfl hl.1 rfl (Nat.le_of_ble_eq_true rfl) dX9_comesTo_245 (Nat.zero_le _) (Nat.zero_le _)) hS (fun _ h => h) (fun H locs hR _ _ hS => ?_)
            obtain ⟨X4, eX4⟩ : ∃ Y : gM, Y = p_X9_put X a1 4 ((f_X9_of X a1 4) - 1) := ⟨_, rfl⟩
            rw [← eX4] at hR
            try replace hok := hok X4 eX4
            refine lv_aload_n hx hb dX9_comesTo_248 rfl (lv_at hl 2 rfl) ?_
            refine lv_iload_n hx hb dX9_comesTo_249 rfl (lv_at hl 3 rfl) ?_
            refine lv_iconst (v := 4) hx hb dX9_comesTo_250 (by decide) ?_
            obtain ⟨h_22, hok⟩ := hok
            refine gm_ci (gm_call (As := [.int a1, .int 4]) (rest := []) (ci := 9) (q := (RX9, TX9, 15)) ⟨hx, hb, hml, hown, hts⟩ hK (c_X9_of l D cy μ X4 a1 4 h_22) (cwV 2 hts gX9_comesTo_X9_of rfl rfl rfl (by decide +kernel) ⟨Nat.le_of_ble_eq_true rfl, Nat.le_of_ble_eq_true rfl⟩) (MR.mk0 hR) rfl hR rfl hl.1 rfl (Nat.le_of_ble_eq_true rfl) dX9_comesTo_251 (Nat.zero_le _) (Nat.zero_le _)) hS (fun _ h => h.elim) (fun H locs _ _ hfr hS => ?_)
            have hR := gRep.keep hR hfr (fun _ _ h => h)
            refine lv_if_ne (tgt := 279) hx hb dX9_comesTo_254 (by decide) (fun c_23 => ?_) (fun c_23 => ?_)
            · try rw [if_neg c_23] at hok
              exact gm_vret hx hb hr hlocks hS (by (try simp only [p_X9_comesTo, ↓if_neg c_4, ↓if_pos c_5, ↓if_neg c_7, ↓if_neg c_17, ↓if_pos c_19, ↓if_neg c_23, ← eX4]); exact hR) dX9_comesTo_279
            · try rw [if_pos c_23] at hok
              refine lv_aload_n hx hb dX9_comesTo_257 rfl (lv_at hl 2 rfl) ?_
              refine lv_iload_n hx hb dX9_comesTo_258 rfl (lv_at hl 3 rfl) ?_
              refine lv_bipush (v := 6) hx hb dX9_comesTo_259 (by decide) ?_
              refine lv_iload_n hx hb dX9_comesTo_261 rfl (lv_at hl 4 rfl) ?_
              refine lv_aload_n hx hb dX9_comesTo_262 rfl (lv_at hl 2 rfl) ?_
              refine lv_iload_n hx hb dX9_comesTo_263 rfl (lv_at hl 3 rfl) ?_
              refine lv_iconst (v := 5) hx hb dX9_comesTo_264 (by decide) ?_
              obtain ⟨h_24, hok⟩ := hok
              refine gm_ci (gm_call (As := [.int a1, .int 5]) (rest := [.int a2, .int 6, .int a1, .ref μ]) (ci := 9) (q := (RX9, TX9, 15)) ⟨hx, hb, hml, hown, hts⟩ hK (c_X9_of l D cy μ X4 a1 5 h_24) (cwV 2 hts gX9_comesTo_X9_of rfl rfl rfl (by decide +kernel) ⟨Nat.le_of_ble_eq_true rfl, Nat.le_of_ble_eq_true rfl⟩) (MR.mk0 hR) rfl hR rfl hl.1 rfl (Nat.le_of_ble_eq_true rfl) dX9_comesTo_265 (Nat.zero_le _) (Nat.zero_le _)) hS (fun _ h => h.elim) (fun H locs _ _ hfr hS => ?_)
              have hR := gRep.keep hR hfr (fun _ _ h => h)
              obtain ⟨h_25, hok⟩ := hok
              refine gm_cv (gm_call (As := [.int a1, .int 6, .int a2, .int (f_X9_of X4 a1 5)]) (rest := []) (ci := 9) (q := (RX9, TX9, 15)) ⟨hx, hb, hml, hown, hts⟩ hK (c_X9_ends l D cy μ X4 a1 6 a2 (f_X9_of X4 a1 5) h_25) (cwV 4 hts gX9_comesTo_X9_ends rfl rfl rfl (by decide +kernel) ⟨Nat.le_of_ble_eq_true rfl, Nat.le_of_ble_eq_true rfl⟩) (MR.mk0 hR) rfl hR rfl hl.1 rfl (Nat.le_of_ble_eq_true rfl) dX9_comesTo_268 (Nat.zero_le _) (Nat.zero_le _)) hS (fun _ h => h) (fun H locs hR _ _ hS => ?_)
              obtain ⟨X5, eX5⟩ : ∃ Y : gM, Y = p_X9_ends X4 a1 6 a2 (f_X9_of X4 a1 5) := ⟨_, rfl⟩
              rw [← eX5] at hR
              try replace hok := hok X5 eX5
              refine lv_aload_n hx hb dX9_comesTo_271 rfl (lv_at hl 2 rfl) ?_
              refine lv_iconst (v := 4) hx hb dX9_comesTo_272 (by decide) ?_
              refine lv_iload_n hx hb dX9_comesTo_273 rfl (lv_at hl 3 rfl) ?_
              refine lv_iload_n hx hb dX9_comesTo_274 rfl (lv_at hl 1 rfl) ?_
              refine lv_iload_n hx hb dX9_comesTo_275 rfl (lv_at hl 4 rfl) ?_
              obtain ⟨h_26, hok⟩ := hok
              refine gm_cv (gm_call (As := [.int 4, .int a1, .int (a2 / 10), .int a2]) (rest := []) (ci := 9) (q := (RX9, TX9, 15)) ⟨hx, hb, hml, hown, hts⟩ hK (c_X9_logs l D cy μ X5 4 a1 (a2 / 10) a2 h_26) (cwV 4 hts gX9_comesTo_X9_logs rfl rfl rfl (by decide +kernel) ⟨Nat.le_of_ble_eq_true rfl, Nat.le_of_ble_eq_true rfl⟩) (MR.mk0 hR) rfl hR rfl hl.1 rfl (Nat.le_of_ble_eq_true rfl) dX9_comesTo_276 (Nat.zero_le _) (Nat.zero_le _)) hS (fun _ h => h) (fun H locs hR _ _ hS => ?_)
              obtain ⟨X6, eX6⟩ : ∃ Y : gM, Y = p_X9_logs X5 4 a1 (a2 / 10) a2 := ⟨_, rfl⟩
              rw [← eX6] at hR
              try replace hok := hok X6 eX6
              exact gm_vret hx hb hr hlocks hS (by (try simp only [p_X9_comesTo, ↓if_neg c_4, ↓if_pos c_5, ↓if_neg c_7, ↓if_neg c_17, ↓if_pos c_19, ↓if_pos c_23, ← eX4, ← eX5, ← eX6]); exact hR) dX9_comesTo_279
        · try rw [if_pos c_17] at hok
          refine lv_aload_n hx hb dX9_comesTo_161 rfl (lv_at hl 2 rfl) ?_
          refine lv_iconst (v := 1) hx hb dX9_comesTo_162 (by decide) ?_
          refine lv_iload_n hx hb dX9_comesTo_163 rfl (lv_at hl 1 rfl) ?_
          refine lv_isub hx hb dX9_comesTo_164 ?_
          refine lv_iconst (v := 2) hx hb dX9_comesTo_165 (by decide) ?_
          obtain ⟨h_27, hok⟩ := hok
          refine gm_ci (gm_call (As := [.int (1 - (a2 / 10)), .int 2]) (rest := []) (ci := 9) (q := (RX9, TX9, 15)) ⟨hx, hb, hml, hown, hts⟩ hK (c_X9_on l D cy μ X (1 - (a2 / 10)) 2 h_27) (cwV 2 hts gX9_comesTo_X9_on rfl rfl rfl (by decide +kernel) ⟨Nat.le_of_ble_eq_true rfl, Nat.le_of_ble_eq_true rfl⟩) (MR.mk0 hR) rfl hR rfl hl.1 rfl (Nat.le_of_ble_eq_true rfl) dX9_comesTo_166 (Nat.zero_le _) (Nat.zero_le _)) hS (fun _ h => h.elim) (fun H locs _ _ hfr hS => ?_)
          have hR := gRep.keep hR hfr (fun _ _ h => h)
          refine lv_iconst (v := 3) hx hb dX9_comesTo_169 (by decide) ?_
          refine lv_icmp_ge (tgt := 220) hx hb dX9_comesTo_170 (by decide) (fun c_28 => ?_) (fun c_28 => ?_)
          · try rw [if_pos c_28] at hok
            refine lv_aload_n hx hb dX9_comesTo_220 rfl (lv_at hl 2 rfl) ?_
            refine lv_iload_n hx hb dX9_comesTo_221 rfl (lv_at hl 3 rfl) ?_
            refine lv_bipush (v := 16) hx hb dX9_comesTo_222 (by decide) ?_
            obtain ⟨h_29, hok⟩ := hok
            refine gm_ci (gm_call (As := [.int a1, .int 16]) (rest := []) (ci := 9) (q := (RX9, TX9, 15)) ⟨hx, hb, hml, hown, hts⟩ hK (c_X9_of l D cy μ X a1 16 h_29) (cwV 2 hts gX9_comesTo_X9_of rfl rfl rfl (by decide +kernel) ⟨Nat.le_of_ble_eq_true rfl, Nat.le_of_ble_eq_true rfl⟩) (MR.mk0 hR) rfl hR rfl hl.1 rfl (Nat.le_of_ble_eq_true rfl) dX9_comesTo_224 (Nat.zero_le _) (Nat.zero_le _)) hS (fun _ h => h.elim) (fun H locs _ _ hfr hS => ?_)
            have hR := gRep.keep hR hfr (fun _ _ h => h)
            refine lv_iload_n hx hb dX9_comesTo_227 rfl (lv_at hl 4 rfl) ?_
            refine lv_bipush (v := 10) hx hb dX9_comesTo_228 (by decide) ?_
            refine lv_irem hx hb dX9_comesTo_230 (by decide) ?_
            refine lv_icmp_ne (tgt := 279) hx hb dX9_comesTo_231 (by decide) (fun c_30 => ?_) (fun c_30 => ?_)
            · try rw [if_neg c_30] at hok
              exact gm_vret hx hb hr hlocks hS (by (try simp only [p_X9_comesTo, ↓if_neg c_4, ↓if_pos c_5, ↓if_neg c_7, ↓if_pos c_17, ↓if_pos c_28, ↓if_neg c_30]); exact hR) dX9_comesTo_279
            · try rw [if_pos c_30] at hok
              refine lv_aload_n hx hb dX9_comesTo_234 rfl (lv_at hl 2 rfl) ?_
              refine lv_iload_n hx hb dX9_comesTo_235 rfl (lv_at hl 3 rfl) ?_
              refine lv_iconst (v := 4) hx hb dX9_comesTo_236 (by decide) ?_
              refine lv_aload_n hx hb dX9_comesTo_237 rfl (lv_at hl 2 rfl) ?_
              refine lv_iload_n hx hb dX9_comesTo_238 rfl (lv_at hl 3 rfl) ?_
              refine lv_iconst (v := 4) hx hb dX9_comesTo_239 (by decide) ?_
              obtain ⟨h_31, hok⟩ := hok
              refine gm_ci (gm_call (As := [.int a1, .int 4]) (rest := [.int 4, .int a1, .ref μ]) (ci := 9) (q := (RX9, TX9, 15)) ⟨hx, hb, hml, hown, hts⟩ hK (c_X9_of l D cy μ X a1 4 h_31) (cwV 2 hts gX9_comesTo_X9_of rfl rfl rfl (by decide +kernel) ⟨Nat.le_of_ble_eq_true rfl, Nat.le_of_ble_eq_true rfl⟩) (MR.mk0 hR) rfl hR rfl hl.1 rfl (Nat.le_of_ble_eq_true rfl) dX9_comesTo_240 (Nat.zero_le _) (Nat.zero_le _)) hS (fun _ h => h.elim) (fun H locs _ _ hfr hS => ?_)
              have hR := gRep.keep hR hfr (fun _ _ h => h)
              refine lv_iconst (v := 1) hx hb dX9_comesTo_243 (by decide) ?_
              refine lv_isub hx hb dX9_comesTo_244 ?_
              obtain ⟨h_32, hok⟩ := hok
              refine gm_cv (gm_call (As := [.int a1, .int 4, .int ((f_X9_of X a1 4) - 1)]) (rest := []) (ci := 9) (q := (RX9, TX9, 15)) ⟨hx, hb, hml, hown, hts⟩ hK (c_X9_put l D cy μ X a1 4 ((f_X9_of X a1 4) - 1) h_32) (cwV 3 hts gX9_comesTo_X9_put rfl rfl rfl (by decide +kernel) ⟨Nat.le_of_ble_eq_true rfl, Nat.le_of_ble_eq_true rfl⟩) (MR.mk0 hR) rfl hR rfl hl.1 rfl (Nat.le_of_ble_eq_true rfl) dX9_comesTo_245 (Nat.zero_le _) (Nat.zero_le _)) hS (fun _ h => h) (fun H locs hR _ _ hS => ?_)
              obtain ⟨X7, eX7⟩ : ∃ Y : gM, Y = p_X9_put X a1 4 ((f_X9_of X a1 4) - 1) := ⟨_, rfl⟩
              rw [← eX7] at hR
              try replace hok := hok X7 eX7
              refine lv_aload_n hx hb dX9_comesTo_248 rfl (lv_at hl 2 rfl) ?_
              refine lv_iload_n hx hb dX9_comesTo_249 rfl (lv_at hl 3 rfl) ?_
              refine lv_iconst (v := 4) hx hb dX9_comesTo_250 (by decide) ?_
              obtain ⟨h_33, hok⟩ := hok
              refine gm_ci (gm_call (As := [.int a1, .int 4]) (rest := []) (ci := 9) (q := (RX9, TX9, 15)) ⟨hx, hb, hml, hown, hts⟩ hK (c_X9_of l D cy μ X7 a1 4 h_33) (cwV 2 hts gX9_comesTo_X9_of rfl rfl rfl (by decide +kernel) ⟨Nat.le_of_ble_eq_true rfl, Nat.le_of_ble_eq_true rfl⟩) (MR.mk0 hR) rfl hR rfl hl.1 rfl (Nat.le_of_ble_eq_true rfl) dX9_comesTo_251 (Nat.zero_le _) (Nat.zero_le _)) hS (fun _ h => h.elim) (fun H locs _ _ hfr hS => ?_)
              have hR := gRep.keep hR hfr (fun _ _ h => h)
              refine lv_if_ne (tgt := 279) hx hb dX9_comesTo_254 (by decide) (fun c_34 => ?_) (fun c_34 => ?_)
              · try rw [if_neg c_34] at hok
                exact gm_vret hx hb hr hlocks hS (by (try simp only [p_X9_comesTo, ↓if_neg c_4, ↓if_pos c_5, ↓if_neg c_7, ↓if_pos c_17, ↓if_pos c_28, ↓if_pos c_30, ↓if_neg c_34, ← eX7]); exact hR) dX9_comesTo_279
              · try rw [if_pos c_34] at hok
                refine lv_aload_n hx hb dX9_comesTo_257 rfl (lv_at hl 2 rfl) ?_
                refine lv_iload_n hx hb dX9_comesTo_258 rfl (lv_at hl 3 rfl) ?_
                refine lv_bipush (v := 6) hx hb dX9_comesTo_259 (by decide) ?_
                refine lv_iload_n hx hb dX9_comesTo_261 rfl (lv_at hl 4 rfl) ?_
                refine lv_aload_n hx hb dX9_comesTo_262 rfl (lv_at hl 2 rfl) ?_
                refine lv_iload_n hx hb dX9_comesTo_263 rfl (lv_at hl 3 rfl) ?_
                refine lv_iconst (v := 5) hx hb dX9_comesTo_264 (by decide) ?_
                obtain ⟨h_35, hok⟩ := hok
                refine gm_ci (gm_call (As := [.int a1, .int 5]) (rest := [.int a2, .int 6, .int a1, .ref μ]) (ci := 9) (q := (RX9, TX9, 15)) ⟨hx, hb, hml, hown, hts⟩ hK (c_X9_of l D cy μ X7 a1 5 h_35) (cwV 2 hts gX9_comesTo_X9_of rfl rfl rfl (by decide +kernel) ⟨Nat.le_of_ble_eq_true rfl, Nat.le_of_ble_eq_true rfl⟩) (MR.mk0 hR) rfl hR rfl hl.1 rfl (Nat.le_of_ble_eq_true rfl) dX9_comesTo_265 (Nat.zero_le _) (Nat.zero_le _)) hS (fun _ h => h.elim) (fun H locs _ _ hfr hS => ?_)
                have hR := gRep.keep hR hfr (fun _ _ h => h)
                obtain ⟨h_36, hok⟩ := hok
                refine gm_cv (gm_call (As := [.int a1, .int 6, .int a2, .int (f_X9_of X7 a1 5)]) (rest := []) (ci := 9) (q := (RX9, TX9, 15)) ⟨hx, hb, hml, hown, hts⟩ hK (c_X9_ends l D cy μ X7 a1 6 a2 (f_X9_of X7 a1 5) h_36) (cwV 4 hts gX9_comesTo_X9_ends rfl rfl rfl (by decide +kernel) ⟨Nat.le_of_ble_eq_true rfl, Nat.le_of_ble_eq_true rfl⟩) (MR.mk0 hR) rfl hR rfl hl.1 rfl (Nat.le_of_ble_eq_true rfl) dX9_comesTo_268 (Nat.zero_le _) (Nat.zero_le _)) hS (fun _ h => h) (fun H locs hR _ _ hS => ?_)
                obtain ⟨X8, eX8⟩ : ∃ Y : gM, Y = p_X9_ends X7 a1 6 a2 (f_X9_of X7 a1 5) := ⟨_, rfl⟩
                rw [← eX8] at hR
                try replace hok := hok X8 eX8
                refine lv_aload_n hx hb dX9_comesTo_271 rfl (lv_at hl 2 rfl) ?_
                refine lv_iconst (v := 4) hx hb dX9_comesTo_272 (by decide) ?_
                refine lv_iload_n hx hb dX9_comesTo_273 rfl (lv_at hl 3 rfl) ?_
                refine lv_iload_n hx hb dX9_comesTo_274 rfl (lv_at hl 1 rfl) ?_
                refine lv_iload_n hx hb dX9_comesTo_275 rfl (lv_at hl 4 rfl) ?_
                obtain ⟨h_37, hok⟩ := hok
                refine gm_cv (gm_call (As := [.int 4, .int a1, .int (a2 / 10), .int a2]) (rest := []) (ci := 9) (q := (RX9, TX9, 15)) ⟨hx, hb, hml, hown, hts⟩ hK (c_X9_logs l D cy μ X8 4 a1 (a2 / 10) a2 h_37) (cwV 4 hts gX9_comesTo_X9_logs rfl rfl rfl (by decide +kernel) ⟨Nat.le_of_ble_eq_true rfl, Nat.le_of_ble_eq_true rfl⟩) (MR.mk0 hR) rfl hR rfl hl.1 rfl (Nat.le_of_ble_eq_true rfl) dX9_comesTo_276 (Nat.zero_le _) (Nat.zero_le _)) hS (fun _ h => h) (fun H locs hR _ _ hS => ?_)
                obtain ⟨X9, eX9⟩ : ∃ Y : gM, Y = p_X9_logs X8 4 a1 (a2 / 10) a2 := ⟨_, rfl⟩
                rw [← eX9] at hR
                try replace hok := hok X9 eX9
                exact gm_vret hx hb hr hlocks hS (by (try simp only [p_X9_comesTo, ↓if_neg c_4, ↓if_pos c_5, ↓if_neg c_7, ↓if_pos c_17, ↓if_pos c_28, ↓if_pos c_30, ↓if_pos c_34, ← eX7, ← eX8, ← eX9]); exact hR) dX9_comesTo_279
          · try rw [if_neg c_28] at hok
            refine lv_aload_n hx hb dX9_comesTo_173 rfl (lv_at hl 2 rfl) ?_
            refine lv_iload_n hx hb dX9_comesTo_174 rfl (lv_at hl 3 rfl) ?_
            obtain ⟨h_38, hok⟩ := hok
            refine gm_cv (gm_call (As := [.int a1]) (rest := []) (ci := 9) (q := (RX9, TX9, 15)) ⟨hx, hb, hml, hown, hts⟩ hK (c_X9_rises l D cy μ X a1 h_38) (cwV 1 hts gX9_comesTo_X9_rises rfl rfl rfl (by decide +kernel) ⟨Nat.le_of_ble_eq_true rfl, Nat.le_of_ble_eq_true rfl⟩) (MR.mk0 hR) rfl hR rfl hl.1 rfl (Nat.le_of_ble_eq_true rfl) dX9_comesTo_175 (Nat.zero_le _) (Nat.zero_le _)) hS (fun _ h => h) (fun H locs hR _ _ hS => ?_)
            obtain ⟨X10, eX10⟩ : ∃ Y : gM, Y = p_X9_rises X a1 := ⟨_, rfl⟩
            rw [← eX10] at hR
            try replace hok := hok X10 eX10
            refine lv_aload_n hx hb dX9_comesTo_178 rfl (lv_at hl 2 rfl) ?_
            refine lv_iload_n hx hb dX9_comesTo_179 rfl (lv_at hl 3 rfl) ?_
            refine lv_bipush (v := 6) hx hb dX9_comesTo_180 (by decide) ?_
            refine lv_iconst (v := 2) hx hb dX9_comesTo_182 (by decide) ?_
            obtain ⟨h_39, hok⟩ := hok
            refine gm_cv (gm_call (As := [.int a1, .int 6, .int 2]) (rest := []) (ci := 9) (q := (RX9, TX9, 15)) ⟨hx, hb, hml, hown, hts⟩ hK (c_X9_put l D cy μ X10 a1 6 2 h_39) (cwV 3 hts gX9_comesTo_X9_put rfl rfl rfl (by decide +kernel) ⟨Nat.le_of_ble_eq_true rfl, Nat.le_of_ble_eq_true rfl⟩) (MR.mk0 hR) rfl hR rfl hl.1 rfl (Nat.le_of_ble_eq_true rfl) dX9_comesTo_183 (Nat.zero_le _) (Nat.zero_le _)) hS (fun _ h => h) (fun H locs hR _ _ hS => ?_)
            obtain ⟨X11, eX11⟩ : ∃ Y : gM, Y = p_X9_put X10 a1 6 2 := ⟨_, rfl⟩
            rw [← eX11] at hR
            try replace hok := hok X11 eX11
            refine lv_aload_n hx hb dX9_comesTo_186 rfl (lv_at hl 2 rfl) ?_
            refine lv_iload_n hx hb dX9_comesTo_187 rfl (lv_at hl 3 rfl) ?_
            refine lv_bipush (v := 7) hx hb dX9_comesTo_188 (by decide) ?_
            refine lv_iconst (v := 1) hx hb dX9_comesTo_190 (by decide) ?_
            refine lv_iload_n hx hb dX9_comesTo_191 rfl (lv_at hl 1 rfl) ?_
            refine lv_isub hx hb dX9_comesTo_192 ?_
            obtain ⟨h_40, hok⟩ := hok
            refine gm_cv (gm_call (As := [.int a1, .int 7, .int (1 - (a2 / 10))]) (rest := []) (ci := 9) (q := (RX9, TX9, 15)) ⟨hx, hb, hml, hown, hts⟩ hK (c_X9_put l D cy μ X11 a1 7 (1 - (a2 / 10)) h_40) (cwV 3 hts gX9_comesTo_X9_put rfl rfl rfl (by decide +kernel) ⟨Nat.le_of_ble_eq_true rfl, Nat.le_of_ble_eq_true rfl⟩) (MR.mk0 hR) rfl hR rfl hl.1 rfl (Nat.le_of_ble_eq_true rfl) dX9_comesTo_193 (Nat.zero_le _) (Nat.zero_le _)) hS (fun _ h => h) (fun H locs hR _ _ hS => ?_)
            obtain ⟨X12, eX12⟩ : ∃ Y : gM, Y = p_X9_put X11 a1 7 (1 - (a2 / 10)) := ⟨_, rfl⟩
            rw [← eX12] at hR
            try replace hok := hok X12 eX12
            refine lv_aload_n hx hb dX9_comesTo_196 rfl (lv_at hl 2 rfl) ?_
            refine lv_iload_n hx hb dX9_comesTo_197 rfl (lv_at hl 3 rfl) ?_
            refine lv_bipush (v := 15) hx hb dX9_comesTo_198 (by decide) ?_
            refine lv_aload_n hx hb dX9_comesTo_200 rfl (lv_at hl 2 rfl) ?_
            refine va_get (D := D) (ci := 9) (v := .ref (μ + 1)) (C := RX9) (T := TX9) (N := 15) hx hb hts inX9 hown hK.1 (MR.mk0 hR) 0 rfl rfl 0 (by decide) lk7 (fun _ h9 => h9) rfl dX9_comesTo_201 ?_
            refine lv_iconst (v := 0) hx hb dX9_comesTo_204 (by decide) ?_
            refine gm_iald hx hb hK.1 (MR.mk1 hR (c := 1) (by decide) bM_1) (vp_in_iff.mpr (by decide)) dX9_comesTo_205 ?_
            rw [show (0 : Int32).toNatClampNeg = 0 from by decide]
            obtain ⟨h_41, hok⟩ := hok
            refine gm_cv (gm_call (As := [.int a1, .int 15, .int (X12 1 0)]) (rest := []) (ci := 9) (q := (RX9, TX9, 15)) ⟨hx, hb, hml, hown, hts⟩ hK (c_X9_put l D cy μ X12 a1 15 (X12 1 0) h_41) (cwV 3 hts gX9_comesTo_X9_put rfl rfl rfl (by decide +kernel) ⟨Nat.le_of_ble_eq_true rfl, Nat.le_of_ble_eq_true rfl⟩) (MR.mk0 hR) rfl hR rfl hl.1 rfl (Nat.le_of_ble_eq_true rfl) dX9_comesTo_206 (Nat.zero_le _) (Nat.zero_le _)) hS (fun _ h => h) (fun H locs hR _ _ hS => ?_)
            obtain ⟨X13, eX13⟩ : ∃ Y : gM, Y = p_X9_put X12 a1 15 (X12 1 0) := ⟨_, rfl⟩
            rw [← eX13] at hR
            try replace hok := hok X13 eX13
            refine lv_aload_n hx hb dX9_comesTo_209 rfl (lv_at hl 2 rfl) ?_
            refine lv_iconst (v := 3) hx hb dX9_comesTo_210 (by decide) ?_
            refine lv_iload_n hx hb dX9_comesTo_211 rfl (lv_at hl 3 rfl) ?_
            refine lv_iload_n hx hb dX9_comesTo_212 rfl (lv_at hl 1 rfl) ?_
            refine lv_iload_n hx hb dX9_comesTo_213 rfl (lv_at hl 4 rfl) ?_
            obtain ⟨h_42, hok⟩ := hok
            refine gm_cv (gm_call (As := [.int 3, .int a1, .int (a2 / 10), .int a2]) (rest := []) (ci := 9) (q := (RX9, TX9, 15)) ⟨hx, hb, hml, hown, hts⟩ hK (c_X9_logs l D cy μ X13 3 a1 (a2 / 10) a2 h_42) (cwV 4 hts gX9_comesTo_X9_logs rfl rfl rfl (by decide +kernel) ⟨Nat.le_of_ble_eq_true rfl, Nat.le_of_ble_eq_true rfl⟩) (MR.mk0 hR) rfl hR rfl hl.1 rfl (Nat.le_of_ble_eq_true rfl) dX9_comesTo_214 (Nat.zero_le _) (Nat.zero_le _)) hS (fun _ h => h) (fun H locs hR _ _ hS => ?_)
            obtain ⟨X14, eX14⟩ : ∃ Y : gM, Y = p_X9_logs X13 3 a1 (a2 / 10) a2 := ⟨_, rfl⟩
            rw [← eX14] at hR
            try replace hok := hok X14 eX14
            refine lv_goto (tgt := 279) hx hb dX9_comesTo_217 (by decide) ?_
            exact gm_vret hx hb hr hlocks hS (by (try simp only [p_X9_comesTo, ↓if_neg c_4, ↓if_pos c_5, ↓if_neg c_7, ↓if_pos c_17, ↓if_neg c_28, ← eX10, ← eX11, ← eX12, ← eX13, ← eX14]); exact hR) dX9_comesTo_279
    · try rw [if_neg c_5] at hok
      refine lv_aload_n hx hb dX9_comesTo_95 rfl (lv_at hl 2 rfl) ?_
      refine lv_iload_n hx hb dX9_comesTo_96 rfl (lv_at hl 3 rfl) ?_
      refine lv_iconst (v := 4) hx hb dX9_comesTo_97 (by decide) ?_
      refine lv_iload_n hx hb dX9_comesTo_98 rfl (lv_at hl 4 rfl) ?_
      refine lv_aload_n hx hb dX9_comesTo_99 rfl (lv_at hl 2 rfl) ?_
      refine lv_iload_n hx hb dX9_comesTo_100 rfl (lv_at hl 3 rfl) ?_
      refine lv_iconst (v := 5) hx hb dX9_comesTo_101 (by decide) ?_
      obtain ⟨h_43, hok⟩ := hok
      refine gm_ci (gm_call (As := [.int a1, .int 5]) (rest := [.int a2, .int 4, .int a1, .ref μ]) (ci := 9) (q := (RX9, TX9, 15)) ⟨hx, hb, hml, hown, hts⟩ hK (c_X9_of l D cy μ X a1 5 h_43) (cwV 2 hts gX9_comesTo_X9_of rfl rfl rfl (by decide +kernel) ⟨Nat.le_of_ble_eq_true rfl, Nat.le_of_ble_eq_true rfl⟩) (MR.mk0 hR) rfl hR rfl hl.1 rfl (Nat.le_of_ble_eq_true rfl) dX9_comesTo_102 (Nat.zero_le _) (Nat.zero_le _)) hS (fun _ h => h.elim) (fun H locs _ _ hfr hS => ?_)
      have hR := gRep.keep hR hfr (fun _ _ h => h)
      obtain ⟨h_44, hok⟩ := hok
      refine gm_cv (gm_call (As := [.int a1, .int 4, .int a2, .int (f_X9_of X a1 5)]) (rest := []) (ci := 9) (q := (RX9, TX9, 15)) ⟨hx, hb, hml, hown, hts⟩ hK (c_X9_ends l D cy μ X a1 4 a2 (f_X9_of X a1 5) h_44) (cwV 4 hts gX9_comesTo_X9_ends rfl rfl rfl (by decide +kernel) ⟨Nat.le_of_ble_eq_true rfl, Nat.le_of_ble_eq_true rfl⟩) (MR.mk0 hR) rfl hR rfl hl.1 rfl (Nat.le_of_ble_eq_true rfl) dX9_comesTo_105 (Nat.zero_le _) (Nat.zero_le _)) hS (fun _ h => h) (fun H locs hR _ _ hS => ?_)
      obtain ⟨X15, eX15⟩ : ∃ Y : gM, Y = p_X9_ends X a1 4 a2 (f_X9_of X a1 5) := ⟨_, rfl⟩
      rw [← eX15] at hR
      try replace hok := hok X15 eX15
      refine lv_aload_n hx hb dX9_comesTo_108 rfl (lv_at hl 2 rfl) ?_
      refine lv_iload_n hx hb dX9_comesTo_109 rfl (lv_at hl 4 rfl) ?_
      refine lv_iload hx hb dX9_comesTo_110 (lv_at hl 0 rfl) ?_
      obtain ⟨h_45, hok⟩ := hok
      refine gm_cv (gm_call (As := [.int a2, .int (f_X9_callOf X a2 (f_X9_of X a1 0))]) (rest := []) (ci := 9) (q := (RX9, TX9, 15)) ⟨hx, hb, hml, hown, hts⟩ hK (c_X9_dropCall l D cy μ X15 a2 (f_X9_callOf X a2 (f_X9_of X a1 0)) h_45) (cwV 2 hts gX9_comesTo_X9_dropCall rfl rfl rfl (by decide +kernel) ⟨Nat.le_of_ble_eq_true rfl, Nat.le_of_ble_eq_true rfl⟩) (MR.mk0 hR) rfl hR rfl hl.1 rfl (Nat.le_of_ble_eq_true rfl) dX9_comesTo_112 (Nat.zero_le _) (Nat.zero_le _)) hS (fun _ h => h) (fun H locs hR _ _ hS => ?_)
      obtain ⟨X16, eX16⟩ : ∃ Y : gM, Y = p_X9_dropCall X15 a2 (f_X9_callOf X a2 (f_X9_of X a1 0)) := ⟨_, rfl⟩
      rw [← eX16] at hR
      try replace hok := hok X16 eX16
      refine lv_aload_n hx hb dX9_comesTo_115 rfl (lv_at hl 2 rfl) ?_
      refine va_get (D := D) (ci := 9) (v := .ref (μ + 1)) (C := RX9) (T := TX9) (N := 15) hx hb hts inX9 hown hK.1 (MR.mk0 hR) 0 rfl rfl 0 (by decide) lk7 (fun _ h9 => h9) rfl dX9_comesTo_116 ?_
      refine lv_iload_n hx hb dX9_comesTo_119 rfl (lv_at hl 4 rfl) ?_
      refine gm_ci (gm_callS (As := [.int a2]) (rest := [.ref (μ + 1)]) ⟨hx, hb, hml, hown, hts⟩ hK (c_X9_stationAt l D cy a2) (va_cwS 1 hts gX9_comesTo_X9_stationAt rfl rfl rfl (by decide +kernel) ⟨Nat.le_of_ble_eq_true rfl, Nat.le_of_ble_eq_true rfl⟩) trivial rfl hl.1 rfl (Nat.le_of_ble_eq_true rfl) dX9_comesTo_120 (Nat.zero_le _) (Nat.zero_le _)) hS (fun _ h => h.elim) (fun H locs _ _ hfr hS => ?_)
      have hR := gRep.keep hR hfr (fun _ _ h => h)
      refine lv_iconst (v := 3) hx hb dX9_comesTo_123 (by decide) ?_
      refine lv_iadd hx hb dX9_comesTo_124 ?_
      refine lv_dup2_11 hx hb dX9_comesTo_125 rfl rfl ?_
      obtain ⟨h_46, hok⟩ := hok
      refine gm_iald hx hb hK.1 (MR.mk1 hR (c := 1) (by decide) bM_1) h_46 dX9_comesTo_126 ?_
      refine lv_iconst (v := 1) hx hb dX9_comesTo_127 (by decide) ?_
      refine lv_iadd hx hb dX9_comesTo_128 ?_
      obtain ⟨h_47, hok⟩ := hok
      refine gm_iast hx hb hK.1 hR injM hS (a := 1) (by decide) rfl (fun r => bM_1) h_47 dX9_comesTo_129 (fun H locs hR hS => ?_)
      obtain ⟨X17, eX17⟩ : ∃ Y : gM, Y = updM X16 1 (((f_X9_stationAt a2) + 3).toNatClampNeg) ((X16 1 (((f_X9_stationAt a2) + 3).toNatClampNeg)) + 1) := ⟨_, rfl⟩
      rw [← eX17] at hR
      try replace hok := hok X17 eX17
      refine lv_aload_n hx hb dX9_comesTo_130 rfl (lv_at hl 2 rfl) ?_
      refine lv_iconst (v := 2) hx hb dX9_comesTo_131 (by decide) ?_
      refine lv_iload_n hx hb dX9_comesTo_132 rfl (lv_at hl 3 rfl) ?_
      refine lv_iload_n hx hb dX9_comesTo_133 rfl (lv_at hl 1 rfl) ?_
      refine lv_iload_n hx hb dX9_comesTo_134 rfl (lv_at hl 4 rfl) ?_
      obtain ⟨h_48, hok⟩ := hok
      refine gm_cv (gm_call (As := [.int 2, .int a1, .int (a2 / 10), .int a2]) (rest := []) (ci := 9) (q := (RX9, TX9, 15)) ⟨hx, hb, hml, hown, hts⟩ hK (c_X9_logs l D cy μ X17 2 a1 (a2 / 10) a2 h_48) (cwV 4 hts gX9_comesTo_X9_logs rfl rfl rfl (by decide +kernel) ⟨Nat.le_of_ble_eq_true rfl, Nat.le_of_ble_eq_true rfl⟩) (MR.mk0 hR) rfl hR rfl hl.1 rfl (Nat.le_of_ble_eq_true rfl) dX9_comesTo_135 (Nat.zero_le _) (Nat.zero_le _)) hS (fun _ h => h) (fun H locs hR _ _ hS => ?_)
      obtain ⟨X18, eX18⟩ : ∃ Y : gM, Y = p_X9_logs X17 2 a1 (a2 / 10) a2 := ⟨_, rfl⟩
      rw [← eX18] at hR
      try replace hok := hok X18 eX18
      refine lv_goto (tgt := 279) hx hb dX9_comesTo_138 (by decide) ?_
      exact gm_vret hx hb hr hlocks hS (by (try simp only [p_X9_comesTo, ↓if_neg c_4, ↓if_neg c_5, ← eX15, ← eX16, ← eX17, ← eX18]); exact hR) dX9_comesTo_279
  · try rw [if_pos c_4] at hok
    refine lv_aload_n hx hb dX9_comesTo_28 rfl (lv_at hl 2 rfl) ?_
    refine lv_iload_n hx hb dX9_comesTo_29 rfl (lv_at hl 3 rfl) ?_
    refine lv_iconst (v := 3) hx hb dX9_comesTo_30 (by decide) ?_
    refine lv_iload_n hx hb dX9_comesTo_31 rfl (lv_at hl 4 rfl) ?_
    refine lv_iconst (v := 0) hx hb dX9_comesTo_32 (by decide) ?_
    obtain ⟨h_49, hok⟩ := hok
    refine gm_cv (gm_call (As := [.int a1, .int 3, .int a2, .int 0]) (rest := []) (ci := 9) (q := (RX9, TX9, 15)) ⟨hx, hb, hml, hown, hts⟩ hK (c_X9_ends l D cy μ X a1 3 a2 0 h_49) (cwV 4 hts gX9_comesTo_X9_ends rfl rfl rfl (by decide +kernel) ⟨Nat.le_of_ble_eq_true rfl, Nat.le_of_ble_eq_true rfl⟩) (MR.mk0 hR) rfl hR rfl hl.1 rfl (Nat.le_of_ble_eq_true rfl) dX9_comesTo_33 (Nat.zero_le _) (Nat.zero_le _)) hS (fun _ h => h) (fun H locs hR _ _ hS => ?_)
    obtain ⟨X19, eX19⟩ : ∃ Y : gM, Y = p_X9_ends X a1 3 a2 0 := ⟨_, rfl⟩
    rw [← eX19] at hR
    try replace hok := hok X19 eX19
    refine lv_aload_n hx hb dX9_comesTo_36 rfl (lv_at hl 2 rfl) ?_
    refine va_get (D := D) (ci := 9) (v := .ref (μ + 1)) (C := RX9) (T := TX9) (N := 15) hx hb hts inX9 hown hK.1 (MR.mk0 hR) 0 rfl rfl 0 (by decide) lk7 (fun _ h9 => h9) rfl dX9_comesTo_37 ?_
    refine lv_bipush (v := 8) hx hb dX9_comesTo_40 (by decide) ?_
    refine lv_dup2_11 hx hb dX9_comesTo_42 rfl rfl ?_
    refine gm_iald hx hb hK.1 (MR.mk1 hR (c := 1) (by decide) bM_1) (vp_in_iff.mpr (by decide)) dX9_comesTo_43 ?_
    rw [show (8 : Int32).toNatClampNeg = 8 from by decide]
    refine lv_aload_n hx hb dX9_comesTo_44 rfl (lv_at hl 2 rfl) ?_
    refine lv_iload_n hx hb dX9_comesTo_45 rfl (lv_at hl 3 rfl) ?_
    refine lv_iconst (v := 0) hx hb dX9_comesTo_46 (by decide) ?_
    obtain ⟨h_50, hok⟩ := hok
    refine gm_ci (gm_call (As := [.int a1, .int 0]) (rest := [.int (X19 1 8), .int 8, .ref (μ + 1)]) (ci := 9) (q := (RX9, TX9, 15)) ⟨hx, hb, hml, hown, hts⟩ hK (c_X9_of l D cy μ X19 a1 0 h_50) (cwV 2 hts gX9_comesTo_X9_of rfl rfl rfl (by decide +kernel) ⟨Nat.le_of_ble_eq_true rfl, Nat.le_of_ble_eq_true rfl⟩) (MR.mk0 hR) rfl hR rfl hl.1 rfl (Nat.le_of_ble_eq_true rfl) dX9_comesTo_47 (Nat.zero_le _) (Nat.zero_le _)) hS (fun _ h => h.elim) (fun H locs _ _ hfr hS => ?_)
    have hR := gRep.keep hR hfr (fun _ _ h => h)
    refine lv_ixor hx hb dX9_comesTo_50 ?_
    refine gm_iast hx hb hK.1 hR injM hS (a := 1) (by decide) rfl (fun r => bM_1) (vp_in_iff.mpr (by decide)) dX9_comesTo_51 (fun H locs hR hS => ?_)
    rw [show (8 : Int32).toNatClampNeg = 8 from by decide] at hR
    obtain ⟨X20, eX20⟩ : ∃ Y : gM, Y = updM X19 1 8 ((X19 1 8) ^^^ (f_X9_of X19 a1 0)) := ⟨_, rfl⟩
    rw [← eX20] at hR
    try replace hok := hok X20 eX20
    refine lv_aload_n hx hb dX9_comesTo_52 rfl (lv_at hl 2 rfl) ?_
    refine va_get (D := D) (ci := 9) (v := .ref (μ + 1)) (C := RX9) (T := TX9) (N := 15) hx hb hts inX9 hown hK.1 (MR.mk0 hR) 0 rfl rfl 0 (by decide) lk7 (fun _ h9 => h9) rfl dX9_comesTo_53 ?_
    refine lv_iload_n hx hb dX9_comesTo_56 rfl (lv_at hl 4 rfl) ?_
    refine gm_ci (gm_callS (As := [.int a2]) (rest := [.ref (μ + 1)]) ⟨hx, hb, hml, hown, hts⟩ hK (c_X9_stationAt l D cy a2) (va_cwS 1 hts gX9_comesTo_X9_stationAt rfl rfl rfl (by decide +kernel) ⟨Nat.le_of_ble_eq_true rfl, Nat.le_of_ble_eq_true rfl⟩) trivial rfl hl.1 rfl (Nat.le_of_ble_eq_true rfl) dX9_comesTo_57 (Nat.zero_le _) (Nat.zero_le _)) hS (fun _ h => h.elim) (fun H locs _ _ hfr hS => ?_)
    have hR := gRep.keep hR hfr (fun _ _ h => h)
    refine lv_iconst (v := 2) hx hb dX9_comesTo_60 (by decide) ?_
    refine lv_iadd hx hb dX9_comesTo_61 ?_
    refine lv_dup2_11 hx hb dX9_comesTo_62 rfl rfl ?_
    obtain ⟨h_51, hok⟩ := hok
    refine gm_iald hx hb hK.1 (MR.mk1 hR (c := 1) (by decide) bM_1) h_51 dX9_comesTo_63 ?_
    refine lv_iconst (v := 1) hx hb dX9_comesTo_64 (by decide) ?_
    refine lv_iadd hx hb dX9_comesTo_65 ?_
    obtain ⟨h_52, hok⟩ := hok
    refine gm_iast hx hb hK.1 hR injM hS (a := 1) (by decide) rfl (fun r => bM_1) h_52 dX9_comesTo_66 (fun H locs hR hS => ?_)
    obtain ⟨X21, eX21⟩ : ∃ Y : gM, Y = updM X20 1 (((f_X9_stationAt a2) + 2).toNatClampNeg) ((X20 1 (((f_X9_stationAt a2) + 2).toNatClampNeg)) + 1) := ⟨_, rfl⟩
    rw [← eX21] at hR
    try replace hok := hok X21 eX21
    refine lv_aload_n hx hb dX9_comesTo_67 rfl (lv_at hl 2 rfl) ?_
    refine lv_dup hx hb dX9_comesTo_68 rfl ?_
    refine va_get (D := D) (ci := 9) (v := .int (X21 0 8)) (C := RX9) (T := TX9) (N := 15) hx hb hts inX9 hown hK.1 (MR.mk0 hR) 0 rfl rfl 8 (by decide) lk84 (fun _ h9 => h9) rfl dX9_comesTo_69 ?_
    refine lv_iconst (v := 1) hx hb dX9_comesTo_72 (by decide) ?_
    refine lv_iadd hx hb dX9_comesTo_73 ?_
    refine gm_put (v := .int ((X21 0 8) + 1)) (ty := .int) (ci := 9) (C := RX9) (T := TX9) (N := 15) hx hb hts inX9 tyX9 tyX9_ok nmX9 hown hK.1 hR injM hS (a := 0) (by decide) rfl bM_0 rfl 8 (by decide) lk84 (fun _ h9 => h9) rfl (by decide +kernel) rfl rfl (Nat.le_of_ble_eq_true rfl) (j := 8) (x := (X21 0 8) + 1) (by rw [bM_0]; rfl) dX9_comesTo_74 (fun H locs hR hS => ?_)
    obtain ⟨X22, eX22⟩ : ∃ Y : gM, Y = updM X21 0 8 ((X21 0 8) + 1) := ⟨_, rfl⟩
    rw [← eX22] at hR
    try replace hok := hok X22 eX22
    refine lv_aload_n hx hb dX9_comesTo_77 rfl (lv_at hl 2 rfl) ?_
    refine lv_iconst (v := 1) hx hb dX9_comesTo_78 (by decide) ?_
    refine lv_iload_n hx hb dX9_comesTo_79 rfl (lv_at hl 3 rfl) ?_
    refine lv_iload_n hx hb dX9_comesTo_80 rfl (lv_at hl 1 rfl) ?_
    refine lv_iload_n hx hb dX9_comesTo_81 rfl (lv_at hl 4 rfl) ?_
    obtain ⟨h_53, hok⟩ := hok
    refine gm_cv (gm_call (As := [.int 1, .int a1, .int (a2 / 10), .int a2]) (rest := []) (ci := 9) (q := (RX9, TX9, 15)) ⟨hx, hb, hml, hown, hts⟩ hK (c_X9_logs l D cy μ X22 1 a1 (a2 / 10) a2 h_53) (cwV 4 hts gX9_comesTo_X9_logs rfl rfl rfl (by decide +kernel) ⟨Nat.le_of_ble_eq_true rfl, Nat.le_of_ble_eq_true rfl⟩) (MR.mk0 hR) rfl hR rfl hl.1 rfl (Nat.le_of_ble_eq_true rfl) dX9_comesTo_82 (Nat.zero_le _) (Nat.zero_le _)) hS (fun _ h => h) (fun H locs hR _ _ hS => ?_)
    obtain ⟨X23, eX23⟩ : ∃ Y : gM, Y = p_X9_logs X22 1 a1 (a2 / 10) a2 := ⟨_, rfl⟩
    rw [← eX23] at hR
    try replace hok := hok X23 eX23
    refine lv_goto (tgt := 279) hx hb dX9_comesTo_85 (by decide) ?_
    exact gm_vret hx hb hr hlocks hS (by (try simp only [p_X9_comesTo, ↓if_pos c_4, ← eX19, ← eX20, ← eX21, ← eX22, ← eX23]); exact hR) dX9_comesTo_279
def p_X9_shoves (X : gM) (a1 : Int32) (a2 : Int32) (a3 : Int32) : gM :=
  let X1 := p_X9_ends X a1 5 a3 (f_X9_of X a1 5)
  let X2 := p_X9_put X1 a1 13 a2
  let X3 := updM X2 1 (((f_X9_stationAt a3) + 4).toNatClampNeg) ((X2 1 (((f_X9_stationAt a3) + 4).toNatClampNeg)) + 1)
  let X4 := p_X9_logs X3 5 a1 (a3 / 10) a3
  X4
def ok_X9_shoves (X : gM) (a1 : Int32) (a2 : Int32) (a3 : Int32) : Prop :=
  (ok_X9_of X a1 5) ∧
  (ok_X9_ends X a1 5 a3 (f_X9_of X a1 5)) ∧
  ∀ X1 : gM, X1 = p_X9_ends X a1 5 a3 (f_X9_of X a1 5) →
  (ok_X9_put X1 a1 13 a2) ∧
  ∀ X2 : gM, X2 = p_X9_put X1 a1 13 a2 →
  (vp_in ((f_X9_stationAt a3) + 4) 974) ∧
  (vp_in ((f_X9_stationAt a3) + 4) 974) ∧
  ∀ X3 : gM, X3 = updM X2 1 (((f_X9_stationAt a3) + 4).toNatClampNeg) ((X2 1 (((f_X9_stationAt a3) + 4).toNatClampNeg)) + 1) →
  (ok_X9_logs X3 5 a1 (a3 / 10) a3) ∧
  True
set_option maxHeartbeats 4000000 in
set_option maxRecDepth 100000 in
theorem c_X9_shoves (l : Launch) (D : va_G) (cy : Nat → ClassId) (μ : Nat) (X : gM) (a1 : Int32) (a2 : Int32) (a3 : Int32)  (hok : ok_X9_shoves X a1 a2 a3) : Met l yX9_shoves wsX9_shoves ({ frames := 3, cells := 0, slots := 0, locals := 68 }) (gP [.ref μ, .int a1, .int a2, .int a3] D cy (MR D cy μ X)) (gQv (MR D cy μ (p_X9_shoves X a1 a2 a3)) (MA μ)) 0 0 (MA μ) := by
  refine gm_met (cc := cX9_shoves) (maxL := 4) (ret := none) [.ref μ, .int a1, .int a2, .int a3] (by decide) rfl (Nat.le_of_ble_eq_true rfl) ?_
  intro p e s m args below meth c0 ls C hR hl
  obtain ⟨hx, hb, hr, hts, hown, hlocks, hml, hK⟩ := C
  have hl : lv_has ls 4 [(0, .ref μ), (1, .int a1), (2, .int a2), (3, .int a3)] := hl
  have hS : va_S (MA μ) s.heap s.heap [] := va_S.rf
  have lk7 := hts (.fieldLink RX9 7 "MercuryLineModel" "s" "[I") (by decide +kernel)
  have inX9 : ∀ w ∈ u_ws RX9 TX9 15, w ∈ wsX9_shoves := by decide +kernel
  unfold ok_X9_shoves at hok
  refine lv_aload_n hx hb dX9_shoves_0 rfl (lv_at hl 0 rfl) ?_
  refine lv_iload_n hx hb dX9_shoves_1 rfl (lv_at hl 1 rfl) ?_
  refine lv_iconst (v := 5) hx hb dX9_shoves_2 (by decide) ?_
  refine lv_iload_n hx hb dX9_shoves_3 rfl (lv_at hl 3 rfl) ?_
  refine lv_aload_n hx hb dX9_shoves_4 rfl (lv_at hl 0 rfl) ?_
  refine lv_iload_n hx hb dX9_shoves_5 rfl (lv_at hl 1 rfl) ?_
  refine lv_iconst (v := 5) hx hb dX9_shoves_6 (by decide) ?_
  obtain ⟨h_1, hok⟩ := hok
  refine gm_ci (gm_call (As := [.int a1, .int 5]) (rest := [.int a3, .int 5, .int a1, .ref μ]) (ci := 9) (q := (RX9, TX9, 15)) ⟨hx, hb, hml, hown, hts⟩ hK (c_X9_of l D cy μ X a1 5 h_1) (cwV 2 hts gX9_shoves_X9_of rfl rfl rfl (by decide +kernel) ⟨Nat.le_of_ble_eq_true rfl, Nat.le_of_ble_eq_true rfl⟩) (MR.mk0 hR) rfl hR rfl hl.1 rfl (Nat.le_of_ble_eq_true rfl) dX9_shoves_7 (Nat.zero_le _) (Nat.zero_le _)) hS (fun _ h => h.elim) (fun H locs _ _ hfr hS => ?_)
  have hR := gRep.keep hR hfr (fun _ _ h => h)
  obtain ⟨h_2, hok⟩ := hok
  refine gm_cv (gm_call (As := [.int a1, .int 5, .int a3, .int (f_X9_of X a1 5)]) (rest := []) (ci := 9) (q := (RX9, TX9, 15)) ⟨hx, hb, hml, hown, hts⟩ hK (c_X9_ends l D cy μ X a1 5 a3 (f_X9_of X a1 5) h_2) (cwV 4 hts gX9_shoves_X9_ends rfl rfl rfl (by decide +kernel) ⟨Nat.le_of_ble_eq_true rfl, Nat.le_of_ble_eq_true rfl⟩) (MR.mk0 hR) rfl hR rfl hl.1 rfl (Nat.le_of_ble_eq_true rfl) dX9_shoves_10 (Nat.zero_le _) (Nat.zero_le _)) hS (fun _ h => h) (fun H locs hR _ _ hS => ?_)
  obtain ⟨X1, eX1⟩ : ∃ Y : gM, Y = p_X9_ends X a1 5 a3 (f_X9_of X a1 5) := ⟨_, rfl⟩
  rw [← eX1] at hR
  try replace hok := hok X1 eX1
  refine lv_aload_n hx hb dX9_shoves_13 rfl (lv_at hl 0 rfl) ?_
  refine lv_iload_n hx hb dX9_shoves_14 rfl (lv_at hl 1 rfl) ?_
  refine lv_bipush (v := 13) hx hb dX9_shoves_15 (by decide) ?_
  refine lv_iload_n hx hb dX9_shoves_17 rfl (lv_at hl 2 rfl) ?_
  obtain ⟨h_3, hok⟩ := hok
  refine gm_cv (gm_call (As := [.int a1, .int 13, .int a2]) (rest := []) (ci := 9) (q := (RX9, TX9, 15)) ⟨hx, hb, hml, hown, hts⟩ hK (c_X9_put l D cy μ X1 a1 13 a2 h_3) (cwV 3 hts gX9_shoves_X9_put rfl rfl rfl (by decide +kernel) ⟨Nat.le_of_ble_eq_true rfl, Nat.le_of_ble_eq_true rfl⟩) (MR.mk0 hR) rfl hR rfl hl.1 rfl (Nat.le_of_ble_eq_true rfl) dX9_shoves_18 (Nat.zero_le _) (Nat.zero_le _)) hS (fun _ h => h) (fun H locs hR _ _ hS => ?_)
  obtain ⟨X2, eX2⟩ : ∃ Y : gM, Y = p_X9_put X1 a1 13 a2 := ⟨_, rfl⟩
  rw [← eX2] at hR
  try replace hok := hok X2 eX2
  refine lv_aload_n hx hb dX9_shoves_21 rfl (lv_at hl 0 rfl) ?_
  refine va_get (D := D) (ci := 9) (v := .ref (μ + 1)) (C := RX9) (T := TX9) (N := 15) hx hb hts inX9 hown hK.1 (MR.mk0 hR) 0 rfl rfl 0 (by decide) lk7 (fun _ h9 => h9) rfl dX9_shoves_22 ?_
  refine lv_iload_n hx hb dX9_shoves_25 rfl (lv_at hl 3 rfl) ?_
  refine gm_ci (gm_callS (As := [.int a3]) (rest := [.ref (μ + 1)]) ⟨hx, hb, hml, hown, hts⟩ hK (c_X9_stationAt l D cy a3) (va_cwS 1 hts gX9_shoves_X9_stationAt rfl rfl rfl (by decide +kernel) ⟨Nat.le_of_ble_eq_true rfl, Nat.le_of_ble_eq_true rfl⟩) trivial rfl hl.1 rfl (Nat.le_of_ble_eq_true rfl) dX9_shoves_26 (Nat.zero_le _) (Nat.zero_le _)) hS (fun _ h => h.elim) (fun H locs _ _ hfr hS => ?_)
  have hR := gRep.keep hR hfr (fun _ _ h => h)
  refine lv_iconst (v := 4) hx hb dX9_shoves_29 (by decide) ?_
  refine lv_iadd hx hb dX9_shoves_30 ?_
  refine lv_dup2_11 hx hb dX9_shoves_31 rfl rfl ?_
  obtain ⟨h_4, hok⟩ := hok
  refine gm_iald hx hb hK.1 (MR.mk1 hR (c := 1) (by decide) bM_1) h_4 dX9_shoves_32 ?_
  refine lv_iconst (v := 1) hx hb dX9_shoves_33 (by decide) ?_
  refine lv_iadd hx hb dX9_shoves_34 ?_
  obtain ⟨h_5, hok⟩ := hok
  refine gm_iast hx hb hK.1 hR injM hS (a := 1) (by decide) rfl (fun r => bM_1) h_5 dX9_shoves_35 (fun H locs hR hS => ?_)
  obtain ⟨X3, eX3⟩ : ∃ Y : gM, Y = updM X2 1 (((f_X9_stationAt a3) + 4).toNatClampNeg) ((X2 1 (((f_X9_stationAt a3) + 4).toNatClampNeg)) + 1) := ⟨_, rfl⟩
  rw [← eX3] at hR
  try replace hok := hok X3 eX3
  refine lv_aload_n hx hb dX9_shoves_36 rfl (lv_at hl 0 rfl) ?_
  refine lv_iconst (v := 5) hx hb dX9_shoves_37 (by decide) ?_
  refine lv_iload_n hx hb dX9_shoves_38 rfl (lv_at hl 1 rfl) ?_
  refine lv_iload_n hx hb dX9_shoves_39 rfl (lv_at hl 3 rfl) ?_
  refine lv_bipush (v := 10) hx hb dX9_shoves_40 (by decide) ?_
  refine lv_idiv hx hb dX9_shoves_42 (by decide) ?_
  refine lv_iload_n hx hb dX9_shoves_43 rfl (lv_at hl 3 rfl) ?_
  obtain ⟨h_6, hok⟩ := hok
  refine gm_cv (gm_call (As := [.int 5, .int a1, .int (a3 / 10), .int a3]) (rest := []) (ci := 9) (q := (RX9, TX9, 15)) ⟨hx, hb, hml, hown, hts⟩ hK (c_X9_logs l D cy μ X3 5 a1 (a3 / 10) a3 h_6) (cwV 4 hts gX9_shoves_X9_logs rfl rfl rfl (by decide +kernel) ⟨Nat.le_of_ble_eq_true rfl, Nat.le_of_ble_eq_true rfl⟩) (MR.mk0 hR) rfl hR rfl hl.1 rfl (Nat.le_of_ble_eq_true rfl) dX9_shoves_44 (Nat.zero_le _) (Nat.zero_le _)) hS (fun _ h => h) (fun H locs hR _ _ hS => ?_)
  obtain ⟨X4, eX4⟩ : ∃ Y : gM, Y = p_X9_logs X3 5 a1 (a3 / 10) a3 := ⟨_, rfl⟩
  rw [← eX4] at hR
  try replace hok := hok X4 eX4
  exact gm_vret hx hb hr hlocks hS (by (try simp only [p_X9_shoves, ← eX1, ← eX2, ← eX3, ← eX4]); exact hR) dX9_shoves_47
def p_X9_goStation (X : gM) (a1 : Int32) : gM :=
  if f_X9_seat X (a1 / 10) (f_X9_slotAt X a1) = (-5) then
    if f_X9_nextAt X a1 = (-5) then
      X
    else
      let X1 := p_X9_boards X (f_X9_nextAt X a1) a1 (f_X9_slotAt X a1)
      X1
  else
    let X2 := p_X9_comesTo X (f_X9_seat X (a1 / 10) (f_X9_slotAt X a1)) a1
    if f_X9_nextAt X2 a1 = (-5) then
      X2
    else
      if f_X9_seat X2 (a1 / 10) (f_X9_slotAt X a1) = (-5) then
        let X5 := p_X9_boards X2 (f_X9_nextAt X2 a1) a1 (f_X9_slotAt X a1)
        X5
      else
        if f_X9_of X2 (f_X9_nextAt X2 a1) 1 ≤ f_X9_of X2 (f_X9_seat X2 (a1 / 10) (f_X9_slotAt X a1)) 1 then
          X2
        else
          if (X2 1 0) - (f_X9_of X2 (f_X9_nextAt X2 a1) 15) < X2 1 7 then
            X2
          else
            let X3 := p_X9_shoves X2 (f_X9_seat X2 (a1 / 10) (f_X9_slotAt X a1)) (f_X9_nextAt X2 a1) a1
            let X4 := p_X9_boards X3 (f_X9_nextAt X2 a1) a1 (f_X9_slotAt X a1)
            X4
def ok_X9_goStation (X : gM) (a1 : Int32) : Prop :=
  (ok_X9_slotAt X a1) ∧
  (ok_X9_seat X (a1 / 10) (f_X9_slotAt X a1)) ∧
  (if f_X9_seat X (a1 / 10) (f_X9_slotAt X a1) = (-5) then
    (ok_X9_nextAt X a1) ∧
    (if f_X9_nextAt X a1 = (-5) then
      True
    else
      (ok_X9_seat X (a1 / 10) (f_X9_slotAt X a1)) ∧
      (ok_X9_boards X (f_X9_nextAt X a1) a1 (f_X9_slotAt X a1)) ∧
      True)
  else
    (ok_X9_seat X (a1 / 10) (f_X9_slotAt X a1)) ∧
    (ok_X9_comesTo X (f_X9_seat X (a1 / 10) (f_X9_slotAt X a1)) a1) ∧
    ∀ X2 : gM, X2 = p_X9_comesTo X (f_X9_seat X (a1 / 10) (f_X9_slotAt X a1)) a1 →
    (ok_X9_nextAt X2 a1) ∧
    (if f_X9_nextAt X2 a1 = (-5) then
      True
    else
      (ok_X9_seat X2 (a1 / 10) (f_X9_slotAt X a1)) ∧
      (if f_X9_seat X2 (a1 / 10) (f_X9_slotAt X a1) = (-5) then
        (ok_X9_boards X2 (f_X9_nextAt X2 a1) a1 (f_X9_slotAt X a1)) ∧
        True
      else
        (ok_X9_of X2 (f_X9_nextAt X2 a1) 1) ∧
        (ok_X9_of X2 (f_X9_seat X2 (a1 / 10) (f_X9_slotAt X a1)) 1) ∧
        (if f_X9_of X2 (f_X9_nextAt X2 a1) 1 ≤ f_X9_of X2 (f_X9_seat X2 (a1 / 10) (f_X9_slotAt X a1)) 1 then
          True
        else
          (ok_X9_of X2 (f_X9_nextAt X2 a1) 15) ∧
          (if (X2 1 0) - (f_X9_of X2 (f_X9_nextAt X2 a1) 15) < X2 1 7 then
            True
          else
            (ok_X9_shoves X2 (f_X9_seat X2 (a1 / 10) (f_X9_slotAt X a1)) (f_X9_nextAt X2 a1) a1) ∧
            ∀ X3 : gM, X3 = p_X9_shoves X2 (f_X9_seat X2 (a1 / 10) (f_X9_slotAt X a1)) (f_X9_nextAt X2 a1) a1 →
            (ok_X9_boards X3 (f_X9_nextAt X2 a1) a1 (f_X9_slotAt X a1)) ∧
            True)))))
set_option maxHeartbeats 4000000 in
set_option maxRecDepth 100000 in
theorem c_X9_goStation (l : Launch) (D : va_G) (cy : Nat → ClassId) (μ : Nat) (X : gM) (a1 : Int32)  (hok : ok_X9_goStation X a1) : Met l yX9_goStation wsX9_goStation ({ frames := 4, cells := 0, slots := 0, locals := 92 }) (gP [.ref μ, .int a1] D cy (MR D cy μ X)) (gQv (MR D cy μ (p_X9_goStation X a1)) (MA μ)) 0 0 (MA μ) := by
  refine gm_met (cc := cX9_goStation) (maxL := 6) (ret := none) [.ref μ, .int a1] (by decide) rfl (Nat.le_of_ble_eq_true rfl) ?_
  intro p e s m args below meth c0 ls C hR hl
  obtain ⟨hx, hb, hr, hts, hown, hlocks, hml, hK⟩ := C
  have hl : lv_has ls 6 [(0, .ref μ), (1, .int a1)] := hl
  have hS : va_S (MA μ) s.heap s.heap [] := va_S.rf
  have lk7 := hts (.fieldLink RX9 7 "MercuryLineModel" "s" "[I") (by decide +kernel)
  have inX9 : ∀ w ∈ u_ws RX9 TX9 15, w ∈ wsX9_goStation := by decide +kernel
  unfold ok_X9_goStation at hok
  refine lv_iload_n hx hb dX9_goStation_0 rfl (lv_at hl 1 rfl) ?_
  refine lv_bipush (v := 10) hx hb dX9_goStation_1 (by decide) ?_
  refine lv_idiv hx hb dX9_goStation_3 (by decide) ?_
  refine lv_istore_n (lv' := [(2, .int (a1 / 10)), (0, .ref μ), (1, .int a1)]) hx hb dX9_goStation_4 rfl hl (by decide) rfl (fun ls hl => ?_)
  refine lv_aload_n hx hb dX9_goStation_5 rfl (lv_at hl 1 rfl) ?_
  refine lv_iload_n hx hb dX9_goStation_6 rfl (lv_at hl 2 rfl) ?_
  obtain ⟨h_1, hok⟩ := hok
  refine gm_ci (gm_call (As := [.int a1]) (rest := []) (ci := 9) (q := (RX9, TX9, 15)) ⟨hx, hb, hml, hown, hts⟩ hK (c_X9_slotAt l D cy μ X a1 h_1) (cwV 1 hts gX9_goStation_X9_slotAt rfl rfl rfl (by decide +kernel) ⟨Nat.le_of_ble_eq_true rfl, Nat.le_of_ble_eq_true rfl⟩) (MR.mk0 hR) rfl hR rfl hl.1 rfl (Nat.le_of_ble_eq_true rfl) dX9_goStation_7 (Nat.zero_le _) (Nat.zero_le _)) hS (fun _ h => h.elim) (fun H locs _ _ hfr hS => ?_)
  have hR := gRep.keep hR hfr (fun _ _ h => h)
  refine lv_istore_n (lv' := [(3, .int (f_X9_slotAt X a1)), (2, .int (a1 / 10)), (0, .ref μ), (1, .int a1)]) hx hb dX9_goStation_10 rfl hl (by decide) rfl (fun ls hl => ?_)
  refine lv_aload_n hx hb dX9_goStation_11 rfl (lv_at hl 2 rfl) ?_
  refine lv_iload_n hx hb dX9_goStation_12 rfl (lv_at hl 1 rfl) ?_
  refine lv_iload_n hx hb dX9_goStation_13 rfl (lv_at hl 0 rfl) ?_
  obtain ⟨h_2, hok⟩ := hok
  refine gm_ci (gm_call (As := [.int (a1 / 10), .int (f_X9_slotAt X a1)]) (rest := []) (ci := 9) (q := (RX9, TX9, 15)) ⟨hx, hb, hml, hown, hts⟩ hK (c_X9_seat l D cy μ X (a1 / 10) (f_X9_slotAt X a1) h_2) (cwV 2 hts gX9_goStation_X9_seat rfl rfl rfl (by decide +kernel) ⟨Nat.le_of_ble_eq_true rfl, Nat.le_of_ble_eq_true rfl⟩) (MR.mk0 hR) rfl hR rfl hl.1 rfl (Nat.le_of_ble_eq_true rfl) dX9_goStation_14 (Nat.zero_le _) (Nat.zero_le _)) hS (fun _ h => h.elim) (fun H locs _ _ hfr hS => ?_)
  have hR := gRep.keep hR hfr (fun _ _ h => h)
  refine lv_bipush (v := (-5)) hx hb dX9_goStation_17 (by decide) ?_
  refine lv_icmp_eq (tgt := 33) hx hb dX9_goStation_19 (by decide) (fun c_3 => ?_) (fun c_3 => ?_)
  · try rw [if_pos c_3] at hok
    refine lv_aload_n hx hb dX9_goStation_33 rfl (lv_at hl 2 rfl) ?_
    refine lv_iload_n hx hb dX9_goStation_34 rfl (lv_at hl 3 rfl) ?_
    obtain ⟨h_4, hok⟩ := hok
    refine gm_ci (gm_call (As := [.int a1]) (rest := []) (ci := 9) (q := (RX9, TX9, 15)) ⟨hx, hb, hml, hown, hts⟩ hK (c_X9_nextAt l D cy μ X a1 h_4) (cwV 1 hts gX9_goStation_X9_nextAt rfl rfl rfl (by decide +kernel) ⟨Nat.le_of_ble_eq_true rfl, Nat.le_of_ble_eq_true rfl⟩) (MR.mk0 hR) rfl hR rfl hl.1 rfl (Nat.le_of_ble_eq_true rfl) dX9_goStation_35 (Nat.zero_le _) (Nat.zero_le _)) hS (fun _ h => h.elim) (fun H locs _ _ hfr hS => ?_)
    have hR := gRep.keep hR hfr (fun _ _ h => h)
    refine lv_istore (lv' := [(4, .int (f_X9_nextAt X a1)), (3, .int (f_X9_slotAt X a1)), (2, .int (a1 / 10)), (0, .ref μ), (1, .int a1)]) hx hb dX9_goStation_38 hl (by decide) rfl (fun ls hl => ?_)
    refine lv_iload hx hb dX9_goStation_40 (lv_at hl 0 rfl) ?_
    refine lv_bipush (v := (-5)) hx hb dX9_goStation_42 (by decide) ?_
    refine lv_icmp_ne (tgt := 48) hx hb dX9_goStation_44 (by decide) (fun c_5 => ?_) (fun c_5 => ?_)
    · try rw [if_neg c_5] at hok
      refine lv_aload_n hx hb dX9_goStation_48 rfl (lv_at hl 3 rfl) ?_
      refine lv_iload_n hx hb dX9_goStation_49 rfl (lv_at hl 2 rfl) ?_
      refine lv_iload_n hx hb dX9_goStation_50 rfl (lv_at hl 1 rfl) ?_
      obtain ⟨h_6, hok⟩ := hok
      refine gm_ci (gm_call (As := [.int (a1 / 10), .int (f_X9_slotAt X a1)]) (rest := []) (ci := 9) (q := (RX9, TX9, 15)) ⟨hx, hb, hml, hown, hts⟩ hK (c_X9_seat l D cy μ X (a1 / 10) (f_X9_slotAt X a1) h_6) (cwV 2 hts gX9_goStation_X9_seat rfl rfl rfl (by decide +kernel) ⟨Nat.le_of_ble_eq_true rfl, Nat.le_of_ble_eq_true rfl⟩) (MR.mk0 hR) rfl hR rfl hl.1 rfl (Nat.le_of_ble_eq_true rfl) dX9_goStation_51 (Nat.zero_le _) (Nat.zero_le _)) hS (fun _ h => h.elim) (fun H locs _ _ hfr hS => ?_)
      have hR := gRep.keep hR hfr (fun _ _ h => h)
      refine lv_istore (lv' := [(5, .int (f_X9_seat X (a1 / 10) (f_X9_slotAt X a1))), (4, .int (f_X9_nextAt X a1)), (3, .int (f_X9_slotAt X a1)), (2, .int (a1 / 10)), (0, .ref μ), (1, .int a1)]) hx hb dX9_goStation_54 hl (by decide) rfl (fun ls hl => ?_)
      refine lv_iload hx hb dX9_goStation_56 (lv_at hl 0 rfl) ?_
      refine lv_bipush (v := (-5)) hx hb dX9_goStation_58 (by decide) ?_
      refine lv_icmp_ne (tgt := 74) hx hb dX9_goStation_60 (by decide) (fun c_7 => ?_) (fun c_7 => ?_)
      · exact absurd c_3 c_7
      · refine lv_aload_n hx hb dX9_goStation_63 rfl (lv_at hl 4 rfl) ?_
        refine lv_iload hx hb dX9_goStation_64 (lv_at hl 1 rfl) ?_
        refine lv_iload_n hx hb dX9_goStation_66 rfl (lv_at hl 5 rfl) ?_
        refine lv_iload_n hx hb dX9_goStation_67 rfl (lv_at hl 2 rfl) ?_
        obtain ⟨h_8, hok⟩ := hok
        refine gm_cv (gm_call (As := [.int (f_X9_nextAt X a1), .int a1, .int (f_X9_slotAt X a1)]) (rest := []) (ci := 9) (q := (RX9, TX9, 15)) ⟨hx, hb, hml, hown, hts⟩ hK (c_X9_boards l D cy μ X (f_X9_nextAt X a1) a1 (f_X9_slotAt X a1) h_8) (cwV 3 hts gX9_goStation_X9_boards rfl rfl rfl (by decide +kernel) ⟨Nat.le_of_ble_eq_true rfl, Nat.le_of_ble_eq_true rfl⟩) (MR.mk0 hR) rfl hR rfl hl.1 rfl (Nat.le_of_ble_eq_true rfl) dX9_goStation_68 (Nat.zero_le _) (Nat.zero_le _)) hS (fun _ h => h) (fun H locs hR _ _ hS => ?_)
        obtain ⟨X1, eX1⟩ : ∃ Y : gM, Y = p_X9_boards X (f_X9_nextAt X a1) a1 (f_X9_slotAt X a1) := ⟨_, rfl⟩
        rw [← eX1] at hR
        try replace hok := hok X1 eX1
        refine lv_goto (tgt := 133) hx hb dX9_goStation_71 (by decide) ?_
        exact gm_vret hx hb hr hlocks hS (by (try simp only [p_X9_goStation, ↓if_pos c_3, ↓if_neg c_5, ← eX1]); exact hR) dX9_goStation_133
    · try rw [if_pos c_5] at hok
      exact gm_vret hx hb hr hlocks hS (by (try simp only [p_X9_goStation, ↓if_pos c_3, ↓if_pos c_5]); exact hR) dX9_goStation_47
  · try rw [if_neg c_3] at hok
    refine lv_aload_n hx hb dX9_goStation_22 rfl (lv_at hl 2 rfl) ?_
    refine lv_aload_n hx hb dX9_goStation_23 rfl (lv_at hl 2 rfl) ?_
    refine lv_iload_n hx hb dX9_goStation_24 rfl (lv_at hl 1 rfl) ?_
    refine lv_iload_n hx hb dX9_goStation_25 rfl (lv_at hl 0 rfl) ?_
    obtain ⟨h_9, hok⟩ := hok
    refine gm_ci (gm_call (As := [.int (a1 / 10), .int (f_X9_slotAt X a1)]) (rest := [.ref μ]) (ci := 9) (q := (RX9, TX9, 15)) ⟨hx, hb, hml, hown, hts⟩ hK (c_X9_seat l D cy μ X (a1 / 10) (f_X9_slotAt X a1) h_9) (cwV 2 hts gX9_goStation_X9_seat rfl rfl rfl (by decide +kernel) ⟨Nat.le_of_ble_eq_true rfl, Nat.le_of_ble_eq_true rfl⟩) (MR.mk0 hR) rfl hR rfl hl.1 rfl (Nat.le_of_ble_eq_true rfl) dX9_goStation_26 (Nat.zero_le _) (Nat.zero_le _)) hS (fun _ h => h.elim) (fun H locs _ _ hfr hS => ?_)
    have hR := gRep.keep hR hfr (fun _ _ h => h)
    refine lv_iload_n hx hb dX9_goStation_29 rfl (lv_at hl 3 rfl) ?_
    obtain ⟨h_10, hok⟩ := hok
    refine gm_cv (gm_call (As := [.int (f_X9_seat X (a1 / 10) (f_X9_slotAt X a1)), .int a1]) (rest := []) (ci := 9) (q := (RX9, TX9, 15)) ⟨hx, hb, hml, hown, hts⟩ hK (c_X9_comesTo l D cy μ X (f_X9_seat X (a1 / 10) (f_X9_slotAt X a1)) a1 h_10) (cwV 2 hts gX9_goStation_X9_comesTo rfl rfl rfl (by decide +kernel) ⟨Nat.le_of_ble_eq_true rfl, Nat.le_of_ble_eq_true rfl⟩) (MR.mk0 hR) rfl hR rfl hl.1 rfl (Nat.le_of_ble_eq_true rfl) dX9_goStation_30 (Nat.zero_le _) (Nat.zero_le _)) hS (fun _ h => h) (fun H locs hR _ _ hS => ?_)
    obtain ⟨X2, eX2⟩ : ∃ Y : gM, Y = p_X9_comesTo X (f_X9_seat X (a1 / 10) (f_X9_slotAt X a1)) a1 := ⟨_, rfl⟩
    rw [← eX2] at hR
    try replace hok := hok X2 eX2
    refine lv_aload_n hx hb dX9_goStation_33 rfl (lv_at hl 2 rfl) ?_
    refine lv_iload_n hx hb dX9_goStation_34 rfl (lv_at hl 3 rfl) ?_
    obtain ⟨h_11, hok⟩ := hok
    refine gm_ci (gm_call (As := [.int a1]) (rest := []) (ci := 9) (q := (RX9, TX9, 15)) ⟨hx, hb, hml, hown, hts⟩ hK (c_X9_nextAt l D cy μ X2 a1 h_11) (cwV 1 hts gX9_goStation_X9_nextAt rfl rfl rfl (by decide +kernel) ⟨Nat.le_of_ble_eq_true rfl, Nat.le_of_ble_eq_true rfl⟩) (MR.mk0 hR) rfl hR rfl hl.1 rfl (Nat.le_of_ble_eq_true rfl) dX9_goStation_35 (Nat.zero_le _) (Nat.zero_le _)) hS (fun _ h => h.elim) (fun H locs _ _ hfr hS => ?_)
    have hR := gRep.keep hR hfr (fun _ _ h => h)
    refine lv_istore (lv' := [(4, .int (f_X9_nextAt X2 a1)), (3, .int (f_X9_slotAt X a1)), (2, .int (a1 / 10)), (0, .ref μ), (1, .int a1)]) hx hb dX9_goStation_38 hl (by decide) rfl (fun ls hl => ?_)
    refine lv_iload hx hb dX9_goStation_40 (lv_at hl 0 rfl) ?_
    refine lv_bipush (v := (-5)) hx hb dX9_goStation_42 (by decide) ?_
    refine lv_icmp_ne (tgt := 48) hx hb dX9_goStation_44 (by decide) (fun c_12 => ?_) (fun c_12 => ?_)
    · try rw [if_neg c_12] at hok
      refine lv_aload_n hx hb dX9_goStation_48 rfl (lv_at hl 3 rfl) ?_
      refine lv_iload_n hx hb dX9_goStation_49 rfl (lv_at hl 2 rfl) ?_
      refine lv_iload_n hx hb dX9_goStation_50 rfl (lv_at hl 1 rfl) ?_
      obtain ⟨h_13, hok⟩ := hok
      refine gm_ci (gm_call (As := [.int (a1 / 10), .int (f_X9_slotAt X a1)]) (rest := []) (ci := 9) (q := (RX9, TX9, 15)) ⟨hx, hb, hml, hown, hts⟩ hK (c_X9_seat l D cy μ X2 (a1 / 10) (f_X9_slotAt X a1) h_13) (cwV 2 hts gX9_goStation_X9_seat rfl rfl rfl (by decide +kernel) ⟨Nat.le_of_ble_eq_true rfl, Nat.le_of_ble_eq_true rfl⟩) (MR.mk0 hR) rfl hR rfl hl.1 rfl (Nat.le_of_ble_eq_true rfl) dX9_goStation_51 (Nat.zero_le _) (Nat.zero_le _)) hS (fun _ h => h.elim) (fun H locs _ _ hfr hS => ?_)
      have hR := gRep.keep hR hfr (fun _ _ h => h)
      refine lv_istore (lv' := [(5, .int (f_X9_seat X2 (a1 / 10) (f_X9_slotAt X a1))), (4, .int (f_X9_nextAt X2 a1)), (3, .int (f_X9_slotAt X a1)), (2, .int (a1 / 10)), (0, .ref μ), (1, .int a1)]) hx hb dX9_goStation_54 hl (by decide) rfl (fun ls hl => ?_)
      refine lv_iload hx hb dX9_goStation_56 (lv_at hl 0 rfl) ?_
      refine lv_bipush (v := (-5)) hx hb dX9_goStation_58 (by decide) ?_
      refine lv_icmp_ne (tgt := 74) hx hb dX9_goStation_60 (by decide) (fun c_14 => ?_) (fun c_14 => ?_)
      · try rw [if_neg c_14] at hok
        refine lv_aload_n hx hb dX9_goStation_74 rfl (lv_at hl 4 rfl) ?_
        refine lv_iload hx hb dX9_goStation_75 (lv_at hl 1 rfl) ?_
        refine lv_iconst (v := 1) hx hb dX9_goStation_77 (by decide) ?_
        obtain ⟨h_15, hok⟩ := hok
        refine gm_ci (gm_call (As := [.int (f_X9_nextAt X2 a1), .int 1]) (rest := []) (ci := 9) (q := (RX9, TX9, 15)) ⟨hx, hb, hml, hown, hts⟩ hK (c_X9_of l D cy μ X2 (f_X9_nextAt X2 a1) 1 h_15) (cwV 2 hts gX9_goStation_X9_of rfl rfl rfl (by decide +kernel) ⟨Nat.le_of_ble_eq_true rfl, Nat.le_of_ble_eq_true rfl⟩) (MR.mk0 hR) rfl hR rfl hl.1 rfl (Nat.le_of_ble_eq_true rfl) dX9_goStation_78 (Nat.zero_le _) (Nat.zero_le _)) hS (fun _ h => h.elim) (fun H locs _ _ hfr hS => ?_)
        have hR := gRep.keep hR hfr (fun _ _ h => h)
        refine lv_aload_n hx hb dX9_goStation_81 rfl (lv_at hl 4 rfl) ?_
        refine lv_iload hx hb dX9_goStation_82 (lv_at hl 0 rfl) ?_
        refine lv_iconst (v := 1) hx hb dX9_goStation_84 (by decide) ?_
        obtain ⟨h_16, hok⟩ := hok
        refine gm_ci (gm_call (As := [.int (f_X9_seat X2 (a1 / 10) (f_X9_slotAt X a1)), .int 1]) (rest := [.int (f_X9_of X2 (f_X9_nextAt X2 a1) 1)]) (ci := 9) (q := (RX9, TX9, 15)) ⟨hx, hb, hml, hown, hts⟩ hK (c_X9_of l D cy μ X2 (f_X9_seat X2 (a1 / 10) (f_X9_slotAt X a1)) 1 h_16) (cwV 2 hts gX9_goStation_X9_of rfl rfl rfl (by decide +kernel) ⟨Nat.le_of_ble_eq_true rfl, Nat.le_of_ble_eq_true rfl⟩) (MR.mk0 hR) rfl hR rfl hl.1 rfl (Nat.le_of_ble_eq_true rfl) dX9_goStation_85 (Nat.zero_le _) (Nat.zero_le _)) hS (fun _ h => h.elim) (fun H locs _ _ hfr hS => ?_)
        have hR := gRep.keep hR hfr (fun _ _ h => h)
        refine lv_icmp_le (tgt := 133) hx hb dX9_goStation_88 (by decide) (fun c_17 => ?_) (fun c_17 => ?_)
        · try rw [if_pos c_17] at hok
          exact gm_vret hx hb hr hlocks hS (by (try simp only [p_X9_goStation, ↓if_neg c_3, ↓if_neg c_12, ↓if_neg c_14, ↓if_pos c_17, ← eX2]); exact hR) dX9_goStation_133
        · try rw [if_neg c_17] at hok
          refine lv_aload_n hx hb dX9_goStation_91 rfl (lv_at hl 4 rfl) ?_
          refine va_get (D := D) (ci := 9) (v := .ref (μ + 1)) (C := RX9) (T := TX9) (N := 15) hx hb hts inX9 hown hK.1 (MR.mk0 hR) 0 rfl rfl 0 (by decide) lk7 (fun _ h9 => h9) rfl dX9_goStation_92 ?_
          refine lv_iconst (v := 0) hx hb dX9_goStation_95 (by decide) ?_
          refine gm_iald hx hb hK.1 (MR.mk1 hR (c := 1) (by decide) bM_1) (vp_in_iff.mpr (by decide)) dX9_goStation_96 ?_
          rw [show (0 : Int32).toNatClampNeg = 0 from by decide]
          refine lv_aload_n hx hb dX9_goStation_97 rfl (lv_at hl 4 rfl) ?_
          refine lv_iload hx hb dX9_goStation_98 (lv_at hl 1 rfl) ?_
          refine lv_bipush (v := 15) hx hb dX9_goStation_100 (by decide) ?_
          obtain ⟨h_18, hok⟩ := hok
          refine gm_ci (gm_call (As := [.int (f_X9_nextAt X2 a1), .int 15]) (rest := [.int (X2 1 0)]) (ci := 9) (q := (RX9, TX9, 15)) ⟨hx, hb, hml, hown, hts⟩ hK (c_X9_of l D cy μ X2 (f_X9_nextAt X2 a1) 15 h_18) (cwV 2 hts gX9_goStation_X9_of rfl rfl rfl (by decide +kernel) ⟨Nat.le_of_ble_eq_true rfl, Nat.le_of_ble_eq_true rfl⟩) (MR.mk0 hR) rfl hR rfl hl.1 rfl (Nat.le_of_ble_eq_true rfl) dX9_goStation_102 (Nat.zero_le _) (Nat.zero_le _)) hS (fun _ h => h.elim) (fun H locs _ _ hfr hS => ?_)
          have hR := gRep.keep hR hfr (fun _ _ h => h)
          refine lv_isub hx hb dX9_goStation_105 ?_
          refine lv_aload_n hx hb dX9_goStation_106 rfl (lv_at hl 4 rfl) ?_
          refine va_get (D := D) (ci := 9) (v := .ref (μ + 1)) (C := RX9) (T := TX9) (N := 15) hx hb hts inX9 hown hK.1 (MR.mk0 hR) 0 rfl rfl 0 (by decide) lk7 (fun _ h9 => h9) rfl dX9_goStation_107 ?_
          refine lv_bipush (v := 7) hx hb dX9_goStation_110 (by decide) ?_
          refine gm_iald hx hb hK.1 (MR.mk1 hR (c := 1) (by decide) bM_1) (vp_in_iff.mpr (by decide)) dX9_goStation_112 ?_
          rw [show (7 : Int32).toNatClampNeg = 7 from by decide]
          refine lv_icmp_lt (tgt := 133) hx hb dX9_goStation_113 (by decide) (fun c_19 => ?_) (fun c_19 => ?_)
          · try rw [if_pos c_19] at hok
            exact gm_vret hx hb hr hlocks hS (by (try simp only [p_X9_goStation, ↓if_neg c_3, ↓if_neg c_12, ↓if_neg c_14, ↓if_neg c_17, ↓if_pos c_19, ← eX2]); exact hR) dX9_goStation_133
          · try rw [if_neg c_19] at hok
            refine lv_aload_n hx hb dX9_goStation_116 rfl (lv_at hl 4 rfl) ?_
            refine lv_iload hx hb dX9_goStation_117 (lv_at hl 0 rfl) ?_
            refine lv_iload hx hb dX9_goStation_119 (lv_at hl 1 rfl) ?_
            refine lv_iload_n hx hb dX9_goStation_121 rfl (lv_at hl 5 rfl) ?_
            obtain ⟨h_20, hok⟩ := hok
            refine gm_cv (gm_call (As := [.int (f_X9_seat X2 (a1 / 10) (f_X9_slotAt X a1)), .int (f_X9_nextAt X2 a1), .int a1]) (rest := []) (ci := 9) (q := (RX9, TX9, 15)) ⟨hx, hb, hml, hown, hts⟩ hK (c_X9_shoves l D cy μ X2 (f_X9_seat X2 (a1 / 10) (f_X9_slotAt X a1)) (f_X9_nextAt X2 a1) a1 h_20) (cwV 3 hts gX9_goStation_X9_shoves rfl rfl rfl (by decide +kernel) ⟨Nat.le_of_ble_eq_true rfl, Nat.le_of_ble_eq_true rfl⟩) (MR.mk0 hR) rfl hR rfl hl.1 rfl (Nat.le_of_ble_eq_true rfl) dX9_goStation_122 (Nat.zero_le _) (Nat.zero_le _)) hS (fun _ h => h) (fun H locs hR _ _ hS => ?_)
            obtain ⟨X3, eX3⟩ : ∃ Y : gM, Y = p_X9_shoves X2 (f_X9_seat X2 (a1 / 10) (f_X9_slotAt X a1)) (f_X9_nextAt X2 a1) a1 := ⟨_, rfl⟩
            rw [← eX3] at hR
            try replace hok := hok X3 eX3
            refine lv_aload_n hx hb dX9_goStation_125 rfl (lv_at hl 4 rfl) ?_
            refine lv_iload hx hb dX9_goStation_126 (lv_at hl 1 rfl) ?_
            refine lv_iload_n hx hb dX9_goStation_128 rfl (lv_at hl 5 rfl) ?_
            refine lv_iload_n hx hb dX9_goStation_129 rfl (lv_at hl 2 rfl) ?_
            obtain ⟨h_21, hok⟩ := hok
            refine gm_cv (gm_call (As := [.int (f_X9_nextAt X2 a1), .int a1, .int (f_X9_slotAt X a1)]) (rest := []) (ci := 9) (q := (RX9, TX9, 15)) ⟨hx, hb, hml, hown, hts⟩ hK (c_X9_boards l D cy μ X3 (f_X9_nextAt X2 a1) a1 (f_X9_slotAt X a1) h_21) (cwV 3 hts gX9_goStation_X9_boards rfl rfl rfl (by decide +kernel) ⟨Nat.le_of_ble_eq_true rfl, Nat.le_of_ble_eq_true rfl⟩) (MR.mk0 hR) rfl hR rfl hl.1 rfl (Nat.le_of_ble_eq_true rfl) dX9_goStation_130 (Nat.zero_le _) (Nat.zero_le _)) hS (fun _ h => h) (fun H locs hR _ _ hS => ?_)
            obtain ⟨X4, eX4⟩ : ∃ Y : gM, Y = p_X9_boards X3 (f_X9_nextAt X2 a1) a1 (f_X9_slotAt X a1) := ⟨_, rfl⟩
            rw [← eX4] at hR
            try replace hok := hok X4 eX4
            exact gm_vret hx hb hr hlocks hS (by (try simp only [p_X9_goStation, ↓if_neg c_3, ↓if_neg c_12, ↓if_neg c_14, ↓if_neg c_17, ↓if_neg c_19, ← eX2, ← eX3, ← eX4]); exact hR) dX9_goStation_133
      · try rw [if_pos c_14] at hok
        refine lv_aload_n hx hb dX9_goStation_63 rfl (lv_at hl 4 rfl) ?_
        refine lv_iload hx hb dX9_goStation_64 (lv_at hl 1 rfl) ?_
        refine lv_iload_n hx hb dX9_goStation_66 rfl (lv_at hl 5 rfl) ?_
        refine lv_iload_n hx hb dX9_goStation_67 rfl (lv_at hl 2 rfl) ?_
        obtain ⟨h_22, hok⟩ := hok
        refine gm_cv (gm_call (As := [.int (f_X9_nextAt X2 a1), .int a1, .int (f_X9_slotAt X a1)]) (rest := []) (ci := 9) (q := (RX9, TX9, 15)) ⟨hx, hb, hml, hown, hts⟩ hK (c_X9_boards l D cy μ X2 (f_X9_nextAt X2 a1) a1 (f_X9_slotAt X a1) h_22) (cwV 3 hts gX9_goStation_X9_boards rfl rfl rfl (by decide +kernel) ⟨Nat.le_of_ble_eq_true rfl, Nat.le_of_ble_eq_true rfl⟩) (MR.mk0 hR) rfl hR rfl hl.1 rfl (Nat.le_of_ble_eq_true rfl) dX9_goStation_68 (Nat.zero_le _) (Nat.zero_le _)) hS (fun _ h => h) (fun H locs hR _ _ hS => ?_)
        obtain ⟨X5, eX5⟩ : ∃ Y : gM, Y = p_X9_boards X2 (f_X9_nextAt X2 a1) a1 (f_X9_slotAt X a1) := ⟨_, rfl⟩
        rw [← eX5] at hR
        try replace hok := hok X5 eX5
        refine lv_goto (tgt := 133) hx hb dX9_goStation_71 (by decide) ?_
        exact gm_vret hx hb hr hlocks hS (by (try simp only [p_X9_goStation, ↓if_neg c_3, ↓if_neg c_12, ↓if_pos c_14, ← eX2, ← eX5]); exact hR) dX9_goStation_133
    · try rw [if_pos c_12] at hok
      exact gm_vret hx hb hr hlocks hS (by (try simp only [p_X9_goStation, ↓if_neg c_3, ↓if_pos c_12, ← eX2]); exact hR) dX9_goStation_47
