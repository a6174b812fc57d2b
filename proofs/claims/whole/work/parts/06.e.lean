def p_X9_goLine (X : gM) (a1 : Int32) : gM :=
  if (X 1 (((10 + (8 * a1)) + 2).toNatClampNeg)) + (X 1 (((10 + (8 * a1)) + 3).toNatClampNeg)) < 10 then
    if (-10) < (X 1 (((10 + (8 * a1)) + 2).toNatClampNeg)) + (X 1 (((10 + (8 * a1)) + 3).toNatClampNeg)) then
      let X1 := updM X 1 (((10 + (8 * a1)) + 2).toNatClampNeg) ((X 1 (((10 + (8 * a1)) + 2).toNatClampNeg)) + (X 1 (((10 + (8 * a1)) + 3).toNatClampNeg)))
      let X2 := updM X1 1 (((10 + (8 * a1)) + 1).toNatClampNeg) (((X1 1 (((10 + (8 * a1)) + 1).toNatClampNeg)) + 1) - ((X1 1 (((10 + (8 * a1)) + 1).toNatClampNeg)) + 1) / (X1 1 (((10 + (8 * a1)) + 0).toNatClampNeg)) * (X1 1 (((10 + (8 * a1)) + 0).toNatClampNeg)))
      X2
    else
      let X3 := updM X 1 (((10 + (8 * a1)) + 2).toNatClampNeg) (((X 1 (((10 + (8 * a1)) + 2).toNatClampNeg)) + (X 1 (((10 + (8 * a1)) + 3).toNatClampNeg))) + 10)
      let X4 := updM X3 1 (((10 + (8 * a1)) + 1).toNatClampNeg) (((X3 1 (((10 + (8 * a1)) + 1).toNatClampNeg)) + 2) - ((X3 1 (((10 + (8 * a1)) + 1).toNatClampNeg)) + 2) / (X3 1 (((10 + (8 * a1)) + 0).toNatClampNeg)) * (X3 1 (((10 + (8 * a1)) + 0).toNatClampNeg)))
      let X5 := updM X4 1 (((10 + (8 * a1)) + 6).toNatClampNeg) ((X4 1 (((10 + (8 * a1)) + 6).toNatClampNeg)) + 1)
      let X6 := p_X9_logs X5 7 (-5) a1 (-5)
      X6
  else
    let X7 := updM X 1 (((10 + (8 * a1)) + 2).toNatClampNeg) (((X 1 (((10 + (8 * a1)) + 2).toNatClampNeg)) + (X 1 (((10 + (8 * a1)) + 3).toNatClampNeg))) - 10)
    let X8 := updM X7 1 (((10 + (8 * a1)) + 1).toNatClampNeg) (((X7 1 (((10 + (8 * a1)) + 1).toNatClampNeg)) + 0) - ((X7 1 (((10 + (8 * a1)) + 1).toNatClampNeg)) + 0) / (X7 1 (((10 + (8 * a1)) + 0).toNatClampNeg)) * (X7 1 (((10 + (8 * a1)) + 0).toNatClampNeg)))
    let X9 := updM X8 1 (((10 + (8 * a1)) + 5).toNatClampNeg) ((X8 1 (((10 + (8 * a1)) + 5).toNatClampNeg)) + 1)
    let X10 := p_X9_logs X9 6 (-5) a1 (-5)
    X10
def ok_X9_goLine (X : gM) (a1 : Int32) : Prop :=
  (vp_in ((10 + (8 * a1)) + 2) 974) ∧
  (vp_in ((10 + (8 * a1)) + 3) 974) ∧
  (if (X 1 (((10 + (8 * a1)) + 2).toNatClampNeg)) + (X 1 (((10 + (8 * a1)) + 3).toNatClampNeg)) < 10 then
    (if (-10) < (X 1 (((10 + (8 * a1)) + 2).toNatClampNeg)) + (X 1 (((10 + (8 * a1)) + 3).toNatClampNeg)) then
      (vp_in ((10 + (8 * a1)) + 2) 974) ∧
      ∀ X1 : gM, X1 = updM X 1 (((10 + (8 * a1)) + 2).toNatClampNeg) ((X 1 (((10 + (8 * a1)) + 2).toNatClampNeg)) + (X 1 (((10 + (8 * a1)) + 3).toNatClampNeg))) →
      (vp_in ((10 + (8 * a1)) + 1) 974) ∧
      (vp_in ((10 + (8 * a1)) + 0) 974) ∧
      (¬ (X1 1 (((10 + (8 * a1)) + 0).toNatClampNeg)) = 0) ∧
      (vp_in ((10 + (8 * a1)) + 1) 974) ∧
      True
    else
      (vp_in ((10 + (8 * a1)) + 2) 974) ∧
      ∀ X3 : gM, X3 = updM X 1 (((10 + (8 * a1)) + 2).toNatClampNeg) (((X 1 (((10 + (8 * a1)) + 2).toNatClampNeg)) + (X 1 (((10 + (8 * a1)) + 3).toNatClampNeg))) + 10) →
      (vp_in ((10 + (8 * a1)) + 1) 974) ∧
      (vp_in ((10 + (8 * a1)) + 0) 974) ∧
      (¬ (X3 1 (((10 + (8 * a1)) + 0).toNatClampNeg)) = 0) ∧
      (vp_in ((10 + (8 * a1)) + 1) 974) ∧
      ∀ X4 : gM, X4 = updM X3 1 (((10 + (8 * a1)) + 1).toNatClampNeg) (((X3 1 (((10 + (8 * a1)) + 1).toNatClampNeg)) + 2) - ((X3 1 (((10 + (8 * a1)) + 1).toNatClampNeg)) + 2) / (X3 1 (((10 + (8 * a1)) + 0).toNatClampNeg)) * (X3 1 (((10 + (8 * a1)) + 0).toNatClampNeg))) →
      (vp_in ((10 + (8 * a1)) + 6) 974) ∧
      (vp_in ((10 + (8 * a1)) + 6) 974) ∧
      ∀ X5 : gM, X5 = updM X4 1 (((10 + (8 * a1)) + 6).toNatClampNeg) ((X4 1 (((10 + (8 * a1)) + 6).toNatClampNeg)) + 1) →
      (ok_X9_logs X5 7 (-5) a1 (-5)) ∧
      True)
  else
    (vp_in ((10 + (8 * a1)) + 2) 974) ∧
    ∀ X7 : gM, X7 = updM X 1 (((10 + (8 * a1)) + 2).toNatClampNeg) (((X 1 (((10 + (8 * a1)) + 2).toNatClampNeg)) + (X 1 (((10 + (8 * a1)) + 3).toNatClampNeg))) - 10) →
    (vp_in ((10 + (8 * a1)) + 1) 974) ∧
    (vp_in ((10 + (8 * a1)) + 0) 974) ∧
    (¬ (X7 1 (((10 + (8 * a1)) + 0).toNatClampNeg)) = 0) ∧
    (vp_in ((10 + (8 * a1)) + 1) 974) ∧
    ∀ X8 : gM, X8 = updM X7 1 (((10 + (8 * a1)) + 1).toNatClampNeg) (((X7 1 (((10 + (8 * a1)) + 1).toNatClampNeg)) + 0) - ((X7 1 (((10 + (8 * a1)) + 1).toNatClampNeg)) + 0) / (X7 1 (((10 + (8 * a1)) + 0).toNatClampNeg)) * (X7 1 (((10 + (8 * a1)) + 0).toNatClampNeg))) →
    (vp_in ((10 + (8 * a1)) + 5) 974) ∧
    (vp_in ((10 + (8 * a1)) + 5) 974) ∧
    ∀ X9 : gM, X9 = updM X8 1 (((10 + (8 * a1)) + 5).toNatClampNeg) ((X8 1 (((10 + (8 * a1)) + 5).toNatClampNeg)) + 1) →
    (ok_X9_logs X9 6 (-5) a1 (-5)) ∧
    True)
set_option maxHeartbeats 4000000 in
set_option maxRecDepth 100000 in
theorem c_X9_goLine (l : Launch) (D : va_G) (cy : Nat → ClassId) (μ : Nat) (X : gM) (a1 : Int32)  (hok : ok_X9_goLine X a1) : Met l yX9_goLine wsX9_goLine ({ frames := 1, cells := 0, slots := 0, locals := 25 }) (gP [.ref μ, .int a1] D cy (MR D cy μ X)) (gQv (MR D cy μ (p_X9_goLine X a1)) (MA μ)) 0 0 (MA μ) := by
  refine gm_met (cc := cX9_goLine) (maxL := 5) (ret := none) [.ref μ, .int a1] (by decide) rfl (Nat.le_of_ble_eq_true rfl) ?_
  intro p e s m args below meth c0 ls C hR hl
  obtain ⟨hx, hb, hr, hts, hown, hlocks, hml, hK⟩ := C
  have hl : lv_has ls 5 [(0, .ref μ), (1, .int a1)] := hl
  have hS : va_S (MA μ) s.heap s.heap [] := va_S.rf
  have lk7 := hts (.fieldLink RX9 7 "MercuryLineModel" "s" "[I") (by decide +kernel)
  have inX9 : ∀ w ∈ u_ws RX9 TX9 15, w ∈ wsX9_goLine := by decide +kernel
  unfold ok_X9_goLine at hok
  refine lv_bipush (v := 10) hx hb dX9_goLine_0 (by decide) ?_
  refine lv_bipush (v := 8) hx hb dX9_goLine_2 (by decide) ?_
  refine lv_iload_n hx hb dX9_goLine_4 rfl (lv_at hl 1 rfl) ?_
  refine lv_imul hx hb dX9_goLine_5 ?_
  refine lv_iadd hx hb dX9_goLine_6 ?_
  refine lv_istore_n (lv' := [(2, .int (10 + (8 * a1))), (0, .ref μ), (1, .int a1)]) hx hb dX9_goLine_7 rfl hl (by decide) rfl (fun ls hl => ?_)
  refine lv_aload_n hx hb dX9_goLine_8 rfl (lv_at hl 1 rfl) ?_
  refine va_get (D := D) (ci := 9) (v := .ref (μ + 1)) (C := RX9) (T := TX9) (N := 15) hx hb hts inX9 hown hK.1 (MR.mk0 hR) 0 rfl rfl 0 (by decide) lk7 (fun _ h9 => h9) rfl dX9_goLine_9 ?_
  refine lv_iload_n hx hb dX9_goLine_12 rfl (lv_at hl 0 rfl) ?_
  refine lv_iconst (v := 2) hx hb dX9_goLine_13 (by decide) ?_
  refine lv_iadd hx hb dX9_goLine_14 ?_
  obtain ⟨h_1, hok⟩ := hok
  refine gm_iald hx hb hK.1 (MR.mk1 hR (c := 1) (by decide) bM_1) h_1 dX9_goLine_15 ?_
  refine lv_aload_n hx hb dX9_goLine_16 rfl (lv_at hl 1 rfl) ?_
  refine va_get (D := D) (ci := 9) (v := .ref (μ + 1)) (C := RX9) (T := TX9) (N := 15) hx hb hts inX9 hown hK.1 (MR.mk0 hR) 0 rfl rfl 0 (by decide) lk7 (fun _ h9 => h9) rfl dX9_goLine_17 ?_
  refine lv_iload_n hx hb dX9_goLine_20 rfl (lv_at hl 0 rfl) ?_
  refine lv_iconst (v := 3) hx hb dX9_goLine_21 (by decide) ?_
  refine lv_iadd hx hb dX9_goLine_22 ?_
  obtain ⟨h_2, hok⟩ := hok
  refine gm_iald hx hb hK.1 (MR.mk1 hR (c := 1) (by decide) bM_1) h_2 dX9_goLine_23 ?_
  refine lv_iadd hx hb dX9_goLine_24 ?_
  refine lv_istore_n (lv' := [(3, .int ((X 1 (((10 + (8 * a1)) + 2).toNatClampNeg)) + (X 1 (((10 + (8 * a1)) + 3).toNatClampNeg)))), (2, .int (10 + (8 * a1))), (0, .ref μ), (1, .int a1)]) hx hb dX9_goLine_25 rfl hl (by decide) rfl (fun ls hl => ?_)
  refine lv_iload_n hx hb dX9_goLine_26 rfl (lv_at hl 0 rfl) ?_
  refine lv_bipush (v := 10) hx hb dX9_goLine_27 (by decide) ?_
  refine lv_icmp_lt (tgt := 36) hx hb dX9_goLine_29 (by decide) (fun c_3 => ?_) (fun c_3 => ?_)
  · try rw [if_pos c_3] at hok
    refine lv_iload_n hx hb dX9_goLine_36 rfl (lv_at hl 0 rfl) ?_
    refine lv_bipush (v := (-10)) hx hb dX9_goLine_37 (by decide) ?_
    refine lv_icmp_gt (tgt := 46) hx hb dX9_goLine_39 (by decide) (fun c_4 => ?_) (fun c_4 => ?_)
    · try rw [if_pos c_4] at hok
      refine lv_iconst (v := 1) hx hb dX9_goLine_46 (by decide) ?_
      refine lv_istore (lv' := [(4, .int 1), (3, .int ((X 1 (((10 + (8 * a1)) + 2).toNatClampNeg)) + (X 1 (((10 + (8 * a1)) + 3).toNatClampNeg)))), (2, .int (10 + (8 * a1))), (0, .ref μ), (1, .int a1)]) hx hb dX9_goLine_47 hl (by decide) rfl (fun ls hl => ?_)
      refine lv_aload_n hx hb dX9_goLine_49 rfl (lv_at hl 3 rfl) ?_
      refine va_get (D := D) (ci := 9) (v := .ref (μ + 1)) (C := RX9) (T := TX9) (N := 15) hx hb hts inX9 hown hK.1 (MR.mk0 hR) 0 rfl rfl 0 (by decide) lk7 (fun _ h9 => h9) rfl dX9_goLine_50 ?_
      refine lv_iload_n hx hb dX9_goLine_53 rfl (lv_at hl 2 rfl) ?_
      refine lv_iconst (v := 2) hx hb dX9_goLine_54 (by decide) ?_
      refine lv_iadd hx hb dX9_goLine_55 ?_
      refine lv_iload hx hb dX9_goLine_56 (lv_at hl 0 rfl) ?_
      refine lv_if_ne (tgt := 68) hx hb dX9_goLine_58 (by decide) (fun c_5 => ?_) (fun c_5 => ?_)
      · refine lv_iload hx hb dX9_goLine_68 (lv_at hl 0 rfl) ?_
        refine lv_iconst (v := 2) hx hb dX9_goLine_70 (by decide) ?_
        refine lv_icmp_ne (tgt := 81) hx hb dX9_goLine_71 (by decide) (fun c_6 => ?_) (fun c_6 => ?_)
        · refine lv_iload_n hx hb dX9_goLine_81 rfl (lv_at hl 1 rfl) ?_
          obtain ⟨h_7, hok⟩ := hok
          refine gm_iast hx hb hK.1 hR injM hS (a := 1) (by decide) rfl (fun r => bM_1) h_7 dX9_goLine_82 (fun H locs hR hS => ?_)
          obtain ⟨X1, eX1⟩ : ∃ Y : gM, Y = updM X 1 (((10 + (8 * a1)) + 2).toNatClampNeg) ((X 1 (((10 + (8 * a1)) + 2).toNatClampNeg)) + (X 1 (((10 + (8 * a1)) + 3).toNatClampNeg))) := ⟨_, rfl⟩
          rw [← eX1] at hR
          try replace hok := hok X1 eX1
          refine lv_aload_n hx hb dX9_goLine_83 rfl (lv_at hl 3 rfl) ?_
          refine va_get (D := D) (ci := 9) (v := .ref (μ + 1)) (C := RX9) (T := TX9) (N := 15) hx hb hts inX9 hown hK.1 (MR.mk0 hR) 0 rfl rfl 0 (by decide) lk7 (fun _ h9 => h9) rfl dX9_goLine_84 ?_
          refine lv_iload_n hx hb dX9_goLine_87 rfl (lv_at hl 2 rfl) ?_
          refine lv_iconst (v := 1) hx hb dX9_goLine_88 (by decide) ?_
          refine lv_iadd hx hb dX9_goLine_89 ?_
          refine lv_aload_n hx hb dX9_goLine_90 rfl (lv_at hl 3 rfl) ?_
          refine va_get (D := D) (ci := 9) (v := .ref (μ + 1)) (C := RX9) (T := TX9) (N := 15) hx hb hts inX9 hown hK.1 (MR.mk0 hR) 0 rfl rfl 0 (by decide) lk7 (fun _ h9 => h9) rfl dX9_goLine_91 ?_
          refine lv_iload_n hx hb dX9_goLine_94 rfl (lv_at hl 2 rfl) ?_
          refine lv_iconst (v := 1) hx hb dX9_goLine_95 (by decide) ?_
          refine lv_iadd hx hb dX9_goLine_96 ?_
          obtain ⟨h_8, hok⟩ := hok
          refine gm_iald hx hb hK.1 (MR.mk1 hR (c := 1) (by decide) bM_1) h_8 dX9_goLine_97 ?_
          refine lv_iload hx hb dX9_goLine_98 (lv_at hl 0 rfl) ?_
          refine lv_iadd hx hb dX9_goLine_100 ?_
          refine lv_aload_n hx hb dX9_goLine_101 rfl (lv_at hl 3 rfl) ?_
          refine va_get (D := D) (ci := 9) (v := .ref (μ + 1)) (C := RX9) (T := TX9) (N := 15) hx hb hts inX9 hown hK.1 (MR.mk0 hR) 0 rfl rfl 0 (by decide) lk7 (fun _ h9 => h9) rfl dX9_goLine_102 ?_
          refine lv_iload_n hx hb dX9_goLine_105 rfl (lv_at hl 2 rfl) ?_
          refine lv_iconst (v := 0) hx hb dX9_goLine_106 (by decide) ?_
          refine lv_iadd hx hb dX9_goLine_107 ?_
          obtain ⟨h_9, hok⟩ := hok
          refine gm_iald hx hb hK.1 (MR.mk1 hR (c := 1) (by decide) bM_1) h_9 dX9_goLine_108 ?_
          obtain ⟨h_10, hok⟩ := hok
          refine lv_irem hx hb dX9_goLine_109 h_10 ?_
          obtain ⟨h_11, hok⟩ := hok
          refine gm_iast hx hb hK.1 hR injM hS (a := 1) (by decide) rfl (fun r => bM_1) h_11 dX9_goLine_110 (fun H locs hR hS => ?_)
          obtain ⟨X2, eX2⟩ : ∃ Y : gM, Y = updM X1 1 (((10 + (8 * a1)) + 1).toNatClampNeg) (((X1 1 (((10 + (8 * a1)) + 1).toNatClampNeg)) + 1) - ((X1 1 (((10 + (8 * a1)) + 1).toNatClampNeg)) + 1) / (X1 1 (((10 + (8 * a1)) + 0).toNatClampNeg)) * (X1 1 (((10 + (8 * a1)) + 0).toNatClampNeg))) := ⟨_, rfl⟩
          rw [← eX2] at hR
          try replace hok := hok X2 eX2
          refine lv_iload hx hb dX9_goLine_111 (lv_at hl 0 rfl) ?_
          refine lv_if_ne (tgt := 142) hx hb dX9_goLine_113 (by decide) (fun c_12 => ?_) (fun c_12 => ?_)
          · refine lv_iload hx hb dX9_goLine_142 (lv_at hl 0 rfl) ?_
            refine lv_iconst (v := 2) hx hb dX9_goLine_144 (by decide) ?_
            refine lv_icmp_ne (tgt := 172) hx hb dX9_goLine_145 (by decide) (fun c_13 => ?_) (fun c_13 => ?_)
            · exact gm_vret hx hb hr hlocks hS (by (try simp only [p_X9_goLine, ↓if_pos c_3, ↓if_pos c_4, ← eX1, ← eX2]); exact hR) dX9_goLine_172
            · exact absurd c_13 (by decide)
          · exact absurd c_12 (by decide)
        · exact absurd c_6 (by decide)
      · exact absurd c_5 (by decide)
    · try rw [if_neg c_4] at hok
      refine lv_iconst (v := 2) hx hb dX9_goLine_42 (by decide) ?_
      refine lv_goto (tgt := 47) hx hb dX9_goLine_43 (by decide) ?_
      refine lv_istore (lv' := [(4, .int 2), (3, .int ((X 1 (((10 + (8 * a1)) + 2).toNatClampNeg)) + (X 1 (((10 + (8 * a1)) + 3).toNatClampNeg)))), (2, .int (10 + (8 * a1))), (0, .ref μ), (1, .int a1)]) hx hb dX9_goLine_47 hl (by decide) rfl (fun ls hl => ?_)
      refine lv_aload_n hx hb dX9_goLine_49 rfl (lv_at hl 3 rfl) ?_
      refine va_get (D := D) (ci := 9) (v := .ref (μ + 1)) (C := RX9) (T := TX9) (N := 15) hx hb hts inX9 hown hK.1 (MR.mk0 hR) 0 rfl rfl 0 (by decide) lk7 (fun _ h9 => h9) rfl dX9_goLine_50 ?_
      refine lv_iload_n hx hb dX9_goLine_53 rfl (lv_at hl 2 rfl) ?_
      refine lv_iconst (v := 2) hx hb dX9_goLine_54 (by decide) ?_
      refine lv_iadd hx hb dX9_goLine_55 ?_
      refine lv_iload hx hb dX9_goLine_56 (lv_at hl 0 rfl) ?_
      refine lv_if_ne (tgt := 68) hx hb dX9_goLine_58 (by decide) (fun c_14 => ?_) (fun c_14 => ?_)
      · refine lv_iload hx hb dX9_goLine_68 (lv_at hl 0 rfl) ?_
        refine lv_iconst (v := 2) hx hb dX9_goLine_70 (by decide) ?_
        refine lv_icmp_ne (tgt := 81) hx hb dX9_goLine_71 (by decide) (fun c_15 => ?_) (fun c_15 => ?_)
        · exact absurd c_15 (by decide)
        · refine lv_iload_n hx hb dX9_goLine_74 rfl (lv_at hl 1 rfl) ?_
          refine lv_bipush (v := 10) hx hb dX9_goLine_75 (by decide) ?_
          refine lv_iadd hx hb dX9_goLine_77 ?_
          refine lv_goto (tgt := 82) hx hb dX9_goLine_78 (by decide) ?_
          obtain ⟨h_16, hok⟩ := hok
          refine gm_iast hx hb hK.1 hR injM hS (a := 1) (by decide) rfl (fun r => bM_1) h_16 dX9_goLine_82 (fun H locs hR hS => ?_)
          obtain ⟨X3, eX3⟩ : ∃ Y : gM, Y = updM X 1 (((10 + (8 * a1)) + 2).toNatClampNeg) (((X 1 (((10 + (8 * a1)) + 2).toNatClampNeg)) + (X 1 (((10 + (8 * a1)) + 3).toNatClampNeg))) + 10) := ⟨_, rfl⟩
          rw [← eX3] at hR
          try replace hok := hok X3 eX3
          refine lv_aload_n hx hb dX9_goLine_83 rfl (lv_at hl 3 rfl) ?_
          refine va_get (D := D) (ci := 9) (v := .ref (μ + 1)) (C := RX9) (T := TX9) (N := 15) hx hb hts inX9 hown hK.1 (MR.mk0 hR) 0 rfl rfl 0 (by decide) lk7 (fun _ h9 => h9) rfl dX9_goLine_84 ?_
          refine lv_iload_n hx hb dX9_goLine_87 rfl (lv_at hl 2 rfl) ?_
          refine lv_iconst (v := 1) hx hb dX9_goLine_88 (by decide) ?_
          refine lv_iadd hx hb dX9_goLine_89 ?_
          refine lv_aload_n hx hb dX9_goLine_90 rfl (lv_at hl 3 rfl) ?_
          refine va_get (D := D) (ci := 9) (v := .ref (μ + 1)) (C := RX9) (T := TX9) (N := 15) hx hb hts inX9 hown hK.1 (MR.mk0 hR) 0 rfl rfl 0 (by decide) lk7 (fun _ h9 => h9) rfl dX9_goLine_91 ?_
          refine lv_iload_n hx hb dX9_goLine_94 rfl (lv_at hl 2 rfl) ?_
          refine lv_iconst (v := 1) hx hb dX9_goLine_95 (by decide) ?_
          refine lv_iadd hx hb dX9_goLine_96 ?_
          obtain ⟨h_17, hok⟩ := hok
          refine gm_iald hx hb hK.1 (MR.mk1 hR (c := 1) (by decide) bM_1) h_17 dX9_goLine_97 ?_
          refine lv_iload hx hb dX9_goLine_98 (lv_at hl 0 rfl) ?_
          refine lv_iadd hx hb dX9_goLine_100 ?_
          refine lv_aload_n hx hb dX9_goLine_101 rfl (lv_at hl 3 rfl) ?_
          refine va_get (D := D) (ci := 9) (v := .ref (μ + 1)) (C := RX9) (T := TX9) (N := 15) hx hb hts inX9 hown hK.1 (MR.mk0 hR) 0 rfl rfl 0 (by decide) lk7 (fun _ h9 => h9) rfl dX9_goLine_102 ?_
          refine lv_iload_n hx hb dX9_goLine_105 rfl (lv_at hl 2 rfl) ?_
          refine lv_iconst (v := 0) hx hb dX9_goLine_106 (by decide) ?_
          refine lv_iadd hx hb dX9_goLine_107 ?_
          obtain ⟨h_18, hok⟩ := hok
          refine gm_iald hx hb hK.1 (MR.mk1 hR (c := 1) (by decide) bM_1) h_18 dX9_goLine_108 ?_
          obtain ⟨h_19, hok⟩ := hok
          refine lv_irem hx hb dX9_goLine_109 h_19 ?_
          obtain ⟨h_20, hok⟩ := hok
          refine gm_iast hx hb hK.1 hR injM hS (a := 1) (by decide) rfl (fun r => bM_1) h_20 dX9_goLine_110 (fun H locs hR hS => ?_)
          obtain ⟨X4, eX4⟩ : ∃ Y : gM, Y = updM X3 1 (((10 + (8 * a1)) + 1).toNatClampNeg) (((X3 1 (((10 + (8 * a1)) + 1).toNatClampNeg)) + 2) - ((X3 1 (((10 + (8 * a1)) + 1).toNatClampNeg)) + 2) / (X3 1 (((10 + (8 * a1)) + 0).toNatClampNeg)) * (X3 1 (((10 + (8 * a1)) + 0).toNatClampNeg))) := ⟨_, rfl⟩
          rw [← eX4] at hR
          try replace hok := hok X4 eX4
          refine lv_iload hx hb dX9_goLine_111 (lv_at hl 0 rfl) ?_
          refine lv_if_ne (tgt := 142) hx hb dX9_goLine_113 (by decide) (fun c_21 => ?_) (fun c_21 => ?_)
          · refine lv_iload hx hb dX9_goLine_142 (lv_at hl 0 rfl) ?_
            refine lv_iconst (v := 2) hx hb dX9_goLine_144 (by decide) ?_
            refine lv_icmp_ne (tgt := 172) hx hb dX9_goLine_145 (by decide) (fun c_22 => ?_) (fun c_22 => ?_)
            · exact absurd c_22 (by decide)
            · refine lv_aload_n hx hb dX9_goLine_148 rfl (lv_at hl 3 rfl) ?_
              refine va_get (D := D) (ci := 9) (v := .ref (μ + 1)) (C := RX9) (T := TX9) (N := 15) hx hb hts inX9 hown hK.1 (MR.mk0 hR) 0 rfl rfl 0 (by decide) lk7 (fun _ h9 => h9) rfl dX9_goLine_149 ?_
              refine lv_iload_n hx hb dX9_goLine_152 rfl (lv_at hl 2 rfl) ?_
              refine lv_bipush (v := 6) hx hb dX9_goLine_153 (by decide) ?_
              refine lv_iadd hx hb dX9_goLine_155 ?_
              refine lv_dup2_11 hx hb dX9_goLine_156 rfl rfl ?_
              obtain ⟨h_23, hok⟩ := hok
              refine gm_iald hx hb hK.1 (MR.mk1 hR (c := 1) (by decide) bM_1) h_23 dX9_goLine_157 ?_
              refine lv_iconst (v := 1) hx hb dX9_goLine_158 (by decide) ?_
              refine lv_iadd hx hb dX9_goLine_159 ?_
              obtain ⟨h_24, hok⟩ := hok
              refine gm_iast hx hb hK.1 hR injM hS (a := 1) (by decide) rfl (fun r => bM_1) h_24 dX9_goLine_160 (fun H locs hR hS => ?_)
              obtain ⟨X5, eX5⟩ : ∃ Y : gM, Y = updM X4 1 (((10 + (8 * a1)) + 6).toNatClampNeg) ((X4 1 (((10 + (8 * a1)) + 6).toNatClampNeg)) + 1) := ⟨_, rfl⟩
              rw [← eX5] at hR
              try replace hok := hok X5 eX5
              refine lv_aload_n hx hb dX9_goLine_161 rfl (lv_at hl 3 rfl) ?_
              refine lv_bipush (v := 7) hx hb dX9_goLine_162 (by decide) ?_
              refine lv_bipush (v := (-5)) hx hb dX9_goLine_164 (by decide) ?_
              refine lv_iload_n hx hb dX9_goLine_166 rfl (lv_at hl 4 rfl) ?_
              refine lv_bipush (v := (-5)) hx hb dX9_goLine_167 (by decide) ?_
              obtain ⟨h_25, hok⟩ := hok
              refine gm_cv (gm_call (As := [.int 7, .int (-5), .int a1, .int (-5)]) (rest := []) (ci := 9) (q := (RX9, TX9, 15)) ⟨hx, hb, hml, hown, hts⟩ hK (c_X9_logs l D cy μ X5 7 (-5) a1 (-5) h_25) (cwV 4 hts gX9_goLine_X9_logs rfl rfl rfl (by decide +kernel) ⟨Nat.le_of_ble_eq_true rfl, Nat.le_of_ble_eq_true rfl⟩) (MR.mk0 hR) rfl hR rfl hl.1 rfl (Nat.le_of_ble_eq_true rfl) dX9_goLine_169 (Nat.zero_le _) (Nat.zero_le _)) hS (fun _ h => h) (fun H locs hR _ _ hS => ?_)
              obtain ⟨X6, eX6⟩ : ∃ Y : gM, Y = p_X9_logs X5 7 (-5) a1 (-5) := ⟨_, rfl⟩
              rw [← eX6] at hR
              try replace hok := hok X6 eX6
              exact gm_vret hx hb hr hlocks hS (by (try simp only [p_X9_goLine, ↓if_pos c_3, ↓if_neg c_4, ← eX3, ← eX4, ← eX5, ← eX6]); exact hR) dX9_goLine_172
          · exact absurd c_21 (by decide)
      · exact absurd c_14 (by decide)
  · try rw [if_neg c_3] at hok
    refine lv_iconst (v := 0) hx hb dX9_goLine_32 (by decide) ?_
    refine lv_goto (tgt := 47) hx hb dX9_goLine_33 (by decide) ?_
    refine lv_istore (lv' := [(4, .int 0), (3, .int ((X 1 (((10 + (8 * a1)) + 2).toNatClampNeg)) + (X 1 (((10 + (8 * a1)) + 3).toNatClampNeg)))), (2, .int (10 + (8 * a1))), (0, .ref μ), (1, .int a1)]) hx hb dX9_goLine_47 hl (by decide) rfl (fun ls hl => ?_)
    refine lv_aload_n hx hb dX9_goLine_49 rfl (lv_at hl 3 rfl) ?_
    refine va_get (D := D) (ci := 9) (v := .ref (μ + 1)) (C := RX9) (T := TX9) (N := 15) hx hb hts inX9 hown hK.1 (MR.mk0 hR) 0 rfl rfl 0 (by decide) lk7 (fun _ h9 => h9) rfl dX9_goLine_50 ?_
    refine lv_iload_n hx hb dX9_goLine_53 rfl (lv_at hl 2 rfl) ?_
    refine lv_iconst (v := 2) hx hb dX9_goLine_54 (by decide) ?_
    refine lv_iadd hx hb dX9_goLine_55 ?_
    refine lv_iload hx hb dX9_goLine_56 (lv_at hl 0 rfl) ?_
    refine lv_if_ne (tgt := 68) hx hb dX9_goLine_58 (by decide) (fun c_26 => ?_) (fun c_26 => ?_)
    · exact absurd c_26 (by decide)
    · refine lv_iload_n hx hb dX9_goLine_61 rfl (lv_at hl 1 rfl) ?_
      refine lv_bipush (v := 10) hx hb dX9_goLine_62 (by decide) ?_
      refine lv_isub hx hb dX9_goLine_64 ?_
      refine lv_goto (tgt := 82) hx hb dX9_goLine_65 (by decide) ?_
      obtain ⟨h_27, hok⟩ := hok
      refine gm_iast hx hb hK.1 hR injM hS (a := 1) (by decide) rfl (fun r => bM_1) h_27 dX9_goLine_82 (fun H locs hR hS => ?_)
      obtain ⟨X7, eX7⟩ : ∃ Y : gM, Y = updM X 1 (((10 + (8 * a1)) + 2).toNatClampNeg) (((X 1 (((10 + (8 * a1)) + 2).toNatClampNeg)) + (X 1 (((10 + (8 * a1)) + 3).toNatClampNeg))) - 10) := ⟨_, rfl⟩
      rw [← eX7] at hR
      try replace hok := hok X7 eX7
      refine lv_aload_n hx hb dX9_goLine_83 rfl (lv_at hl 3 rfl) ?_
      refine va_get (D := D) (ci := 9) (v := .ref (μ + 1)) (C := RX9) (T := TX9) (N := 15) hx hb hts inX9 hown hK.1 (MR.mk0 hR) 0 rfl rfl 0 (by decide) lk7 (fun _ h9 => h9) rfl dX9_goLine_84 ?_
      refine lv_iload_n hx hb dX9_goLine_87 rfl (lv_at hl 2 rfl) ?_
      refine lv_iconst (v := 1) hx hb dX9_goLine_88 (by decide) ?_
      refine lv_iadd hx hb dX9_goLine_89 ?_
      refine lv_aload_n hx hb dX9_goLine_90 rfl (lv_at hl 3 rfl) ?_
      refine va_get (D := D) (ci := 9) (v := .ref (μ + 1)) (C := RX9) (T := TX9) (N := 15) hx hb hts inX9 hown hK.1 (MR.mk0 hR) 0 rfl rfl 0 (by decide) lk7 (fun _ h9 => h9) rfl dX9_goLine_91 ?_
      refine lv_iload_n hx hb dX9_goLine_94 rfl (lv_at hl 2 rfl) ?_
      refine lv_iconst (v := 1) hx hb dX9_goLine_95 (by decide) ?_
      refine lv_iadd hx hb dX9_goLine_96 ?_
      obtain ⟨h_28, hok⟩ := hok
      refine gm_iald hx hb hK.1 (MR.mk1 hR (c := 1) (by decide) bM_1) h_28 dX9_goLine_97 ?_
      refine lv_iload hx hb dX9_goLine_98 (lv_at hl 0 rfl) ?_
      refine lv_iadd hx hb dX9_goLine_100 ?_
      refine lv_aload_n hx hb dX9_goLine_101 rfl (lv_at hl 3 rfl) ?_
      refine va_get (D := D) (ci := 9) (v := .ref (μ + 1)) (C := RX9) (T := TX9) (N := 15) hx hb hts inX9 hown hK.1 (MR.mk0 hR) 0 rfl rfl 0 (by decide) lk7 (fun _ h9 => h9) rfl dX9_goLine_102 ?_
      refine lv_iload_n hx hb dX9_goLine_105 rfl (lv_at hl 2 rfl) ?_
      refine lv_iconst (v := 0) hx hb dX9_goLine_106 (by decide) ?_
      refine lv_iadd hx hb dX9_goLine_107 ?_
      obtain ⟨h_29, hok⟩ := hok
      refine gm_iald hx hb hK.1 (MR.mk1 hR (c := 1) (by decide) bM_1) h_29 dX9_goLine_108 ?_
      obtain ⟨h_30, hok⟩ := hok
      refine lv_irem hx hb dX9_goLine_109 h_30 ?_
      obtain ⟨h_31, hok⟩ := hok
      refine gm_iast hx hb hK.1 hR injM hS (a := 1) (by decide) rfl (fun r => bM_1) h_31 dX9_goLine_110 (fun H locs hR hS => ?_)
      obtain ⟨X8, eX8⟩ : ∃ Y : gM, Y = updM X7 1 (((10 + (8 * a1)) + 1).toNatClampNeg) (((X7 1 (((10 + (8 * a1)) + 1).toNatClampNeg)) + 0) - ((X7 1 (((10 + (8 * a1)) + 1).toNatClampNeg)) + 0) / (X7 1 (((10 + (8 * a1)) + 0).toNatClampNeg)) * (X7 1 (((10 + (8 * a1)) + 0).toNatClampNeg))) := ⟨_, rfl⟩
      rw [← eX8] at hR
      try replace hok := hok X8 eX8
      refine lv_iload hx hb dX9_goLine_111 (lv_at hl 0 rfl) ?_
      refine lv_if_ne (tgt := 142) hx hb dX9_goLine_113 (by decide) (fun c_32 => ?_) (fun c_32 => ?_)
      · exact absurd c_32 (by decide)
      · refine lv_aload_n hx hb dX9_goLine_116 rfl (lv_at hl 3 rfl) ?_
        refine va_get (D := D) (ci := 9) (v := .ref (μ + 1)) (C := RX9) (T := TX9) (N := 15) hx hb hts inX9 hown hK.1 (MR.mk0 hR) 0 rfl rfl 0 (by decide) lk7 (fun _ h9 => h9) rfl dX9_goLine_117 ?_
        refine lv_iload_n hx hb dX9_goLine_120 rfl (lv_at hl 2 rfl) ?_
        refine lv_iconst (v := 5) hx hb dX9_goLine_121 (by decide) ?_
        refine lv_iadd hx hb dX9_goLine_122 ?_
        refine lv_dup2_11 hx hb dX9_goLine_123 rfl rfl ?_
        obtain ⟨h_33, hok⟩ := hok
        refine gm_iald hx hb hK.1 (MR.mk1 hR (c := 1) (by decide) bM_1) h_33 dX9_goLine_124 ?_
        refine lv_iconst (v := 1) hx hb dX9_goLine_125 (by decide) ?_
        refine lv_iadd hx hb dX9_goLine_126 ?_
        obtain ⟨h_34, hok⟩ := hok
        refine gm_iast hx hb hK.1 hR injM hS (a := 1) (by decide) rfl (fun r => bM_1) h_34 dX9_goLine_127 (fun H locs hR hS => ?_)
        obtain ⟨X9, eX9⟩ : ∃ Y : gM, Y = updM X8 1 (((10 + (8 * a1)) + 5).toNatClampNeg) ((X8 1 (((10 + (8 * a1)) + 5).toNatClampNeg)) + 1) := ⟨_, rfl⟩
        rw [← eX9] at hR
        try replace hok := hok X9 eX9
        refine lv_aload_n hx hb dX9_goLine_128 rfl (lv_at hl 3 rfl) ?_
        refine lv_bipush (v := 6) hx hb dX9_goLine_129 (by decide) ?_
        refine lv_bipush (v := (-5)) hx hb dX9_goLine_131 (by decide) ?_
        refine lv_iload_n hx hb dX9_goLine_133 rfl (lv_at hl 4 rfl) ?_
        refine lv_bipush (v := (-5)) hx hb dX9_goLine_134 (by decide) ?_
        obtain ⟨h_35, hok⟩ := hok
        refine gm_cv (gm_call (As := [.int 6, .int (-5), .int a1, .int (-5)]) (rest := []) (ci := 9) (q := (RX9, TX9, 15)) ⟨hx, hb, hml, hown, hts⟩ hK (c_X9_logs l D cy μ X9 6 (-5) a1 (-5) h_35) (cwV 4 hts gX9_goLine_X9_logs rfl rfl rfl (by decide +kernel) ⟨Nat.le_of_ble_eq_true rfl, Nat.le_of_ble_eq_true rfl⟩) (MR.mk0 hR) rfl hR rfl hl.1 rfl (Nat.le_of_ble_eq_true rfl) dX9_goLine_136 (Nat.zero_le _) (Nat.zero_le _)) hS (fun _ h => h) (fun H locs hR _ _ hS => ?_)
        obtain ⟨X10, eX10⟩ : ∃ Y : gM, Y = p_X9_logs X9 6 (-5) a1 (-5) := ⟨_, rfl⟩
        rw [← eX10] at hR
        try replace hok := hok X10 eX10
        refine lv_goto (tgt := 172) hx hb dX9_goLine_139 (by decide) ?_
        exact gm_vret hx hb hr hlocks hS (by (try simp only [p_X9_goLine, ↓if_neg c_3, ← eX7, ← eX8, ← eX9, ← eX10]); exact hR) dX9_goLine_172
def lf_X9_goTick_13 (k_1 : Nat) (K : (gM) → (Nat) → (gM)) : Nat → (gM) → (Nat) → (gM)
  | 0, Z, k_2 => K Z k_2
  | n + 1, Z, k_2 =>
    if f_X9_ofLine Z (nI k_1) 4 ≤ nI k_2 then
      K Z k_2
    else
      let X1 := p_X9_goStation Z (nI ((10 * k_1) + k_2))
      lf_X9_goTick_13 k_1 K n X1 (k_2 + 1)
def lok_X9_goTick_13 (k_1 : Nat) (KO : (gM) → (Nat) → Prop) : Nat → (gM) → (Nat) → Prop
  | 0, Z, k_2 => True
  | n + 1, Z, k_2 =>
    (ok_X9_ofLine Z (nI k_1) 4) ∧
    (if f_X9_ofLine Z (nI k_1) 4 ≤ nI k_2 then
      KO Z k_2
    else
      (ok_X9_goStation Z (nI ((10 * k_1) + k_2))) ∧
      ∀ X1 : gM, X1 = p_X9_goStation Z (nI ((10 * k_1) + k_2)) →
      lok_X9_goTick_13 k_1 KO n X1 (k_2 + 1))
def lf_X9_goTick_6  (K : (gM) → (Nat) → (gM)) : Nat → (gM) → (Nat) → (gM)
  | 0, Z, k_1 => K Z k_1
  | n + 1, Z, k_1 =>
    if 2 ≤ nI k_1 then
      K Z k_1
    else
      lf_X9_goTick_13 k_1 (fun X1 k_2w4 =>
            lf_X9_goTick_6 K n X1 (k_1 + 1)) 2147483648 Z 0
def lok_X9_goTick_6  (KO : (gM) → (Nat) → Prop) : Nat → (gM) → (Nat) → Prop
  | 0, Z, k_1 => True
  | n + 1, Z, k_1 =>
    (if 2 ≤ nI k_1 then
      KO Z k_1
    else
      lok_X9_goTick_13 k_1 (fun X1 k_2w4 =>
            lok_X9_goTick_6 KO n X1 (k_1 + 1)) 2147483648 Z 0)
def p_X9_goTick (X : gM) : gM :=
  let X1 := p_X9_goOrders X
  lf_X9_goTick_6  (fun X2 k_1w2 =>
        let X3 := p_X9_goLine X2 0
        let X4 := p_X9_goLine X3 1
        let X5 := updM X4 1 0 ((X4 1 0) + 1)
        X5) 2147483648 X1 0
def ok_X9_goTick (X : gM) : Prop :=
  (ok_X9_goOrders X) ∧
  ∀ X1 : gM, X1 = p_X9_goOrders X →
  lok_X9_goTick_6  (fun X2 k_1w2 =>
        (ok_X9_goLine X2 0) ∧
        ∀ X3 : gM, X3 = p_X9_goLine X2 0 →
        (ok_X9_goLine X3 1) ∧
        True) 2147483648 X1 0
set_option maxHeartbeats 4000000 in
set_option maxRecDepth 100000 in
theorem lp_X9_goTick_13 {p : Program} {l : Launch} {e : Env} {s : State} {m : MethodId} {args : Array Value} {below : List Frame} {meth : Method} {c0 : Code} {D : va_G} {cy : Nat → ClassId} (C : gCtx cX9_goTick 3 none RX9 wsX9_goTick D cy p s m args meth c0) (μ : Nat) (k_1 : Nat) (hb_1 : k_1 < 2147483648)
    (KO : (gM) → (Nat) → Prop) (K : (gM) → (Nat) → (gM)) (hexit : ∀ (Z : gM) (k_2 : Nat), k_2 ≤ 2147483647 → KO Z k_2 → ∀ (H : Heap) (locs : List Loc) (ls : Array Slot), MR D cy μ Z H → va_S (MA μ) s.heap H locs → lv_has ls 3 [(0, .ref μ), (1, .int (nI k_1)), (2, .int (nI k_2))] → W p l e { frames := 5, cells := 0, slots := 0, locals := 117 } s m args below meth c0 H locs 0 0 (MQ below (gQv (MR D cy μ (K Z k_2)) (MA μ)) args s 0 0 (MA μ)) (F0 m 39 ls [])) :
    ∀ (n : Nat) (Z : gM) (k_2 : Nat), k_2 ≤ 2147483647 → lok_X9_goTick_13 k_1 KO n Z k_2 → 2147483647 < k_2 + n → ∀ (H : Heap) (locs : List Loc) (ls : Array Slot), MR D cy μ Z H → va_S (MA μ) s.heap H locs → lv_has ls 3 [(0, .ref μ), (1, .int (nI k_1)), (2, .int (nI k_2))] → W p l e { frames := 5, cells := 0, slots := 0, locals := 117 } s m args below meth c0 H locs 0 0 (MQ below (gQv (MR D cy μ (lf_X9_goTick_13 k_1 K n Z k_2)) (MA μ)) args s 0 0 (MA μ)) (F0 m 13 ls []) := by
  obtain ⟨hx, hb, hr, hts, hown, hlocks, hml, hK⟩ := C
  intro n
  induction n with
  | zero =>
    intro Z k_2 hb_2 hok hme
    exact absurd hme (by omega)
  | succ n ih =>
    intro Z k_2 hb_2 hok hme H locs ls hR hS hl
    unfold lok_X9_goTick_13 at hok
    refine lv_iload_n hx hb dX9_goTick_13 rfl (lv_at hl 2 rfl) ?_
    refine lv_aload_n hx hb dX9_goTick_14 rfl (lv_at hl 0 rfl) ?_
    refine lv_iload_n hx hb dX9_goTick_15 rfl (lv_at hl 1 rfl) ?_
    refine lv_iconst (v := 4) hx hb dX9_goTick_16 (by decide) ?_
    obtain ⟨h_1, hok⟩ := hok
    refine gm_ci (gm_call (As := [.int (nI k_1), .int 4]) (rest := [.int (nI k_2)]) (ci := 9) (q := (RX9, TX9, 15)) ⟨hx, hb, hml, hown, hts⟩ hK (c_X9_ofLine l D cy μ Z (nI k_1) 4 h_1) (cwV 2 hts gX9_goTick_X9_ofLine rfl rfl rfl (by decide +kernel) ⟨Nat.le_of_ble_eq_true rfl, Nat.le_of_ble_eq_true rfl⟩) (MR.mk0 hR) rfl hR rfl hl.1 rfl (Nat.le_of_ble_eq_true rfl) dX9_goTick_17 (Nat.zero_le _) (Nat.zero_le _)) hS (fun _ h => h.elim) (fun H locs _ _ hfr hS => ?_)
    have hR := gRep.keep hR hfr (fun _ _ h => h)
    refine lv_icmp_ge (tgt := 39) hx hb dX9_goTick_20 (by decide) (fun c_2 => ?_) (fun c_2 => ?_)
    · try rw [if_pos c_2] at hok
      refine gm_q (Q2 := MQ below (gQv (MR D cy μ (K Z k_2)) (MA μ)) args s 0 0 (MA μ)) (by simp only [lf_X9_goTick_13, ↓if_pos c_2]) ?_
      exact hexit Z k_2 hb_2 hok _ _ _ hR hS (lv_sub hl [0, 1, 2] rfl)
    · try rw [if_neg c_2] at hok
      have lt_3 : k_2 < 2147483647 := g_big (Nat.lt_of_le_of_lt hb_2 (by decide)) c_2
      refine lv_aload_n hx hb dX9_goTick_23 rfl (lv_at hl 0 rfl) ?_
      refine lv_bipush (v := 10) hx hb dX9_goTick_24 (by decide) ?_
      refine lv_iload_n hx hb dX9_goTick_26 rfl (lv_at hl 1 rfl) ?_
      refine lv_imul hx hb dX9_goTick_27 ?_
      rw [show (10 * (nI k_1) : Int32) = nI (10 * k_1) from pk_mul 10 _]
      refine lv_iload_n hx hb dX9_goTick_28 rfl (lv_at hl 2 rfl) ?_
      refine lv_iadd hx hb dX9_goTick_29 ?_
      rw [show ((nI (10 * k_1)) + (nI k_2) : Int32) = nI ((10 * k_1) + k_2) from nI_add _ _]
      obtain ⟨h_4, hok⟩ := hok
      refine gm_cv (gm_call (As := [.int (nI ((10 * k_1) + k_2))]) (rest := []) (ci := 9) (q := (RX9, TX9, 15)) ⟨hx, hb, hml, hown, hts⟩ hK (c_X9_goStation l D cy μ Z (nI ((10 * k_1) + k_2)) h_4) (cwV 1 hts gX9_goTick_X9_goStation rfl rfl rfl (by decide +kernel) ⟨Nat.le_of_ble_eq_true rfl, Nat.le_of_ble_eq_true rfl⟩) (MR.mk0 hR) rfl hR rfl hl.1 rfl (Nat.le_of_ble_eq_true rfl) dX9_goTick_30 (Nat.zero_le _) (Nat.zero_le _)) hS (fun _ h => h) (fun H locs hR _ _ hS => ?_)
      obtain ⟨X1, eX1⟩ : ∃ Y : gM, Y = p_X9_goStation Z (nI ((10 * k_1) + k_2)) := ⟨_, rfl⟩
      rw [← eX1] at hR
      try replace hok := hok X1 eX1
      refine lv_iinc (v := nI (k_2 + 1)) (lv' := [(2, .int (nI (k_2 + 1))), (0, .ref μ), (1, .int (nI k_1))]) hx hb dX9_goTick_33 hl (k := 2) rfl (nI_1 _) (by decide) rfl (fun ls hl => ?_)
      refine lv_goto (tgt := 13) hx hb dX9_goTick_36 (by decide) ?_
      refine gm_q (Q2 := MQ below (gQv (MR D cy μ (lf_X9_goTick_13 k_1 K n X1 (k_2 + 1))) (MA μ)) args s 0 0 (MA μ)) (by simp only [lf_X9_goTick_13, ↓if_neg c_2, ← eX1]) ?_
      exact ih X1 (k_2 + 1) lt_3 hok (by omega) _ _ _ hR hS (lv_sub hl [1, 2, 0] rfl)
set_option maxHeartbeats 4000000 in
set_option maxRecDepth 100000 in
theorem lp_X9_goTick_6 {p : Program} {l : Launch} {e : Env} {s : State} {m : MethodId} {args : Array Value} {below : List Frame} {meth : Method} {c0 : Code} {D : va_G} {cy : Nat → ClassId} (C : gCtx cX9_goTick 3 none RX9 wsX9_goTick D cy p s m args meth c0) (μ : Nat) 
    (KO : (gM) → (Nat) → Prop) (K : (gM) → (Nat) → (gM)) (hexit : ∀ (Z : gM) (k_1 : Nat), k_1 ≤ 2147483647 → KO Z k_1 → ∀ (H : Heap) (locs : List Loc) (ls : Array Slot), MR D cy μ Z H → va_S (MA μ) s.heap H locs → lv_has ls 3 [(0, .ref μ), (1, .int (nI k_1))] → W p l e { frames := 5, cells := 0, slots := 0, locals := 117 } s m args below meth c0 H locs 0 0 (MQ below (gQv (MR D cy μ (K Z k_1)) (MA μ)) args s 0 0 (MA μ)) (F0 m 45 ls [])) :
    ∀ (n : Nat) (Z : gM) (k_1 : Nat), k_1 ≤ 2147483647 → lok_X9_goTick_6 KO n Z k_1 → 2147483647 < k_1 + n → ∀ (H : Heap) (locs : List Loc) (ls : Array Slot), MR D cy μ Z H → va_S (MA μ) s.heap H locs → lv_has ls 3 [(0, .ref μ), (1, .int (nI k_1))] → W p l e { frames := 5, cells := 0, slots := 0, locals := 117 } s m args below meth c0 H locs 0 0 (MQ below (gQv (MR D cy μ (lf_X9_goTick_6 K n Z k_1)) (MA μ)) args s 0 0 (MA μ)) (F0 m 6 ls []) := by
  obtain ⟨hx, hb, hr, hts, hown, hlocks, hml, hK⟩ := C
  intro n
  induction n with
  | zero =>
    intro Z k_1 hb_1 hok hme
    exact absurd hme (by omega)
  | succ n ih =>
    intro Z k_1 hb_1 hok hme H locs ls hR hS hl
    unfold lok_X9_goTick_6 at hok
    refine lv_iload_n hx hb dX9_goTick_6 rfl (lv_at hl 1 rfl) ?_
    refine lv_iconst (v := 2) hx hb dX9_goTick_7 (by decide) ?_
    refine lv_icmp_ge (tgt := 45) hx hb dX9_goTick_8 (by decide) (fun c_1 => ?_) (fun c_1 => ?_)
    · try rw [if_pos c_1] at hok
      have ge_2 : 2 ≤ k_1 := g_ge2 (Nat.lt_of_le_of_lt hb_1 (by decide)) (by decide) c_1
      refine gm_q (Q2 := MQ below (gQv (MR D cy μ (K Z k_1)) (MA μ)) args s 0 0 (MA μ)) (by simp only [lf_X9_goTick_6, ↓if_pos c_1]) ?_
      exact hexit Z k_1 hb_1 hok _ _ _ hR hS (lv_sub hl [0, 1] rfl)
    · try rw [if_neg c_1] at hok
      have lt_3 : k_1 < 2 := g_lt (Nat.lt_of_le_of_lt hb_1 (by decide)) (by decide) c_1
      refine lv_iconst (v := 0) hx hb dX9_goTick_11 (by decide) ?_
      refine lv_istore_n (lv' := [(2, .int 0), (0, .ref μ), (1, .int (nI k_1))]) hx hb dX9_goTick_12 rfl hl (by decide) rfl (fun ls hl => ?_)
      refine gm_q (Q2 := MQ below (gQv (MR D cy μ (lf_X9_goTick_13 k_1 (fun X1 k_2w4 =>
            lf_X9_goTick_6 K n X1 (k_1 + 1)) 2147483648 Z 0)) (MA μ)) args s 0 0 (MA μ)) (by simp only [lf_X9_goTick_6, ↓if_neg c_1]) ?_
      refine lp_X9_goTick_13 ⟨hx, hb, hr, hts, hown, hlocks, hml, hK⟩ μ k_1 (by omega) _ _ (fun X1 k_2w4 hbk_2w4 hok H locs ls hR hS hl => ?_) 2147483648 Z 0 (by decide) hok (by omega) _ _ _ hR hS (lv_sub hl [1, 2, 0] rfl)
      refine lv_iinc (v := nI (k_1 + 1)) (lv' := [(1, .int (nI (k_1 + 1))), (0, .ref μ), (2, .int (nI k_2w4))]) hx hb dX9_goTick_39 hl (k := 1) rfl (nI_1 _) (by decide) rfl (fun ls hl => ?_)
      refine lv_goto (tgt := 6) hx hb dX9_goTick_42 (by decide) ?_
      refine gm_q (Q2 := MQ below (gQv (MR D cy μ (lf_X9_goTick_6 K n X1 (k_1 + 1))) (MA μ)) args s 0 0 (MA μ)) (by simp only [lf_X9_goTick_6, ↓if_neg c_1]) ?_
      exact ih X1 (k_1 + 1) (Nat.lt_of_lt_of_le lt_3 (by decide)) hok (by omega) _ _ _ hR hS (lv_sub hl [1, 0] rfl)
set_option maxHeartbeats 4000000 in
set_option maxRecDepth 100000 in
theorem c_X9_goTick (l : Launch) (D : va_G) (cy : Nat → ClassId) (μ : Nat) (X : gM)  (hok : ok_X9_goTick X) : Met l yX9_goTick wsX9_goTick ({ frames := 5, cells := 0, slots := 0, locals := 117 }) (gP [.ref μ] D cy (MR D cy μ X)) (gQv (MR D cy μ (p_X9_goTick X)) (MA μ)) 0 0 (MA μ) := by
  refine gm_met (cc := cX9_goTick) (maxL := 3) (ret := none) [.ref μ] (by decide) rfl (Nat.le_of_ble_eq_true rfl) ?_
  intro p e s m args below meth c0 ls C hR hl
  obtain ⟨hx, hb, hr, hts, hown, hlocks, hml, hK⟩ := C
  have hl : lv_has ls 3 [(0, .ref μ)] := hl
  have hS : va_S (MA μ) s.heap s.heap [] := va_S.rf
  have lk7 := hts (.fieldLink RX9 7 "MercuryLineModel" "s" "[I") (by decide +kernel)
  have inX9 : ∀ w ∈ u_ws RX9 TX9 15, w ∈ wsX9_goTick := by decide +kernel
  unfold ok_X9_goTick at hok
  refine lv_aload_n hx hb dX9_goTick_0 rfl (lv_at hl 0 rfl) ?_
  obtain ⟨h_1, hok⟩ := hok
  refine gm_cv (gm_call (As := []) (rest := []) (ci := 9) (q := (RX9, TX9, 15)) ⟨hx, hb, hml, hown, hts⟩ hK (c_X9_goOrders l D cy μ X h_1) (cwV 0 hts gX9_goTick_X9_goOrders rfl rfl rfl (by decide +kernel) ⟨Nat.le_of_ble_eq_true rfl, Nat.le_of_ble_eq_true rfl⟩) (MR.mk0 hR) rfl hR rfl hl.1 rfl (Nat.le_of_ble_eq_true rfl) dX9_goTick_1 (Nat.zero_le _) (Nat.zero_le _)) hS (fun _ h => h) (fun H locs hR _ _ hS => ?_)
  obtain ⟨X1, eX1⟩ : ∃ Y : gM, Y = p_X9_goOrders X := ⟨_, rfl⟩
  rw [← eX1] at hR
  try replace hok := hok X1 eX1
  refine lv_iconst (v := 0) hx hb dX9_goTick_4 (by decide) ?_
  refine lv_istore_n (lv' := [(1, .int 0), (0, .ref μ)]) hx hb dX9_goTick_5 rfl hl (by decide) rfl (fun ls hl => ?_)
  refine gm_q (Q2 := MQ below (gQv (MR D cy μ (lf_X9_goTick_6  (fun X2 k_1w2 =>
        let X3 := p_X9_goLine X2 0
        let X4 := p_X9_goLine X3 1
        let X5 := updM X4 1 0 ((X4 1 0) + 1)
        X5) 2147483648 X1 0)) (MA μ)) args s 0 0 (MA μ)) (by simp only [p_X9_goTick, ← eX1]) ?_
  refine lp_X9_goTick_6 ⟨hx, hb, hr, hts, hown, hlocks, hml, hK⟩ μ  _ _ (fun X2 k_1w2 hbk_1w2 hok H locs ls hR hS hl => ?_) 2147483648 X1 0 (by decide) hok (by omega) _ _ _ hR hS (lv_sub hl [1, 0] rfl)
  refine lv_aload_n hx hb dX9_goTick_45 rfl (lv_at hl 0 rfl) ?_
  refine lv_iconst (v := 0) hx hb dX9_goTick_46 (by decide) ?_
  obtain ⟨h_3, hok⟩ := hok
  refine gm_cv (gm_call (As := [.int 0]) (rest := []) (ci := 9) (q := (RX9, TX9, 15)) ⟨hx, hb, hml, hown, hts⟩ hK (c_X9_goLine l D cy μ X2 0 h_3) (cwV 1 hts gX9_goTick_X9_goLine rfl rfl rfl (by decide +kernel) ⟨Nat.le_of_ble_eq_true rfl, Nat.le_of_ble_eq_true rfl⟩) (MR.mk0 hR) rfl hR rfl hl.1 rfl (Nat.le_of_ble_eq_true rfl) dX9_goTick_47 (Nat.zero_le _) (Nat.zero_le _)) hS (fun _ h => h) (fun H locs hR _ _ hS => ?_)
  obtain ⟨X3, eX3⟩ : ∃ Y : gM, Y = p_X9_goLine X2 0 := ⟨_, rfl⟩
  rw [← eX3] at hR
  try replace hok := hok X3 eX3
  refine lv_aload_n hx hb dX9_goTick_50 rfl (lv_at hl 0 rfl) ?_
  refine lv_iconst (v := 1) hx hb dX9_goTick_51 (by decide) ?_
  obtain ⟨h_4, hok⟩ := hok
  refine gm_cv (gm_call (As := [.int 1]) (rest := []) (ci := 9) (q := (RX9, TX9, 15)) ⟨hx, hb, hml, hown, hts⟩ hK (c_X9_goLine l D cy μ X3 1 h_4) (cwV 1 hts gX9_goTick_X9_goLine rfl rfl rfl (by decide +kernel) ⟨Nat.le_of_ble_eq_true rfl, Nat.le_of_ble_eq_true rfl⟩) (MR.mk0 hR) rfl hR rfl hl.1 rfl (Nat.le_of_ble_eq_true rfl) dX9_goTick_52 (Nat.zero_le _) (Nat.zero_le _)) hS (fun _ h => h) (fun H locs hR _ _ hS => ?_)
  obtain ⟨X4, eX4⟩ : ∃ Y : gM, Y = p_X9_goLine X3 1 := ⟨_, rfl⟩
  rw [← eX4] at hR
  try replace hok := hok X4 eX4
  refine lv_aload_n hx hb dX9_goTick_55 rfl (lv_at hl 0 rfl) ?_
  refine va_get (D := D) (ci := 9) (v := .ref (μ + 1)) (C := RX9) (T := TX9) (N := 15) hx hb hts inX9 hown hK.1 (MR.mk0 hR) 0 rfl rfl 0 (by decide) lk7 (fun _ h9 => h9) rfl dX9_goTick_56 ?_
  refine lv_iconst (v := 0) hx hb dX9_goTick_59 (by decide) ?_
  refine lv_dup2_11 hx hb dX9_goTick_60 rfl rfl ?_
  refine gm_iald hx hb hK.1 (MR.mk1 hR (c := 1) (by decide) bM_1) (vp_in_iff.mpr (by decide)) dX9_goTick_61 ?_
  rw [show (0 : Int32).toNatClampNeg = 0 from by decide]
  refine lv_iconst (v := 1) hx hb dX9_goTick_62 (by decide) ?_
  refine lv_iadd hx hb dX9_goTick_63 ?_
  refine gm_iast hx hb hK.1 hR injM hS (a := 1) (by decide) rfl (fun r => bM_1) (vp_in_iff.mpr (by decide)) dX9_goTick_64 (fun H locs hR hS => ?_)
  rw [show (0 : Int32).toNatClampNeg = 0 from by decide] at hR
  obtain ⟨X5, eX5⟩ : ∃ Y : gM, Y = updM X4 1 0 ((X4 1 0) + 1) := ⟨_, rfl⟩
  rw [← eX5] at hR
  try replace hok := hok X5 eX5
  exact gm_vret hx hb hr hlocks hS (by (try simp only [p_X9_goTick, ← eX1, ← eX3, ← eX4, ← eX5]); exact hR) dX9_goTick_65
