def p_X9_type (X : gM) (a1 : Int32) : Int32 × gM :=
  if X 0 7 = 60 then
    ((-3), X)
  else
    let X1 := updM X 5 ((X 0 7).toNatClampNeg) (vp_nar .char a1)
    let X2 := updM X1 0 7 ((X1 0 7) + 1)
    (X2 0 7, X2)
def ok_X9_type (X : gM) (a1 : Int32) : Prop :=
  (if X 0 7 = 60 then
    True
  else
    (vp_in (X 0 7) 60) ∧
    True)
set_option maxHeartbeats 4000000 in
set_option maxRecDepth 100000 in
theorem c_X9_type (l : Launch) (D : va_G) (cy : Nat → ClassId) (μ : Nat) (X : gM) (a1 : Int32)  (hok : ok_X9_type X a1) : Met l yX9_type wsX9_type ({ frames := 0, cells := 0, slots := 0, locals := 0 }) (gP [.ref μ, .int a1] D cy (MR D cy μ X)) (gQi (p_X9_type X a1).1 (MR D cy μ (p_X9_type X a1).2) (MA μ)) 0 0 (MA μ) := by
  refine gm_met (cc := cX9_type) (maxL := 2) (ret := (some .int)) [.ref μ, .int a1] (by decide) rfl (Nat.le_of_ble_eq_true rfl) ?_
  intro p e s m args below meth c0 ls C hR hl
  obtain ⟨hx, hb, hr, hts, hown, hlocks, hml, hK⟩ := C
  have hl : lv_has ls 2 [(0, .ref μ), (1, .int a1)] := hl
  have hS : va_S (MA μ) s.heap s.heap [] := va_S.rf
  have lk149 := hts (.fieldLink RX9 149 "MercuryLineModel" "length" "I") (by decide +kernel)
  have inX9 : ∀ w ∈ u_ws RX9 TX9 15, w ∈ wsX9_type := by decide +kernel
  have lk22 := hts (.fieldLink RX9 22 "MercuryLineModel" "text" "[C") (by decide +kernel)
  unfold ok_X9_type at hok
  refine lv_aload_n hx hb dX9_type_0 rfl (lv_at hl 0 rfl) ?_
  refine va_get (D := D) (ci := 9) (v := .int (X 0 7)) (C := RX9) (T := TX9) (N := 15) hx hb hts inX9 hown hK.1 (MR.mk0 hR) 0 rfl rfl 7 (by decide) lk149 (fun _ h9 => h9) rfl dX9_type_1 ?_
  refine lv_bipush (v := 60) hx hb dX9_type_4 (by decide) ?_
  refine lv_icmp_ne (tgt := 12) hx hb dX9_type_6 (by decide) (fun c_1 => ?_) (fun c_1 => ?_)
  · try rw [if_neg c_1] at hok
    refine lv_aload_n hx hb dX9_type_12 rfl (lv_at hl 0 rfl) ?_
    refine va_get (D := D) (ci := 9) (v := .ref (μ + 5)) (C := RX9) (T := TX9) (N := 15) hx hb hts inX9 hown hK.1 (MR.mk0 hR) 0 rfl rfl 6 (by decide) lk22 (fun _ h9 => h9) rfl dX9_type_13 ?_
    refine lv_aload_n hx hb dX9_type_16 rfl (lv_at hl 0 rfl) ?_
    refine va_get (D := D) (ci := 9) (v := .int (X 0 7)) (C := RX9) (T := TX9) (N := 15) hx hb hts inX9 hown hK.1 (MR.mk0 hR) 0 rfl rfl 7 (by decide) lk149 (fun _ h9 => h9) rfl dX9_type_17 ?_
    refine lv_iload_n hx hb dX9_type_20 rfl (lv_at hl 1 rfl) ?_
    obtain ⟨h_2, hok⟩ := hok
    refine gm_cast hx hb hK.1 hR injM hS (a := 5) (by decide) rfl (fun r => bM_5) h_2 dX9_type_21 (fun H locs hR hS => ?_)
    obtain ⟨X1, eX1⟩ : ∃ Y : gM, Y = updM X 5 ((X 0 7).toNatClampNeg) (vp_nar .char a1) := ⟨_, rfl⟩
    rw [← eX1] at hR
    try replace hok := hok X1 eX1
    refine lv_aload_n hx hb dX9_type_22 rfl (lv_at hl 0 rfl) ?_
    refine lv_dup hx hb dX9_type_23 rfl ?_
    refine va_get (D := D) (ci := 9) (v := .int (X1 0 7)) (C := RX9) (T := TX9) (N := 15) hx hb hts inX9 hown hK.1 (MR.mk0 hR) 0 rfl rfl 7 (by decide) lk149 (fun _ h9 => h9) rfl dX9_type_24 ?_
    refine lv_iconst (v := 1) hx hb dX9_type_27 (by decide) ?_
    refine lv_iadd hx hb dX9_type_28 ?_
    refine gm_put (v := .int ((X1 0 7) + 1)) (ty := .int) (ci := 9) (C := RX9) (T := TX9) (N := 15) hx hb hts inX9 tyX9 tyX9_ok nmX9 hown hK.1 hR injM hS (a := 0) (by decide) rfl bM_0 rfl 7 (by decide) lk149 (fun _ h9 => h9) rfl (by decide +kernel) rfl rfl (Nat.le_of_ble_eq_true rfl) (j := 7) (x := (X1 0 7) + 1) (by rw [bM_0]; rfl) dX9_type_29 (fun H locs hR hS => ?_)
    obtain ⟨X2, eX2⟩ : ∃ Y : gM, Y = updM X1 0 7 ((X1 0 7) + 1) := ⟨_, rfl⟩
    rw [← eX2] at hR
    try replace hok := hok X2 eX2
    refine lv_aload_n hx hb dX9_type_32 rfl (lv_at hl 0 rfl) ?_
    refine va_get (D := D) (ci := 9) (v := .int (X2 0 7)) (C := RX9) (T := TX9) (N := 15) hx hb hts inX9 hown hK.1 (MR.mk0 hR) 0 rfl rfl 7 (by decide) lk149 (fun _ h9 => h9) rfl dX9_type_33 ?_
    exact gm_iret hx hb hr hlocks hS (by (try simp only [p_X9_type, ↓if_neg c_1, ← eX1, ← eX2]); (try rfl)) (by (try simp only [p_X9_type, ↓if_neg c_1, ← eX1, ← eX2]); exact hR) dX9_type_36
  · try rw [if_pos c_1] at hok
    refine lv_bipush (v := (-3)) hx hb dX9_type_9 (by decide) ?_
    exact gm_iret hx hb hr hlocks hS (by (try simp only [p_X9_type, ↓if_pos c_1]); (try rfl)) (by (try simp only [p_X9_type, ↓if_pos c_1]); exact hR) dX9_type_11
def p_X9_clearText (X : gM) : Int32 × gM :=
  let X1 := updM X 0 7 0
  (X 0 7, X1)
set_option maxHeartbeats 4000000 in
set_option maxRecDepth 100000 in
theorem c_X9_clearText (l : Launch) (D : va_G) (cy : Nat → ClassId) (μ : Nat) (X : gM)  : Met l yX9_clearText wsX9_clearText ({ frames := 0, cells := 0, slots := 0, locals := 0 }) (gP [.ref μ] D cy (MR D cy μ X)) (gQi (p_X9_clearText X).1 (MR D cy μ (p_X9_clearText X).2) (MA μ)) 0 0 (MA μ) := by
  refine gm_met (cc := cX9_clearText) (maxL := 2) (ret := (some .int)) [.ref μ] (by decide) rfl (Nat.le_of_ble_eq_true rfl) ?_
  intro p e s m args below meth c0 ls C hR hl
  obtain ⟨hx, hb, hr, hts, hown, hlocks, hml, hK⟩ := C
  have hl : lv_has ls 2 [(0, .ref μ)] := hl
  have hS : va_S (MA μ) s.heap s.heap [] := va_S.rf
  have lk149 := hts (.fieldLink RX9 149 "MercuryLineModel" "length" "I") (by decide +kernel)
  have inX9 : ∀ w ∈ u_ws RX9 TX9 15, w ∈ wsX9_clearText := by decide +kernel
  have hok : True := trivial
  refine lv_aload_n hx hb dX9_clearText_0 rfl (lv_at hl 0 rfl) ?_
  refine va_get (D := D) (ci := 9) (v := .int (X 0 7)) (C := RX9) (T := TX9) (N := 15) hx hb hts inX9 hown hK.1 (MR.mk0 hR) 0 rfl rfl 7 (by decide) lk149 (fun _ h9 => h9) rfl dX9_clearText_1 ?_
  refine lv_istore_n (lv' := [(1, .int (X 0 7)), (0, .ref μ)]) hx hb dX9_clearText_4 rfl hl (by decide) rfl (fun ls hl => ?_)
  refine lv_aload_n hx hb dX9_clearText_5 rfl (lv_at hl 1 rfl) ?_
  refine lv_iconst (v := 0) hx hb dX9_clearText_6 (by decide) ?_
  refine gm_put (v := .int 0) (ty := .int) (ci := 9) (C := RX9) (T := TX9) (N := 15) hx hb hts inX9 tyX9 tyX9_ok nmX9 hown hK.1 hR injM hS (a := 0) (by decide) rfl bM_0 rfl 7 (by decide) lk149 (fun _ h9 => h9) rfl (by decide +kernel) rfl rfl (Nat.le_of_ble_eq_true rfl) (j := 7) (x := 0) (by rw [bM_0]; rfl) dX9_clearText_7 (fun H locs hR hS => ?_)
  obtain ⟨X1, eX1⟩ : ∃ Y : gM, Y = updM X 0 7 0 := ⟨_, rfl⟩
  rw [← eX1] at hR
  try replace hok := hok X1 eX1
  refine lv_iload_n hx hb dX9_clearText_10 rfl (lv_at hl 0 rfl) ?_
  exact gm_iret hx hb hr hlocks hS (by (try simp only [p_X9_clearText, ← eX1]); (try rfl)) (by (try simp only [p_X9_clearText, ← eX1]); exact hR) dX9_clearText_11
def p_X9_takes (X : gM) (a1 : Int32) : gM :=
  if X 0 10 = 0 then
    if X 0 7 ≤ X 0 9 then
      let X4 := updM X 0 10 1
      if X4 0 10 = 0 then
        let X5 := updM X4 0 9 ((X4 0 9) + 1)
        X5
      else
        let X6 := updM X4 0 9 ((X4 0 9) + 0)
        X6
    else
      if X 5 ((X 0 9).toNatClampNeg) = a1 then
        let X7 := updM X 0 10 0
        if X7 0 10 = 0 then
          let X8 := updM X7 0 9 ((X7 0 9) + 1)
          X8
        else
          let X9 := updM X7 0 9 ((X7 0 9) + 0)
          X9
      else
        let X10 := updM X 0 10 1
        if X10 0 10 = 0 then
          let X11 := updM X10 0 9 ((X10 0 9) + 1)
          X11
        else
          let X12 := updM X10 0 9 ((X10 0 9) + 0)
          X12
  else
    let X1 := updM X 0 10 1
    if X1 0 10 = 0 then
      let X2 := updM X1 0 9 ((X1 0 9) + 1)
      X2
    else
      let X3 := updM X1 0 9 ((X1 0 9) + 0)
      X3
def ok_X9_takes (X : gM) (a1 : Int32) : Prop :=
  (if X 0 10 = 0 then
    (if X 0 7 ≤ X 0 9 then
      True
    else
      (vp_in (X 0 9) 60) ∧
      True)
  else
    True)
set_option maxHeartbeats 4000000 in
set_option maxRecDepth 100000 in
theorem c_X9_takes (l : Launch) (D : va_G) (cy : Nat → ClassId) (μ : Nat) (X : gM) (a1 : Int32)  (hok : ok_X9_takes X a1) : Met l yX9_takes wsX9_takes ({ frames := 0, cells := 0, slots := 0, locals := 0 }) (gP [.ref μ, .int a1] D cy (MR D cy μ X)) (gQv (MR D cy μ (p_X9_takes X a1)) (MA μ)) 0 0 (MA μ) := by
  refine gm_met (cc := cX9_takes) (maxL := 2) (ret := none) [.ref μ, .int a1] (by decide) rfl (Nat.le_of_ble_eq_true rfl) ?_
  intro p e s m args below meth c0 ls C hR hl
  obtain ⟨hx, hb, hr, hts, hown, hlocks, hml, hK⟩ := C
  have hl : lv_has ls 2 [(0, .ref μ), (1, .int a1)] := hl
  have hS : va_S (MA μ) s.heap s.heap [] := va_S.rf
  have lk152 := hts (.fieldLink RX9 152 "MercuryLineModel" "isWrong" "Z") (by decide +kernel)
  have inX9 : ∀ w ∈ u_ws RX9 TX9 15, w ∈ wsX9_takes := by decide +kernel
  have lk156 := hts (.fieldLink RX9 156 "MercuryLineModel" "at" "I") (by decide +kernel)
  have lk149 := hts (.fieldLink RX9 149 "MercuryLineModel" "length" "I") (by decide +kernel)
  have lk22 := hts (.fieldLink RX9 22 "MercuryLineModel" "text" "[C") (by decide +kernel)
  unfold ok_X9_takes at hok
  refine lv_aload_n hx hb dX9_takes_0 rfl (lv_at hl 0 rfl) ?_
  refine lv_aload_n hx hb dX9_takes_1 rfl (lv_at hl 0 rfl) ?_
  refine va_get (D := D) (ci := 9) (v := .int (X 0 10)) (C := RX9) (T := TX9) (N := 15) hx hb hts inX9 hown hK.1 (MR.mk0 hR) 0 rfl rfl 10 (by decide) lk152 (fun _ h9 => h9) rfl dX9_takes_2 ?_
  refine lv_if_ne (tgt := 32) hx hb dX9_takes_5 (by decide) (fun c_1 => ?_) (fun c_1 => ?_)
  · try rw [if_neg c_1] at hok
    refine lv_iconst (v := 1) hx hb dX9_takes_32 (by decide) ?_
    refine lv_goto (tgt := 37) hx hb dX9_takes_33 (by decide) ?_
    refine gm_put (v := .int 1) (ty := .boolean) (ci := 9) (C := RX9) (T := TX9) (N := 15) hx hb hts inX9 tyX9 tyX9_ok nmX9 hown hK.1 hR injM hS (a := 0) (by decide) rfl bM_0 rfl 10 (by decide) lk152 (fun _ h9 => h9) rfl (by decide +kernel) rfl rfl (Nat.le_of_ble_eq_true rfl) (j := 10) (x := 1) (by rw [bM_0]; rfl) dX9_takes_37 (fun H locs hR hS => ?_)
    obtain ⟨X1, eX1⟩ : ∃ Y : gM, Y = updM X 0 10 1 := ⟨_, rfl⟩
    rw [← eX1] at hR
    try replace hok := hok X1 eX1
    refine lv_aload_n hx hb dX9_takes_40 rfl (lv_at hl 0 rfl) ?_
    refine lv_dup hx hb dX9_takes_41 rfl ?_
    refine va_get (D := D) (ci := 9) (v := .int (X1 0 9)) (C := RX9) (T := TX9) (N := 15) hx hb hts inX9 hown hK.1 (MR.mk0 hR) 0 rfl rfl 9 (by decide) lk156 (fun _ h9 => h9) rfl dX9_takes_42 ?_
    refine lv_aload_n hx hb dX9_takes_45 rfl (lv_at hl 0 rfl) ?_
    refine va_get (D := D) (ci := 9) (v := .int (X1 0 10)) (C := RX9) (T := TX9) (N := 15) hx hb hts inX9 hown hK.1 (MR.mk0 hR) 0 rfl rfl 10 (by decide) lk152 (fun _ h9 => h9) rfl dX9_takes_46 ?_
    refine lv_if_eq (tgt := 56) hx hb dX9_takes_49 (by decide) (fun c_2 => ?_) (fun c_2 => ?_)
    · try rw [if_pos c_2] at hok
      refine lv_iconst (v := 1) hx hb dX9_takes_56 (by decide) ?_
      refine lv_iadd hx hb dX9_takes_57 ?_
      refine gm_put (v := .int ((X1 0 9) + 1)) (ty := .int) (ci := 9) (C := RX9) (T := TX9) (N := 15) hx hb hts inX9 tyX9 tyX9_ok nmX9 hown hK.1 hR injM hS (a := 0) (by decide) rfl bM_0 rfl 9 (by decide) lk156 (fun _ h9 => h9) rfl (by decide +kernel) rfl rfl (Nat.le_of_ble_eq_true rfl) (j := 9) (x := (X1 0 9) + 1) (by rw [bM_0]; rfl) dX9_takes_58 (fun H locs hR hS => ?_)
      obtain ⟨X2, eX2⟩ : ∃ Y : gM, Y = updM X1 0 9 ((X1 0 9) + 1) := ⟨_, rfl⟩
      rw [← eX2] at hR
      try replace hok := hok X2 eX2
      exact gm_vret hx hb hr hlocks hS (by (try simp only [p_X9_takes, ↓if_neg c_1, ↓if_pos c_2, ← eX1, ← eX2]); exact hR) dX9_takes_61
    · try rw [if_neg c_2] at hok
      refine lv_iconst (v := 0) hx hb dX9_takes_52 (by decide) ?_
      refine lv_goto (tgt := 57) hx hb dX9_takes_53 (by decide) ?_
      refine lv_iadd hx hb dX9_takes_57 ?_
      refine gm_put (v := .int ((X1 0 9) + 0)) (ty := .int) (ci := 9) (C := RX9) (T := TX9) (N := 15) hx hb hts inX9 tyX9 tyX9_ok nmX9 hown hK.1 hR injM hS (a := 0) (by decide) rfl bM_0 rfl 9 (by decide) lk156 (fun _ h9 => h9) rfl (by decide +kernel) rfl rfl (Nat.le_of_ble_eq_true rfl) (j := 9) (x := (X1 0 9) + 0) (by rw [bM_0]; rfl) dX9_takes_58 (fun H locs hR hS => ?_)
      obtain ⟨X3, eX3⟩ : ∃ Y : gM, Y = updM X1 0 9 ((X1 0 9) + 0) := ⟨_, rfl⟩
      rw [← eX3] at hR
      try replace hok := hok X3 eX3
      exact gm_vret hx hb hr hlocks hS (by (try simp only [p_X9_takes, ↓if_neg c_1, ↓if_neg c_2, ← eX1, ← eX3]); exact hR) dX9_takes_61
  · try rw [if_pos c_1] at hok
    refine lv_aload_n hx hb dX9_takes_8 rfl (lv_at hl 0 rfl) ?_
    refine va_get (D := D) (ci := 9) (v := .int (X 0 9)) (C := RX9) (T := TX9) (N := 15) hx hb hts inX9 hown hK.1 (MR.mk0 hR) 0 rfl rfl 9 (by decide) lk156 (fun _ h9 => h9) rfl dX9_takes_9 ?_
    refine lv_aload_n hx hb dX9_takes_12 rfl (lv_at hl 0 rfl) ?_
    refine va_get (D := D) (ci := 9) (v := .int (X 0 7)) (C := RX9) (T := TX9) (N := 15) hx hb hts inX9 hown hK.1 (MR.mk0 hR) 0 rfl rfl 7 (by decide) lk149 (fun _ h9 => h9) rfl dX9_takes_13 ?_
    refine lv_icmp_ge (tgt := 32) hx hb dX9_takes_16 (by decide) (fun c_3 => ?_) (fun c_3 => ?_)
    · try rw [if_pos c_3] at hok
      refine lv_iconst (v := 1) hx hb dX9_takes_32 (by decide) ?_
      refine lv_goto (tgt := 37) hx hb dX9_takes_33 (by decide) ?_
      refine gm_put (v := .int 1) (ty := .boolean) (ci := 9) (C := RX9) (T := TX9) (N := 15) hx hb hts inX9 tyX9 tyX9_ok nmX9 hown hK.1 hR injM hS (a := 0) (by decide) rfl bM_0 rfl 10 (by decide) lk152 (fun _ h9 => h9) rfl (by decide +kernel) rfl rfl (Nat.le_of_ble_eq_true rfl) (j := 10) (x := 1) (by rw [bM_0]; rfl) dX9_takes_37 (fun H locs hR hS => ?_)
      obtain ⟨X4, eX4⟩ : ∃ Y : gM, Y = updM X 0 10 1 := ⟨_, rfl⟩
      rw [← eX4] at hR
      try replace hok := hok X4 eX4
      refine lv_aload_n hx hb dX9_takes_40 rfl (lv_at hl 0 rfl) ?_
      refine lv_dup hx hb dX9_takes_41 rfl ?_
      refine va_get (D := D) (ci := 9) (v := .int (X4 0 9)) (C := RX9) (T := TX9) (N := 15) hx hb hts inX9 hown hK.1 (MR.mk0 hR) 0 rfl rfl 9 (by decide) lk156 (fun _ h9 => h9) rfl dX9_takes_42 ?_
      refine lv_aload_n hx hb dX9_takes_45 rfl (lv_at hl 0 rfl) ?_
      refine va_get (D := D) (ci := 9) (v := .int (X4 0 10)) (C := RX9) (T := TX9) (N := 15) hx hb hts inX9 hown hK.1 (MR.mk0 hR) 0 rfl rfl 10 (by decide) lk152 (fun _ h9 => h9) rfl dX9_takes_46 ?_
      refine lv_if_eq (tgt := 56) hx hb dX9_takes_49 (by decide) (fun c_4 => ?_) (fun c_4 => ?_)
      · try rw [if_pos c_4] at hok
        refine lv_iconst (v := 1) hx hb dX9_takes_56 (by decide) ?_
        refine lv_iadd hx hb dX9_takes_57 ?_
        refine gm_put (v := .int ((X4 0 9) + 1)) (ty := .int) (ci := 9) (C := RX9) (T := TX9) (N := 15) hx hb hts inX9 tyX9 tyX9_ok nmX9 hown hK.1 hR injM hS (a := 0) (by decide) rfl bM_0 rfl 9 (by decide) lk156 (fun _ h9 => h9) rfl (by decide +kernel) rfl rfl (Nat.le_of_ble_eq_true rfl) (j := 9) (x := (X4 0 9) + 1) (by rw [bM_0]; rfl) dX9_takes_58 (fun H locs hR hS => ?_)
        obtain ⟨X5, eX5⟩ : ∃ Y : gM, Y = updM X4 0 9 ((X4 0 9) + 1) := ⟨_, rfl⟩
        rw [← eX5] at hR
        try replace hok := hok X5 eX5
        exact gm_vret hx hb hr hlocks hS (by (try simp only [p_X9_takes, ↓if_pos c_1, ↓if_pos c_3, ↓if_pos c_4, ← eX4, ← eX5]); exact hR) dX9_takes_61
      · try rw [if_neg c_4] at hok
        refine lv_iconst (v := 0) hx hb dX9_takes_52 (by decide) ?_
        refine lv_goto (tgt := 57) hx hb dX9_takes_53 (by decide) ?_
        refine lv_iadd hx hb dX9_takes_57 ?_
        refine gm_put (v := .int ((X4 0 9) + 0)) (ty := .int) (ci := 9) (C := RX9) (T := TX9) (N := 15) hx hb hts inX9 tyX9 tyX9_ok nmX9 hown hK.1 hR injM hS (a := 0) (by decide) rfl bM_0 rfl 9 (by decide) lk156 (fun _ h9 => h9) rfl (by decide +kernel) rfl rfl (Nat.le_of_ble_eq_true rfl) (j := 9) (x := (X4 0 9) + 0) (by rw [bM_0]; rfl) dX9_takes_58 (fun H locs hR hS => ?_)
        obtain ⟨X6, eX6⟩ : ∃ Y : gM, Y = updM X4 0 9 ((X4 0 9) + 0) := ⟨_, rfl⟩
        rw [← eX6] at hR
        try replace hok := hok X6 eX6
        exact gm_vret hx hb hr hlocks hS (by (try simp only [p_X9_takes, ↓if_pos c_1, ↓if_pos c_3, ↓if_neg c_4, ← eX4, ← eX6]); exact hR) dX9_takes_61
    · try rw [if_neg c_3] at hok
      refine lv_aload_n hx hb dX9_takes_19 rfl (lv_at hl 0 rfl) ?_
      refine va_get (D := D) (ci := 9) (v := .ref (μ + 5)) (C := RX9) (T := TX9) (N := 15) hx hb hts inX9 hown hK.1 (MR.mk0 hR) 0 rfl rfl 6 (by decide) lk22 (fun _ h9 => h9) rfl dX9_takes_20 ?_
      refine lv_aload_n hx hb dX9_takes_23 rfl (lv_at hl 0 rfl) ?_
      refine va_get (D := D) (ci := 9) (v := .int (X 0 9)) (C := RX9) (T := TX9) (N := 15) hx hb hts inX9 hown hK.1 (MR.mk0 hR) 0 rfl rfl 9 (by decide) lk156 (fun _ h9 => h9) rfl dX9_takes_24 ?_
      obtain ⟨h_5, hok⟩ := hok
      refine gm_cald hx hb hK.1 (MR.mk1 hR (c := 5) (by decide) bM_5) h_5 dX9_takes_27 ?_
      refine lv_iload_n hx hb dX9_takes_28 rfl (lv_at hl 1 rfl) ?_
      refine lv_icmp_eq (tgt := 36) hx hb dX9_takes_29 (by decide) (fun c_6 => ?_) (fun c_6 => ?_)
      · try rw [if_pos c_6] at hok
        refine lv_iconst (v := 0) hx hb dX9_takes_36 (by decide) ?_
        refine gm_put (v := .int 0) (ty := .boolean) (ci := 9) (C := RX9) (T := TX9) (N := 15) hx hb hts inX9 tyX9 tyX9_ok nmX9 hown hK.1 hR injM hS (a := 0) (by decide) rfl bM_0 rfl 10 (by decide) lk152 (fun _ h9 => h9) rfl (by decide +kernel) rfl rfl (Nat.le_of_ble_eq_true rfl) (j := 10) (x := 0) (by rw [bM_0]; rfl) dX9_takes_37 (fun H locs hR hS => ?_)
        obtain ⟨X7, eX7⟩ : ∃ Y : gM, Y = updM X 0 10 0 := ⟨_, rfl⟩
        rw [← eX7] at hR
        try replace hok := hok X7 eX7
        refine lv_aload_n hx hb dX9_takes_40 rfl (lv_at hl 0 rfl) ?_
        refine lv_dup hx hb dX9_takes_41 rfl ?_
        refine va_get (D := D) (ci := 9) (v := .int (X7 0 9)) (C := RX9) (T := TX9) (N := 15) hx hb hts inX9 hown hK.1 (MR.mk0 hR) 0 rfl rfl 9 (by decide) lk156 (fun _ h9 => h9) rfl dX9_takes_42 ?_
        refine lv_aload_n hx hb dX9_takes_45 rfl (lv_at hl 0 rfl) ?_
        refine va_get (D := D) (ci := 9) (v := .int (X7 0 10)) (C := RX9) (T := TX9) (N := 15) hx hb hts inX9 hown hK.1 (MR.mk0 hR) 0 rfl rfl 10 (by decide) lk152 (fun _ h9 => h9) rfl dX9_takes_46 ?_
        refine lv_if_eq (tgt := 56) hx hb dX9_takes_49 (by decide) (fun c_7 => ?_) (fun c_7 => ?_)
        · try rw [if_pos c_7] at hok
          refine lv_iconst (v := 1) hx hb dX9_takes_56 (by decide) ?_
          refine lv_iadd hx hb dX9_takes_57 ?_
          refine gm_put (v := .int ((X7 0 9) + 1)) (ty := .int) (ci := 9) (C := RX9) (T := TX9) (N := 15) hx hb hts inX9 tyX9 tyX9_ok nmX9 hown hK.1 hR injM hS (a := 0) (by decide) rfl bM_0 rfl 9 (by decide) lk156 (fun _ h9 => h9) rfl (by decide +kernel) rfl rfl (Nat.le_of_ble_eq_true rfl) (j := 9) (x := (X7 0 9) + 1) (by rw [bM_0]; rfl) dX9_takes_58 (fun H locs hR hS => ?_)
          obtain ⟨X8, eX8⟩ : ∃ Y : gM, Y = updM X7 0 9 ((X7 0 9) + 1) := ⟨_, rfl⟩
          rw [← eX8] at hR
          try replace hok := hok X8 eX8
          exact gm_vret hx hb hr hlocks hS (by (try simp only [p_X9_takes, ↓if_pos c_1, ↓if_neg c_3, ↓if_pos c_6, ↓if_pos c_7, ← eX7, ← eX8]); exact hR) dX9_takes_61
        · try rw [if_neg c_7] at hok
          refine lv_iconst (v := 0) hx hb dX9_takes_52 (by decide) ?_
          refine lv_goto (tgt := 57) hx hb dX9_takes_53 (by decide) ?_
          refine lv_iadd hx hb dX9_takes_57 ?_
          refine gm_put (v := .int ((X7 0 9) + 0)) (ty := .int) (ci := 9) (C := RX9) (T := TX9) (N := 15) hx hb hts inX9 tyX9 tyX9_ok nmX9 hown hK.1 hR injM hS (a := 0) (by decide) rfl bM_0 rfl 9 (by decide) lk156 (fun _ h9 => h9) rfl (by decide +kernel) rfl rfl (Nat.le_of_ble_eq_true rfl) (j := 9) (x := (X7 0 9) + 0) (by rw [bM_0]; rfl) dX9_takes_58 (fun H locs hR hS => ?_)
          obtain ⟨X9, eX9⟩ : ∃ Y : gM, Y = updM X7 0 9 ((X7 0 9) + 0) := ⟨_, rfl⟩
          rw [← eX9] at hR
          try replace hok := hok X9 eX9
          exact gm_vret hx hb hr hlocks hS (by (try simp only [p_X9_takes, ↓if_pos c_1, ↓if_neg c_3, ↓if_pos c_6, ↓if_neg c_7, ← eX7, ← eX9]); exact hR) dX9_takes_61
      · try rw [if_neg c_6] at hok
        refine lv_iconst (v := 1) hx hb dX9_takes_32 (by decide) ?_
        refine lv_goto (tgt := 37) hx hb dX9_takes_33 (by decide) ?_
        refine gm_put (v := .int 1) (ty := .boolean) (ci := 9) (C := RX9) (T := TX9) (N := 15) hx hb hts inX9 tyX9 tyX9_ok nmX9 hown hK.1 hR injM hS (a := 0) (by decide) rfl bM_0 rfl 10 (by decide) lk152 (fun _ h9 => h9) rfl (by decide +kernel) rfl rfl (Nat.le_of_ble_eq_true rfl) (j := 10) (x := 1) (by rw [bM_0]; rfl) dX9_takes_37 (fun H locs hR hS => ?_)
        obtain ⟨X10, eX10⟩ : ∃ Y : gM, Y = updM X 0 10 1 := ⟨_, rfl⟩
        rw [← eX10] at hR
        try replace hok := hok X10 eX10
        refine lv_aload_n hx hb dX9_takes_40 rfl (lv_at hl 0 rfl) ?_
        refine lv_dup hx hb dX9_takes_41 rfl ?_
        refine va_get (D := D) (ci := 9) (v := .int (X10 0 9)) (C := RX9) (T := TX9) (N := 15) hx hb hts inX9 hown hK.1 (MR.mk0 hR) 0 rfl rfl 9 (by decide) lk156 (fun _ h9 => h9) rfl dX9_takes_42 ?_
        refine lv_aload_n hx hb dX9_takes_45 rfl (lv_at hl 0 rfl) ?_
        refine va_get (D := D) (ci := 9) (v := .int (X10 0 10)) (C := RX9) (T := TX9) (N := 15) hx hb hts inX9 hown hK.1 (MR.mk0 hR) 0 rfl rfl 10 (by decide) lk152 (fun _ h9 => h9) rfl dX9_takes_46 ?_
        refine lv_if_eq (tgt := 56) hx hb dX9_takes_49 (by decide) (fun c_8 => ?_) (fun c_8 => ?_)
        · try rw [if_pos c_8] at hok
          refine lv_iconst (v := 1) hx hb dX9_takes_56 (by decide) ?_
          refine lv_iadd hx hb dX9_takes_57 ?_
          refine gm_put (v := .int ((X10 0 9) + 1)) (ty := .int) (ci := 9) (C := RX9) (T := TX9) (N := 15) hx hb hts inX9 tyX9 tyX9_ok nmX9 hown hK.1 hR injM hS (a := 0) (by decide) rfl bM_0 rfl 9 (by decide) lk156 (fun _ h9 => h9) rfl (by decide +kernel) rfl rfl (Nat.le_of_ble_eq_true rfl) (j := 9) (x := (X10 0 9) + 1) (by rw [bM_0]; rfl) dX9_takes_58 (fun H locs hR hS => ?_)
          obtain ⟨X11, eX11⟩ : ∃ Y : gM, Y = updM X10 0 9 ((X10 0 9) + 1) := ⟨_, rfl⟩
          rw [← eX11] at hR
          try replace hok := hok X11 eX11
          exact gm_vret hx hb hr hlocks hS (by (try simp only [p_X9_takes, ↓if_pos c_1, ↓if_neg c_3, ↓if_neg c_6, ↓if_pos c_8, ← eX10, ← eX11]); exact hR) dX9_takes_61
        · try rw [if_neg c_8] at hok
          refine lv_iconst (v := 0) hx hb dX9_takes_52 (by decide) ?_
          refine lv_goto (tgt := 57) hx hb dX9_takes_53 (by decide) ?_
          refine lv_iadd hx hb dX9_takes_57 ?_
          refine gm_put (v := .int ((X10 0 9) + 0)) (ty := .int) (ci := 9) (C := RX9) (T := TX9) (N := 15) hx hb hts inX9 tyX9 tyX9_ok nmX9 hown hK.1 hR injM hS (a := 0) (by decide) rfl bM_0 rfl 9 (by decide) lk156 (fun _ h9 => h9) rfl (by decide +kernel) rfl rfl (Nat.le_of_ble_eq_true rfl) (j := 9) (x := (X10 0 9) + 0) (by rw [bM_0]; rfl) dX9_takes_58 (fun H locs hR hS => ?_)
          obtain ⟨X12, eX12⟩ : ∃ Y : gM, Y = updM X10 0 9 ((X10 0 9) + 0) := ⟨_, rfl⟩
          rw [← eX12] at hR
          try replace hok := hok X12 eX12
          exact gm_vret hx hb hr hlocks hS (by (try simp only [p_X9_takes, ↓if_pos c_1, ↓if_neg c_3, ↓if_neg c_6, ↓if_neg c_8, ← eX10, ← eX12]); exact hR) dX9_takes_61
def p_X9_digit (X : gM) (a1 : Int32) (a2 : Int32) : Int32 × gM :=
  if X 0 7 ≤ X 0 9 then
    if X 0 10 = 0 then
      if f_X9_in (-5) a1 a2 = 0 then
        let X7 := updM X 0 10 1
        if X7 0 10 = 0 then
          let X8 := updM X7 0 9 ((X7 0 9) + 1)
          if X8 0 10 = 0 then
            ((-5), X8)
          else
            (0, X8)
        else
          let X9 := updM X7 0 9 ((X7 0 9) + 0)
          if X9 0 10 = 0 then
            ((-5), X9)
          else
            (0, X9)
      else
        let X4 := updM X 0 10 0
        if X4 0 10 = 0 then
          let X5 := updM X4 0 9 ((X4 0 9) + 1)
          if X5 0 10 = 0 then
            ((-5), X5)
          else
            (0, X5)
        else
          let X6 := updM X4 0 9 ((X4 0 9) + 0)
          if X6 0 10 = 0 then
            ((-5), X6)
          else
            (0, X6)
    else
      let X1 := updM X 0 10 1
      if X1 0 10 = 0 then
        let X2 := updM X1 0 9 ((X1 0 9) + 1)
        if X2 0 10 = 0 then
          ((-5), X2)
        else
          (0, X2)
      else
        let X3 := updM X1 0 9 ((X1 0 9) + 0)
        if X3 0 10 = 0 then
          ((-5), X3)
        else
          (0, X3)
  else
    if X 0 10 = 0 then
      if f_X9_in ((X 5 ((X 0 9).toNatClampNeg)) - 48) a1 a2 = 0 then
        let X16 := updM X 0 10 1
        if X16 0 10 = 0 then
          let X17 := updM X16 0 9 ((X16 0 9) + 1)
          if X17 0 10 = 0 then
            ((X 5 ((X 0 9).toNatClampNeg)) - 48, X17)
          else
            (0, X17)
        else
          let X18 := updM X16 0 9 ((X16 0 9) + 0)
          if X18 0 10 = 0 then
            ((X 5 ((X 0 9).toNatClampNeg)) - 48, X18)
          else
            (0, X18)
      else
        let X13 := updM X 0 10 0
        if X13 0 10 = 0 then
          let X14 := updM X13 0 9 ((X13 0 9) + 1)
          if X14 0 10 = 0 then
            ((X 5 ((X 0 9).toNatClampNeg)) - 48, X14)
          else
            (0, X14)
        else
          let X15 := updM X13 0 9 ((X13 0 9) + 0)
          if X15 0 10 = 0 then
            ((X 5 ((X 0 9).toNatClampNeg)) - 48, X15)
          else
            (0, X15)
    else
      let X10 := updM X 0 10 1
      if X10 0 10 = 0 then
        let X11 := updM X10 0 9 ((X10 0 9) + 1)
        if X11 0 10 = 0 then
          ((X 5 ((X 0 9).toNatClampNeg)) - 48, X11)
        else
          (0, X11)
      else
        let X12 := updM X10 0 9 ((X10 0 9) + 0)
        if X12 0 10 = 0 then
          ((X 5 ((X 0 9).toNatClampNeg)) - 48, X12)
        else
          (0, X12)
def ok_X9_digit (X : gM) (a1 : Int32) (a2 : Int32) : Prop :=
  (if X 0 7 ≤ X 0 9 then
    True
  else
    (vp_in (X 0 9) 60) ∧
    True)
set_option maxHeartbeats 4000000 in
set_option maxRecDepth 100000 in
theorem c_X9_digit (l : Launch) (D : va_G) (cy : Nat → ClassId) (μ : Nat) (X : gM) (a1 : Int32) (a2 : Int32)  (hok : ok_X9_digit X a1 a2) : Met l yX9_digit wsX9_digit ({ frames := 1, cells := 0, slots := 0, locals := 22 }) (gP [.ref μ, .int a1, .int a2] D cy (MR D cy μ X)) (gQi (p_X9_digit X a1 a2).1 (MR D cy μ (p_X9_digit X a1 a2).2) (MA μ)) 0 0 (MA μ) := by
  refine gm_met (cc := cX9_digit) (maxL := 4) (ret := (some .int)) [.ref μ, .int a1, .int a2] (by decide) rfl (Nat.le_of_ble_eq_true rfl) ?_
  intro p e s m args below meth c0 ls C hR hl
  obtain ⟨hx, hb, hr, hts, hown, hlocks, hml, hK⟩ := C
  have hl : lv_has ls 4 [(0, .ref μ), (1, .int a1), (2, .int a2)] := hl
  have hS : va_S (MA μ) s.heap s.heap [] := va_S.rf
  have lk156 := hts (.fieldLink RX9 156 "MercuryLineModel" "at" "I") (by decide +kernel)
  have inX9 : ∀ w ∈ u_ws RX9 TX9 15, w ∈ wsX9_digit := by decide +kernel
  have lk149 := hts (.fieldLink RX9 149 "MercuryLineModel" "length" "I") (by decide +kernel)
  have lk152 := hts (.fieldLink RX9 152 "MercuryLineModel" "isWrong" "Z") (by decide +kernel)
  have lk22 := hts (.fieldLink RX9 22 "MercuryLineModel" "text" "[C") (by decide +kernel)
  unfold ok_X9_digit at hok
  refine lv_aload_n hx hb dX9_digit_0 rfl (lv_at hl 0 rfl) ?_
  refine va_get (D := D) (ci := 9) (v := .int (X 0 9)) (C := RX9) (T := TX9) (N := 15) hx hb hts inX9 hown hK.1 (MR.mk0 hR) 0 rfl rfl 9 (by decide) lk156 (fun _ h9 => h9) rfl dX9_digit_1 ?_
  refine lv_aload_n hx hb dX9_digit_4 rfl (lv_at hl 0 rfl) ?_
  refine va_get (D := D) (ci := 9) (v := .int (X 0 7)) (C := RX9) (T := TX9) (N := 15) hx hb hts inX9 hown hK.1 (MR.mk0 hR) 0 rfl rfl 7 (by decide) lk149 (fun _ h9 => h9) rfl dX9_digit_5 ?_
  refine lv_icmp_ge (tgt := 26) hx hb dX9_digit_8 (by decide) (fun c_1 => ?_) (fun c_1 => ?_)
  · try rw [if_pos c_1] at hok
    refine lv_bipush (v := (-5)) hx hb dX9_digit_26 (by decide) ?_
    refine lv_istore_n (lv' := [(3, .int (-5)), (0, .ref μ), (1, .int a1), (2, .int a2)]) hx hb dX9_digit_28 rfl hl (by decide) rfl (fun ls hl => ?_)
    refine lv_aload_n hx hb dX9_digit_29 rfl (lv_at hl 1 rfl) ?_
    refine lv_aload_n hx hb dX9_digit_30 rfl (lv_at hl 1 rfl) ?_
    refine va_get (D := D) (ci := 9) (v := .int (X 0 10)) (C := RX9) (T := TX9) (N := 15) hx hb hts inX9 hown hK.1 (MR.mk0 hR) 0 rfl rfl 10 (by decide) lk152 (fun _ h9 => h9) rfl dX9_digit_31 ?_
    refine lv_if_ne (tgt := 46) hx hb dX9_digit_34 (by decide) (fun c_2 => ?_) (fun c_2 => ?_)
    · try rw [if_neg c_2] at hok
      refine lv_iconst (v := 1) hx hb dX9_digit_46 (by decide) ?_
      refine lv_goto (tgt := 51) hx hb dX9_digit_47 (by decide) ?_
      refine gm_put (v := .int 1) (ty := .boolean) (ci := 9) (C := RX9) (T := TX9) (N := 15) hx hb hts inX9 tyX9 tyX9_ok nmX9 hown hK.1 hR injM hS (a := 0) (by decide) rfl bM_0 rfl 10 (by decide) lk152 (fun _ h9 => h9) rfl (by decide +kernel) rfl rfl (Nat.le_of_ble_eq_true rfl) (j := 10) (x := 1) (by rw [bM_0]; rfl) dX9_digit_51 (fun H locs hR hS => ?_)
      obtain ⟨X1, eX1⟩ : ∃ Y : gM, Y = updM X 0 10 1 := ⟨_, rfl⟩
      rw [← eX1] at hR
      try replace hok := hok X1 eX1
      refine lv_aload_n hx hb dX9_digit_54 rfl (lv_at hl 1 rfl) ?_
      refine lv_dup hx hb dX9_digit_55 rfl ?_
      refine va_get (D := D) (ci := 9) (v := .int (X1 0 9)) (C := RX9) (T := TX9) (N := 15) hx hb hts inX9 hown hK.1 (MR.mk0 hR) 0 rfl rfl 9 (by decide) lk156 (fun _ h9 => h9) rfl dX9_digit_56 ?_
      refine lv_aload_n hx hb dX9_digit_59 rfl (lv_at hl 1 rfl) ?_
      refine va_get (D := D) (ci := 9) (v := .int (X1 0 10)) (C := RX9) (T := TX9) (N := 15) hx hb hts inX9 hown hK.1 (MR.mk0 hR) 0 rfl rfl 10 (by decide) lk152 (fun _ h9 => h9) rfl dX9_digit_60 ?_
      refine lv_if_eq (tgt := 70) hx hb dX9_digit_63 (by decide) (fun c_3 => ?_) (fun c_3 => ?_)
      · try rw [if_pos c_3] at hok
        refine lv_iconst (v := 1) hx hb dX9_digit_70 (by decide) ?_
        refine lv_iadd hx hb dX9_digit_71 ?_
        refine gm_put (v := .int ((X1 0 9) + 1)) (ty := .int) (ci := 9) (C := RX9) (T := TX9) (N := 15) hx hb hts inX9 tyX9 tyX9_ok nmX9 hown hK.1 hR injM hS (a := 0) (by decide) rfl bM_0 rfl 9 (by decide) lk156 (fun _ h9 => h9) rfl (by decide +kernel) rfl rfl (Nat.le_of_ble_eq_true rfl) (j := 9) (x := (X1 0 9) + 1) (by rw [bM_0]; rfl) dX9_digit_72 (fun H locs hR hS => ?_)
        obtain ⟨X2, eX2⟩ : ∃ Y : gM, Y = updM X1 0 9 ((X1 0 9) + 1) := ⟨_, rfl⟩
        rw [← eX2] at hR
        try replace hok := hok X2 eX2
        refine lv_aload_n hx hb dX9_digit_75 rfl (lv_at hl 1 rfl) ?_
        refine va_get (D := D) (ci := 9) (v := .int (X2 0 10)) (C := RX9) (T := TX9) (N := 15) hx hb hts inX9 hown hK.1 (MR.mk0 hR) 0 rfl rfl 10 (by decide) lk152 (fun _ h9 => h9) rfl dX9_digit_76 ?_
        refine lv_if_eq (tgt := 86) hx hb dX9_digit_79 (by decide) (fun c_4 => ?_) (fun c_4 => ?_)
        · try rw [if_pos c_4] at hok
          refine lv_iload_n hx hb dX9_digit_86 rfl (lv_at hl 0 rfl) ?_
          exact gm_iret hx hb hr hlocks hS (by (try simp only [p_X9_digit, ↓if_pos c_1, ↓if_neg c_2, ↓if_pos c_3, ↓if_pos c_4, ← eX1, ← eX2]); (try rfl)) (by (try simp only [p_X9_digit, ↓if_pos c_1, ↓if_neg c_2, ↓if_pos c_3, ↓if_pos c_4, ← eX1, ← eX2]); exact hR) dX9_digit_87
        · try rw [if_neg c_4] at hok
          refine lv_iconst (v := 0) hx hb dX9_digit_82 (by decide) ?_
          refine lv_goto (tgt := 87) hx hb dX9_digit_83 (by decide) ?_
          exact gm_iret hx hb hr hlocks hS (by (try simp only [p_X9_digit, ↓if_pos c_1, ↓if_neg c_2, ↓if_pos c_3, ↓if_neg c_4, ← eX1, ← eX2]); (try rfl)) (by (try simp only [p_X9_digit, ↓if_pos c_1, ↓if_neg c_2, ↓if_pos c_3, ↓if_neg c_4, ← eX1, ← eX2]); exact hR) dX9_digit_87
      · try rw [if_neg c_3] at hok
        refine lv_iconst (v := 0) hx hb dX9_digit_66 (by decide) ?_
        refine lv_goto (tgt := 71) hx hb dX9_digit_67 (by decide) ?_
        refine lv_iadd hx hb dX9_digit_71 ?_
        refine gm_put (v := .int ((X1 0 9) + 0)) (ty := .int) (ci := 9) (C := RX9) (T := TX9) (N := 15) hx hb hts inX9 tyX9 tyX9_ok nmX9 hown hK.1 hR injM hS (a := 0) (by decide) rfl bM_0 rfl 9 (by decide) lk156 (fun _ h9 => h9) rfl (by decide +kernel) rfl rfl (Nat.le_of_ble_eq_true rfl) (j := 9) (x := (X1 0 9) + 0) (by rw [bM_0]; rfl) dX9_digit_72 (fun H locs hR hS => ?_)
        obtain ⟨X3, eX3⟩ : ∃ Y : gM, Y = updM X1 0 9 ((X1 0 9) + 0) := ⟨_, rfl⟩
        rw [← eX3] at hR
        try replace hok := hok X3 eX3
        refine lv_aload_n hx hb dX9_digit_75 rfl (lv_at hl 1 rfl) ?_
        refine va_get (D := D) (ci := 9) (v := .int (X3 0 10)) (C := RX9) (T := TX9) (N := 15) hx hb hts inX9 hown hK.1 (MR.mk0 hR) 0 rfl rfl 10 (by decide) lk152 (fun _ h9 => h9) rfl dX9_digit_76 ?_
        refine lv_if_eq (tgt := 86) hx hb dX9_digit_79 (by decide) (fun c_5 => ?_) (fun c_5 => ?_)
        · try rw [if_pos c_5] at hok
          refine lv_iload_n hx hb dX9_digit_86 rfl (lv_at hl 0 rfl) ?_
          exact gm_iret hx hb hr hlocks hS (by (try simp only [p_X9_digit, ↓if_pos c_1, ↓if_neg c_2, ↓if_neg c_3, ↓if_pos c_5, ← eX1, ← eX3]); (try rfl)) (by (try simp only [p_X9_digit, ↓if_pos c_1, ↓if_neg c_2, ↓if_neg c_3, ↓if_pos c_5, ← eX1, ← eX3]); exact hR) dX9_digit_87
        · try rw [if_neg c_5] at hok
          refine lv_iconst (v := 0) hx hb dX9_digit_82 (by decide) ?_
          refine lv_goto (tgt := 87) hx hb dX9_digit_83 (by decide) ?_
          exact gm_iret hx hb hr hlocks hS (by (try simp only [p_X9_digit, ↓if_pos c_1, ↓if_neg c_2, ↓if_neg c_3, ↓if_neg c_5, ← eX1, ← eX3]); (try rfl)) (by (try simp only [p_X9_digit, ↓if_pos c_1, ↓if_neg c_2, ↓if_neg c_3, ↓if_neg c_5, ← eX1, ← eX3]); exact hR) dX9_digit_87
    · try rw [if_pos c_2] at hok
      refine lv_iload_n hx hb dX9_digit_37 rfl (lv_at hl 0 rfl) ?_
      refine lv_iload_n hx hb dX9_digit_38 rfl (lv_at hl 2 rfl) ?_
      refine lv_iload_n hx hb dX9_digit_39 rfl (lv_at hl 3 rfl) ?_
      refine gm_ci (gm_callS (As := [.int (-5), .int a1, .int a2]) (rest := [.ref μ]) ⟨hx, hb, hml, hown, hts⟩ hK (c_X9_in l D cy (-5) a1 a2) (va_cwS 3 hts gX9_digit_X9_in rfl rfl rfl (by decide +kernel) ⟨Nat.le_of_ble_eq_true rfl, Nat.le_of_ble_eq_true rfl⟩) trivial rfl hl.1 rfl (Nat.le_of_ble_eq_true rfl) dX9_digit_40 (Nat.zero_le _) (Nat.zero_le _)) hS (fun _ h => h.elim) (fun H locs _ _ hfr hS => ?_)
      have hR := gRep.keep hR hfr (fun _ _ h => h)
      refine lv_if_ne (tgt := 50) hx hb dX9_digit_43 (by decide) (fun c_6 => ?_) (fun c_6 => ?_)
      · try rw [if_neg c_6] at hok
        refine lv_iconst (v := 0) hx hb dX9_digit_50 (by decide) ?_
        refine gm_put (v := .int 0) (ty := .boolean) (ci := 9) (C := RX9) (T := TX9) (N := 15) hx hb hts inX9 tyX9 tyX9_ok nmX9 hown hK.1 hR injM hS (a := 0) (by decide) rfl bM_0 rfl 10 (by decide) lk152 (fun _ h9 => h9) rfl (by decide +kernel) rfl rfl (Nat.le_of_ble_eq_true rfl) (j := 10) (x := 0) (by rw [bM_0]; rfl) dX9_digit_51 (fun H locs hR hS => ?_)
        obtain ⟨X4, eX4⟩ : ∃ Y : gM, Y = updM X 0 10 0 := ⟨_, rfl⟩
        rw [← eX4] at hR
        try replace hok := hok X4 eX4
        refine lv_aload_n hx hb dX9_digit_54 rfl (lv_at hl 1 rfl) ?_
        refine lv_dup hx hb dX9_digit_55 rfl ?_
        refine va_get (D := D) (ci := 9) (v := .int (X4 0 9)) (C := RX9) (T := TX9) (N := 15) hx hb hts inX9 hown hK.1 (MR.mk0 hR) 0 rfl rfl 9 (by decide) lk156 (fun _ h9 => h9) rfl dX9_digit_56 ?_
        refine lv_aload_n hx hb dX9_digit_59 rfl (lv_at hl 1 rfl) ?_
        refine va_get (D := D) (ci := 9) (v := .int (X4 0 10)) (C := RX9) (T := TX9) (N := 15) hx hb hts inX9 hown hK.1 (MR.mk0 hR) 0 rfl rfl 10 (by decide) lk152 (fun _ h9 => h9) rfl dX9_digit_60 ?_
        refine lv_if_eq (tgt := 70) hx hb dX9_digit_63 (by decide) (fun c_7 => ?_) (fun c_7 => ?_)
        · try rw [if_pos c_7] at hok
          refine lv_iconst (v := 1) hx hb dX9_digit_70 (by decide) ?_
          refine lv_iadd hx hb dX9_digit_71 ?_
          refine gm_put (v := .int ((X4 0 9) + 1)) (ty := .int) (ci := 9) (C := RX9) (T := TX9) (N := 15) hx hb hts inX9 tyX9 tyX9_ok nmX9 hown hK.1 hR injM hS (a := 0) (by decide) rfl bM_0 rfl 9 (by decide) lk156 (fun _ h9 => h9) rfl (by decide +kernel) rfl rfl (Nat.le_of_ble_eq_true rfl) (j := 9) (x := (X4 0 9) + 1) (by rw [bM_0]; rfl) dX9_digit_72 (fun H locs hR hS => ?_)
          obtain ⟨X5, eX5⟩ : ∃ Y : gM, Y = updM X4 0 9 ((X4 0 9) + 1) := ⟨_, rfl⟩
          rw [← eX5] at hR
          try replace hok := hok X5 eX5
          refine lv_aload_n hx hb dX9_digit_75 rfl (lv_at hl 1 rfl) ?_
          refine va_get (D := D) (ci := 9) (v := .int (X5 0 10)) (C := RX9) (T := TX9) (N := 15) hx hb hts inX9 hown hK.1 (MR.mk0 hR) 0 rfl rfl 10 (by decide) lk152 (fun _ h9 => h9) rfl dX9_digit_76 ?_
          refine lv_if_eq (tgt := 86) hx hb dX9_digit_79 (by decide) (fun c_8 => ?_) (fun c_8 => ?_)
          · try rw [if_pos c_8] at hok
            refine lv_iload_n hx hb dX9_digit_86 rfl (lv_at hl 0 rfl) ?_
            exact gm_iret hx hb hr hlocks hS (by (try simp only [p_X9_digit, ↓if_pos c_1, ↓if_pos c_2, ↓if_neg c_6, ↓if_pos c_7, ↓if_pos c_8, ← eX4, ← eX5]); (try rfl)) (by (try simp only [p_X9_digit, ↓if_pos c_1, ↓if_pos c_2, ↓if_neg c_6, ↓if_pos c_7, ↓if_pos c_8, ← eX4, ← eX5]); exact hR) dX9_digit_87
          · try rw [if_neg c_8] at hok
            refine lv_iconst (v := 0) hx hb dX9_digit_82 (by decide) ?_
            refine lv_goto (tgt := 87) hx hb dX9_digit_83 (by decide) ?_
            exact gm_iret hx hb hr hlocks hS (by (try simp only [p_X9_digit, ↓if_pos c_1, ↓if_pos c_2, ↓if_neg c_6, ↓if_pos c_7, ↓if_neg c_8, ← eX4, ← eX5]); (try rfl)) (by (try simp only [p_X9_digit, ↓if_pos c_1, ↓if_pos c_2, ↓if_neg c_6, ↓if_pos c_7, ↓if_neg c_8, ← eX4, ← eX5]); exact hR) dX9_digit_87
        · try rw [if_neg c_7] at hok
          refine lv_iconst (v := 0) hx hb dX9_digit_66 (by decide) ?_
          refine lv_goto (tgt := 71) hx hb dX9_digit_67 (by decide) ?_
          refine lv_iadd hx hb dX9_digit_71 ?_
          refine gm_put (v := .int ((X4 0 9) + 0)) (ty := .int) (ci := 9) (C := RX9) (T := TX9) (N := 15) hx hb hts inX9 tyX9 tyX9_ok nmX9 hown hK.1 hR injM hS (a := 0) (by decide) rfl bM_0 rfl 9 (by decide) lk156 (fun _ h9 => h9) rfl (by decide +kernel) rfl rfl (Nat.le_of_ble_eq_true rfl) (j := 9) (x := (X4 0 9) + 0) (by rw [bM_0]; rfl) dX9_digit_72 (fun H locs hR hS => ?_)
          obtain ⟨X6, eX6⟩ : ∃ Y : gM, Y = updM X4 0 9 ((X4 0 9) + 0) := ⟨_, rfl⟩
          rw [← eX6] at hR
          try replace hok := hok X6 eX6
          refine lv_aload_n hx hb dX9_digit_75 rfl (lv_at hl 1 rfl) ?_
          refine va_get (D := D) (ci := 9) (v := .int (X6 0 10)) (C := RX9) (T := TX9) (N := 15) hx hb hts inX9 hown hK.1 (MR.mk0 hR) 0 rfl rfl 10 (by decide) lk152 (fun _ h9 => h9) rfl dX9_digit_76 ?_
          refine lv_if_eq (tgt := 86) hx hb dX9_digit_79 (by decide) (fun c_9 => ?_) (fun c_9 => ?_)
          · try rw [if_pos c_9] at hok
            refine lv_iload_n hx hb dX9_digit_86 rfl (lv_at hl 0 rfl) ?_
            exact gm_iret hx hb hr hlocks hS (by (try simp only [p_X9_digit, ↓if_pos c_1, ↓if_pos c_2, ↓if_neg c_6, ↓if_neg c_7, ↓if_pos c_9, ← eX4, ← eX6]); (try rfl)) (by (try simp only [p_X9_digit, ↓if_pos c_1, ↓if_pos c_2, ↓if_neg c_6, ↓if_neg c_7, ↓if_pos c_9, ← eX4, ← eX6]); exact hR) dX9_digit_87
          · try rw [if_neg c_9] at hok
            refine lv_iconst (v := 0) hx hb dX9_digit_82 (by decide) ?_
            refine lv_goto (tgt := 87) hx hb dX9_digit_83 (by decide) ?_
            exact gm_iret hx hb hr hlocks hS (by (try simp only [p_X9_digit, ↓if_pos c_1, ↓if_pos c_2, ↓if_neg c_6, ↓if_neg c_7, ↓if_neg c_9, ← eX4, ← eX6]); (try rfl)) (by (try simp only [p_X9_digit, ↓if_pos c_1, ↓if_pos c_2, ↓if_neg c_6, ↓if_neg c_7, ↓if_neg c_9, ← eX4, ← eX6]); exact hR) dX9_digit_87
      · try rw [if_pos c_6] at hok
        refine lv_iconst (v := 1) hx hb dX9_digit_46 (by decide) ?_
        refine lv_goto (tgt := 51) hx hb dX9_digit_47 (by decide) ?_
        refine gm_put (v := .int 1) (ty := .boolean) (ci := 9) (C := RX9) (T := TX9) (N := 15) hx hb hts inX9 tyX9 tyX9_ok nmX9 hown hK.1 hR injM hS (a := 0) (by decide) rfl bM_0 rfl 10 (by decide) lk152 (fun _ h9 => h9) rfl (by decide +kernel) rfl rfl (Nat.le_of_ble_eq_true rfl) (j := 10) (x := 1) (by rw [bM_0]; rfl) dX9_digit_51 (fun H locs hR hS => ?_)
        obtain ⟨X7, eX7⟩ : ∃ Y : gM, Y = updM X 0 10 1 := ⟨_, rfl⟩
        rw [← eX7] at hR
        try replace hok := hok X7 eX7
        refine lv_aload_n hx hb dX9_digit_54 rfl (lv_at hl 1 rfl) ?_
        refine lv_dup hx hb dX9_digit_55 rfl ?_
        refine va_get (D := D) (ci := 9) (v := .int (X7 0 9)) (C := RX9) (T := TX9) (N := 15) hx hb hts inX9 hown hK.1 (MR.mk0 hR) 0 rfl rfl 9 (by decide) lk156 (fun _ h9 => h9) rfl dX9_digit_56 ?_
        refine lv_aload_n hx hb dX9_digit_59 rfl (lv_at hl 1 rfl) ?_
        refine va_get (D := D) (ci := 9) (v := .int (X7 0 10)) (C := RX9) (T := TX9) (N := 15) hx hb hts inX9 hown hK.1 (MR.mk0 hR) 0 rfl rfl 10 (by decide) lk152 (fun _ h9 => h9) rfl dX9_digit_60 ?_
        refine lv_if_eq (tgt := 70) hx hb dX9_digit_63 (by decide) (fun c_10 => ?_) (fun c_10 => ?_)
        · try rw [if_pos c_10] at hok
          refine lv_iconst (v := 1) hx hb dX9_digit_70 (by decide) ?_
          refine lv_iadd hx hb dX9_digit_71 ?_
          refine gm_put (v := .int ((X7 0 9) + 1)) (ty := .int) (ci := 9) (C := RX9) (T := TX9) (N := 15) hx hb hts inX9 tyX9 tyX9_ok nmX9 hown hK.1 hR injM hS (a := 0) (by decide) rfl bM_0 rfl 9 (by decide) lk156 (fun _ h9 => h9) rfl (by decide +kernel) rfl rfl (Nat.le_of_ble_eq_true rfl) (j := 9) (x := (X7 0 9) + 1) (by rw [bM_0]; rfl) dX9_digit_72 (fun H locs hR hS => ?_)
          obtain ⟨X8, eX8⟩ : ∃ Y : gM, Y = updM X7 0 9 ((X7 0 9) + 1) := ⟨_, rfl⟩
          rw [← eX8] at hR
          try replace hok := hok X8 eX8
          refine lv_aload_n hx hb dX9_digit_75 rfl (lv_at hl 1 rfl) ?_
          refine va_get (D := D) (ci := 9) (v := .int (X8 0 10)) (C := RX9) (T := TX9) (N := 15) hx hb hts inX9 hown hK.1 (MR.mk0 hR) 0 rfl rfl 10 (by decide) lk152 (fun _ h9 => h9) rfl dX9_digit_76 ?_
          refine lv_if_eq (tgt := 86) hx hb dX9_digit_79 (by decide) (fun c_11 => ?_) (fun c_11 => ?_)
          · try rw [if_pos c_11] at hok
            refine lv_iload_n hx hb dX9_digit_86 rfl (lv_at hl 0 rfl) ?_
            exact gm_iret hx hb hr hlocks hS (by (try simp only [p_X9_digit, ↓if_pos c_1, ↓if_pos c_2, ↓if_pos c_6, ↓if_pos c_10, ↓if_pos c_11, ← eX7, ← eX8]); (try rfl)) (by (try simp only [p_X9_digit, ↓if_pos c_1, ↓if_pos c_2, ↓if_pos c_6, ↓if_pos c_10, ↓if_pos c_11, ← eX7, ← eX8]); exact hR) dX9_digit_87
          · try rw [if_neg c_11] at hok
            refine lv_iconst (v := 0) hx hb dX9_digit_82 (by decide) ?_
            refine lv_goto (tgt := 87) hx hb dX9_digit_83 (by decide) ?_
            exact gm_iret hx hb hr hlocks hS (by (try simp only [p_X9_digit, ↓if_pos c_1, ↓if_pos c_2, ↓if_pos c_6, ↓if_pos c_10, ↓if_neg c_11, ← eX7, ← eX8]); (try rfl)) (by (try simp only [p_X9_digit, ↓if_pos c_1, ↓if_pos c_2, ↓if_pos c_6, ↓if_pos c_10, ↓if_neg c_11, ← eX7, ← eX8]); exact hR) dX9_digit_87
        · try rw [if_neg c_10] at hok
          refine lv_iconst (v := 0) hx hb dX9_digit_66 (by decide) ?_
          refine lv_goto (tgt := 71) hx hb dX9_digit_67 (by decide) ?_
          refine lv_iadd hx hb dX9_digit_71 ?_
          refine gm_put (v := .int ((X7 0 9) + 0)) (ty := .int) (ci := 9) (C := RX9) (T := TX9) (N := 15) hx hb hts inX9 tyX9 tyX9_ok nmX9 hown hK.1 hR injM hS (a := 0) (by decide) rfl bM_0 rfl 9 (by decide) lk156 (fun _ h9 => h9) rfl (by decide +kernel) rfl rfl (Nat.le_of_ble_eq_true rfl) (j := 9) (x := (X7 0 9) + 0) (by rw [bM_0]; rfl) dX9_digit_72 (fun H locs hR hS => ?_)
          obtain ⟨X9, eX9⟩ : ∃ Y : gM, Y = updM X7 0 9 ((X7 0 9) + 0) := ⟨_, rfl⟩
          rw [← eX9] at hR
          try replace hok := hok X9 eX9
          refine lv_aload_n hx hb dX9_digit_75 rfl (lv_at hl 1 rfl) ?_
          refine va_get (D := D) (ci := 9) (v := .int (X9 0 10)) (C := RX9) (T := TX9) (N := 15) hx hb hts inX9 hown hK.1 (MR.mk0 hR) 0 rfl rfl 10 (by decide) lk152 (fun _ h9 => h9) rfl dX9_digit_76 ?_
          refine lv_if_eq (tgt := 86) hx hb dX9_digit_79 (by decide) (fun c_12 => ?_) (fun c_12 => ?_)
          · try rw [if_pos c_12] at hok
            refine lv_iload_n hx hb dX9_digit_86 rfl (lv_at hl 0 rfl) ?_
            exact gm_iret hx hb hr hlocks hS (by (try simp only [p_X9_digit, ↓if_pos c_1, ↓if_pos c_2, ↓if_pos c_6, ↓if_neg c_10, ↓if_pos c_12, ← eX7, ← eX9]); (try rfl)) (by (try simp only [p_X9_digit, ↓if_pos c_1, ↓if_pos c_2, ↓if_pos c_6, ↓if_neg c_10, ↓if_pos c_12, ← eX7, ← eX9]); exact hR) dX9_digit_87
          · try rw [if_neg c_12] at hok
            refine lv_iconst (v := 0) hx hb dX9_digit_82 (by decide) ?_
            refine lv_goto (tgt := 87) hx hb dX9_digit_83 (by decide) ?_
            exact gm_iret hx hb hr hlocks hS (by (try simp only [p_X9_digit, ↓if_pos c_1, ↓if_pos c_2, ↓if_pos c_6, ↓if_neg c_10, ↓if_neg c_12, ← eX7, ← eX9]); (try rfl)) (by (try simp only [p_X9_digit, ↓if_pos c_1, ↓if_pos c_2, ↓if_pos c_6, ↓if_neg c_10, ↓if_neg c_12, ← eX7, ← eX9]); exact hR) dX9_digit_87
  · try rw [if_neg c_1] at hok
    refine lv_aload_n hx hb dX9_digit_11 rfl (lv_at hl 0 rfl) ?_
    refine va_get (D := D) (ci := 9) (v := .ref (μ + 5)) (C := RX9) (T := TX9) (N := 15) hx hb hts inX9 hown hK.1 (MR.mk0 hR) 0 rfl rfl 6 (by decide) lk22 (fun _ h9 => h9) rfl dX9_digit_12 ?_
    refine lv_aload_n hx hb dX9_digit_15 rfl (lv_at hl 0 rfl) ?_
    refine va_get (D := D) (ci := 9) (v := .int (X 0 9)) (C := RX9) (T := TX9) (N := 15) hx hb hts inX9 hown hK.1 (MR.mk0 hR) 0 rfl rfl 9 (by decide) lk156 (fun _ h9 => h9) rfl dX9_digit_16 ?_
    obtain ⟨h_13, hok⟩ := hok
    refine gm_cald hx hb hK.1 (MR.mk1 hR (c := 5) (by decide) bM_5) h_13 dX9_digit_19 ?_
    refine lv_bipush (v := 48) hx hb dX9_digit_20 (by decide) ?_
    refine lv_isub hx hb dX9_digit_22 ?_
    refine lv_goto (tgt := 28) hx hb dX9_digit_23 (by decide) ?_
    refine lv_istore_n (lv' := [(3, .int ((X 5 ((X 0 9).toNatClampNeg)) - 48)), (0, .ref μ), (1, .int a1), (2, .int a2)]) hx hb dX9_digit_28 rfl hl (by decide) rfl (fun ls hl => ?_)
    refine lv_aload_n hx hb dX9_digit_29 rfl (lv_at hl 1 rfl) ?_
    refine lv_aload_n hx hb dX9_digit_30 rfl (lv_at hl 1 rfl) ?_
    refine va_get (D := D) (ci := 9) (v := .int (X 0 10)) (C := RX9) (T := TX9) (N := 15) hx hb hts inX9 hown hK.1 (MR.mk0 hR) 0 rfl rfl 10 (by decide) lk152 (fun _ h9 => h9) rfl dX9_digit_31 ?_
    refine lv_if_ne (tgt := 46) hx hb dX9_digit_34 (by decide) (fun c_14 => ?_) (fun c_14 => ?_)
    · try rw [if_neg c_14] at hok
      refine lv_iconst (v := 1) hx hb dX9_digit_46 (by decide) ?_
      refine lv_goto (tgt := 51) hx hb dX9_digit_47 (by decide) ?_
      refine gm_put (v := .int 1) (ty := .boolean) (ci := 9) (C := RX9) (T := TX9) (N := 15) hx hb hts inX9 tyX9 tyX9_ok nmX9 hown hK.1 hR injM hS (a := 0) (by decide) rfl bM_0 rfl 10 (by decide) lk152 (fun _ h9 => h9) rfl (by decide +kernel) rfl rfl (Nat.le_of_ble_eq_true rfl) (j := 10) (x := 1) (by rw [bM_0]; rfl) dX9_digit_51 (fun H locs hR hS => ?_)
      obtain ⟨X10, eX10⟩ : ∃ Y : gM, Y = updM X 0 10 1 := ⟨_, rfl⟩
      rw [← eX10] at hR
      try replace hok := hok X10 eX10
      refine lv_aload_n hx hb dX9_digit_54 rfl (lv_at hl 1 rfl) ?_
      refine lv_dup hx hb dX9_digit_55 rfl ?_
      refine va_get (D := D) (ci := 9) (v := .int (X10 0 9)) (C := RX9) (T := TX9) (N := 15) hx hb hts inX9 hown hK.1 (MR.mk0 hR) 0 rfl rfl 9 (by decide) lk156 (fun _ h9 => h9) rfl dX9_digit_56 ?_
      refine lv_aload_n hx hb dX9_digit_59 rfl (lv_at hl 1 rfl) ?_
      refine va_get (D := D) (ci := 9) (v := .int (X10 0 10)) (C := RX9) (T := TX9) (N := 15) hx hb hts inX9 hown hK.1 (MR.mk0 hR) 0 rfl rfl 10 (by decide) lk152 (fun _ h9 => h9) rfl dX9_digit_60 ?_
      refine lv_if_eq (tgt := 70) hx hb dX9_digit_63 (by decide) (fun c_15 => ?_) (fun c_15 => ?_)
      · try rw [if_pos c_15] at hok
        refine lv_iconst (v := 1) hx hb dX9_digit_70 (by decide) ?_
        refine lv_iadd hx hb dX9_digit_71 ?_
        refine gm_put (v := .int ((X10 0 9) + 1)) (ty := .int) (ci := 9) (C := RX9) (T := TX9) (N := 15) hx hb hts inX9 tyX9 tyX9_ok nmX9 hown hK.1 hR injM hS (a := 0) (by decide) rfl bM_0 rfl 9 (by decide) lk156 (fun _ h9 => h9) rfl (by decide +kernel) rfl rfl (Nat.le_of_ble_eq_true rfl) (j := 9) (x := (X10 0 9) + 1) (by rw [bM_0]; rfl) dX9_digit_72 (fun H locs hR hS => ?_)
        obtain ⟨X11, eX11⟩ : ∃ Y : gM, Y = updM X10 0 9 ((X10 0 9) + 1) := ⟨_, rfl⟩
        rw [← eX11] at hR
        try replace hok := hok X11 eX11
        refine lv_aload_n hx hb dX9_digit_75 rfl (lv_at hl 1 rfl) ?_
        refine va_get (D := D) (ci := 9) (v := .int (X11 0 10)) (C := RX9) (T := TX9) (N := 15) hx hb hts inX9 hown hK.1 (MR.mk0 hR) 0 rfl rfl 10 (by decide) lk152 (fun _ h9 => h9) rfl dX9_digit_76 ?_
        refine lv_if_eq (tgt := 86) hx hb dX9_digit_79 (by decide) (fun c_16 => ?_) (fun c_16 => ?_)
        · try rw [if_pos c_16] at hok
          refine lv_iload_n hx hb dX9_digit_86 rfl (lv_at hl 0 rfl) ?_
          exact gm_iret hx hb hr hlocks hS (by (try simp only [p_X9_digit, ↓if_neg c_1, ↓if_neg c_14, ↓if_pos c_15, ↓if_pos c_16, ← eX10, ← eX11]); (try rfl)) (by (try simp only [p_X9_digit, ↓if_neg c_1, ↓if_neg c_14, ↓if_pos c_15, ↓if_pos c_16, ← eX10, ← eX11]); exact hR) dX9_digit_87
        · try rw [if_neg c_16] at hok
          refine lv_iconst (v := 0) hx hb dX9_digit_82 (by decide) ?_
          refine lv_goto (tgt := 87) hx hb dX9_digit_83 (by decide) ?_
          exact gm_iret hx hb hr hlocks hS (by (try simp only [p_X9_digit, ↓if_neg c_1, ↓if_neg c_14, ↓if_pos c_15, ↓if_neg c_16, ← eX10, ← eX11]); (try rfl)) (by (try simp only [p_X9_digit, ↓if_neg c_1, ↓if_neg c_14, ↓if_pos c_15, ↓if_neg c_16, ← eX10, ← eX11]); exact hR) dX9_digit_87
      · try rw [if_neg c_15] at hok
        refine lv_iconst (v := 0) hx hb dX9_digit_66 (by decide) ?_
        refine lv_goto (tgt := 71) hx hb dX9_digit_67 (by decide) ?_
        refine lv_iadd hx hb dX9_digit_71 ?_
        refine gm_put (v := .int ((X10 0 9) + 0)) (ty := .int) (ci := 9) (C := RX9) (T := TX9) (N := 15) hx hb hts inX9 tyX9 tyX9_ok nmX9 hown hK.1 hR injM hS (a := 0) (by decide) rfl bM_0 rfl 9 (by decide) lk156 (fun _ h9 => h9) rfl (by decide +kernel) rfl rfl (Nat.le_of_ble_eq_true rfl) (j := 9) (x := (X10 0 9) + 0) (by rw [bM_0]; rfl) dX9_digit_72 (fun H locs hR hS => ?_)
        obtain ⟨X12, eX12⟩ : ∃ Y : gM, Y = updM X10 0 9 ((X10 0 9) + 0) := ⟨_, rfl⟩
        rw [← eX12] at hR
        try replace hok := hok X12 eX12
        refine lv_aload_n hx hb dX9_digit_75 rfl (lv_at hl 1 rfl) ?_
        refine va_get (D := D) (ci := 9) (v := .int (X12 0 10)) (C := RX9) (T := TX9) (N := 15) hx hb hts inX9 hown hK.1 (MR.mk0 hR) 0 rfl rfl 10 (by decide) lk152 (fun _ h9 => h9) rfl dX9_digit_76 ?_
        refine lv_if_eq (tgt := 86) hx hb dX9_digit_79 (by decide) (fun c_17 => ?_) (fun c_17 => ?_)
        · try rw [if_pos c_17] at hok
          refine lv_iload_n hx hb dX9_digit_86 rfl (lv_at hl 0 rfl) ?_
          exact gm_iret hx hb hr hlocks hS (by (try simp only [p_X9_digit, ↓if_neg c_1, ↓if_neg c_14, ↓if_neg c_15, ↓if_pos c_17, ← eX10, ← eX12]); (try rfl)) (by (try simp only [p_X9_digit, ↓if_neg c_1, ↓if_neg c_14, ↓if_neg c_15, ↓if_pos c_17, ← eX10, ← eX12]); exact hR) dX9_digit_87
        · try rw [if_neg c_17] at hok
          refine lv_iconst (v := 0) hx hb dX9_digit_82 (by decide) ?_
          refine lv_goto (tgt := 87) hx hb dX9_digit_83 (by decide) ?_
          exact gm_iret hx hb hr hlocks hS (by (try simp only [p_X9_digit, ↓if_neg c_1, ↓if_neg c_14, ↓if_neg c_15, ↓if_neg c_17, ← eX10, ← eX12]); (try rfl)) (by (try simp only [p_X9_digit, ↓if_neg c_1, ↓if_neg c_14, ↓if_neg c_15, ↓if_neg c_17, ← eX10, ← eX12]); exact hR) dX9_digit_87
    · try rw [if_pos c_14] at hok
      refine lv_iload_n hx hb dX9_digit_37 rfl (lv_at hl 0 rfl) ?_
      refine lv_iload_n hx hb dX9_digit_38 rfl (lv_at hl 2 rfl) ?_
      refine lv_iload_n hx hb dX9_digit_39 rfl (lv_at hl 3 rfl) ?_
      refine gm_ci (gm_callS (As := [.int ((X 5 ((X 0 9).toNatClampNeg)) - 48), .int a1, .int a2]) (rest := [.ref μ]) ⟨hx, hb, hml, hown, hts⟩ hK (c_X9_in l D cy ((X 5 ((X 0 9).toNatClampNeg)) - 48) a1 a2) (va_cwS 3 hts gX9_digit_X9_in rfl rfl rfl (by decide +kernel) ⟨Nat.le_of_ble_eq_true rfl, Nat.le_of_ble_eq_true rfl⟩) trivial rfl hl.1 rfl (Nat.le_of_ble_eq_true rfl) dX9_digit_40 (Nat.zero_le _) (Nat.zero_le _)) hS (fun _ h => h.elim) (fun H locs _ _ hfr hS => ?_)
      have hR := gRep.keep hR hfr (fun _ _ h => h)
      refine lv_if_ne (tgt := 50) hx hb dX9_digit_43 (by decide) (fun c_18 => ?_) (fun c_18 => ?_)
      · try rw [if_neg c_18] at hok
        refine lv_iconst (v := 0) hx hb dX9_digit_50 (by decide) ?_
        refine gm_put (v := .int 0) (ty := .boolean) (ci := 9) (C := RX9) (T := TX9) (N := 15) hx hb hts inX9 tyX9 tyX9_ok nmX9 hown hK.1 hR injM hS (a := 0) (by decide) rfl bM_0 rfl 10 (by decide) lk152 (fun _ h9 => h9) rfl (by decide +kernel) rfl rfl (Nat.le_of_ble_eq_true rfl) (j := 10) (x := 0) (by rw [bM_0]; rfl) dX9_digit_51 (fun H locs hR hS => ?_)
        obtain ⟨X13, eX13⟩ : ∃ Y : gM, Y = updM X 0 10 0 := ⟨_, rfl⟩
        rw [← eX13] at hR
        try replace hok := hok X13 eX13
        refine lv_aload_n hx hb dX9_digit_54 rfl (lv_at hl 1 rfl) ?_
        refine lv_dup hx hb dX9_digit_55 rfl ?_
        refine va_get (D := D) (ci := 9) (v := .int (X13 0 9)) (C := RX9) (T := TX9) (N := 15) hx hb hts inX9 hown hK.1 (MR.mk0 hR) 0 rfl rfl 9 (by decide) lk156 (fun _ h9 => h9) rfl dX9_digit_56 ?_
        refine lv_aload_n hx hb dX9_digit_59 rfl (lv_at hl 1 rfl) ?_
        refine va_get (D := D) (ci := 9) (v := .int (X13 0 10)) (C := RX9) (T := TX9) (N := 15) hx hb hts inX9 hown hK.1 (MR.mk0 hR) 0 rfl rfl 10 (by decide) lk152 (fun _ h9 => h9) rfl dX9_digit_60 ?_
        refine lv_if_eq (tgt := 70) hx hb dX9_digit_63 (by decide) (fun c_19 => ?_) (fun c_19 => ?_)
        · try rw [if_pos c_19] at hok
          refine lv_iconst (v := 1) hx hb dX9_digit_70 (by decide) ?_
          refine lv_iadd hx hb dX9_digit_71 ?_
          refine gm_put (v := .int ((X13 0 9) + 1)) (ty := .int) (ci := 9) (C := RX9) (T := TX9) (N := 15) hx hb hts inX9 tyX9 tyX9_ok nmX9 hown hK.1 hR injM hS (a := 0) (by decide) rfl bM_0 rfl 9 (by decide) lk156 (fun _ h9 => h9) rfl (by decide +kernel) rfl rfl (Nat.le_of_ble_eq_true rfl) (j := 9) (x := (X13 0 9) + 1) (by rw [bM_0]; rfl) dX9_digit_72 (fun H locs hR hS => ?_)
          obtain ⟨X14, eX14⟩ : ∃ Y : gM, Y = updM X13 0 9 ((X13 0 9) + 1) := ⟨_, rfl⟩
          rw [← eX14] at hR
          try replace hok := hok X14 eX14
          refine lv_aload_n hx hb dX9_digit_75 rfl (lv_at hl 1 rfl) ?_
          refine va_get (D := D) (ci := 9) (v := .int (X14 0 10)) (C := RX9) (T := TX9) (N := 15) hx hb hts inX9 hown hK.1 (MR.mk0 hR) 0 rfl rfl 10 (by decide) lk152 (fun _ h9 => h9) rfl dX9_digit_76 ?_
          refine lv_if_eq (tgt := 86) hx hb dX9_digit_79 (by decide) (fun c_20 => ?_) (fun c_20 => ?_)
          · try rw [if_pos c_20] at hok
            refine lv_iload_n hx hb dX9_digit_86 rfl (lv_at hl 0 rfl) ?_
            exact gm_iret hx hb hr hlocks hS (by (try simp only [p_X9_digit, ↓if_neg c_1, ↓if_pos c_14, ↓if_neg c_18, ↓if_pos c_19, ↓if_pos c_20, ← eX13, ← eX14]); (try rfl)) (by (try simp only [p_X9_digit, ↓if_neg c_1, ↓if_pos c_14, ↓if_neg c_18, ↓if_pos c_19, ↓if_pos c_20, ← eX13, ← eX14]); exact hR) dX9_digit_87
          · try rw [if_neg c_20] at hok
            refine lv_iconst (v := 0) hx hb dX9_digit_82 (by decide) ?_
            refine lv_goto (tgt := 87) hx hb dX9_digit_83 (by decide) ?_
            exact gm_iret hx hb hr hlocks hS (by (try simp only [p_X9_digit, ↓if_neg c_1, ↓if_pos c_14, ↓if_neg c_18, ↓if_pos c_19, ↓if_neg c_20, ← eX13, ← eX14]); (try rfl)) (by (try simp only [p_X9_digit, ↓if_neg c_1, ↓if_pos c_14, ↓if_neg c_18, ↓if_pos c_19, ↓if_neg c_20, ← eX13, ← eX14]); exact hR) dX9_digit_87
        · try rw [if_neg c_19] at hok
          refine lv_iconst (v := 0) hx hb dX9_digit_66 (by decide) ?_
          refine lv_goto (tgt := 71) hx hb dX9_digit_67 (by decide) ?_
          refine lv_iadd hx hb dX9_digit_71 ?_
          refine gm_put (v := .int ((X13 0 9) + 0)) (ty := .int) (ci := 9) (C := RX9) (T := TX9) (N := 15) hx hb hts inX9 tyX9 tyX9_ok nmX9 hown hK.1 hR injM hS (a := 0) (by decide) rfl bM_0 rfl 9 (by decide) lk156 (fun _ h9 => h9) rfl (by decide +kernel) rfl rfl (Nat.le_of_ble_eq_true rfl) (j := 9) (x := (X13 0 9) + 0) (by rw [bM_0]; rfl) dX9_digit_72 (fun H locs hR hS => ?_)
          obtain ⟨X15, eX15⟩ : ∃ Y : gM, Y = updM X13 0 9 ((X13 0 9) + 0) := ⟨_, rfl⟩
          rw [← eX15] at hR
          try replace hok := hok X15 eX15
          refine lv_aload_n hx hb dX9_digit_75 rfl (lv_at hl 1 rfl) ?_
          refine va_get (D := D) (ci := 9) (v := .int (X15 0 10)) (C := RX9) (T := TX9) (N := 15) hx hb hts inX9 hown hK.1 (MR.mk0 hR) 0 rfl rfl 10 (by decide) lk152 (fun _ h9 => h9) rfl dX9_digit_76 ?_
          refine lv_if_eq (tgt := 86) hx hb dX9_digit_79 (by decide) (fun c_21 => ?_) (fun c_21 => ?_)
          · try rw [if_pos c_21] at hok
            refine lv_iload_n hx hb dX9_digit_86 rfl (lv_at hl 0 rfl) ?_
            exact gm_iret hx hb hr hlocks hS (by (try simp only [p_X9_digit, ↓if_neg c_1, ↓if_pos c_14, ↓if_neg c_18, ↓if_neg c_19, ↓if_pos c_21, ← eX13, ← eX15]); (try rfl)) (by (try simp only [p_X9_digit, ↓if_neg c_1, ↓if_pos c_14, ↓if_neg c_18, ↓if_neg c_19, ↓if_pos c_21, ← eX13, ← eX15]); exact hR) dX9_digit_87
          · try rw [if_neg c_21] at hok
            refine lv_iconst (v := 0) hx hb dX9_digit_82 (by decide) ?_
            refine lv_goto (tgt := 87) hx hb dX9_digit_83 (by decide) ?_
            exact gm_iret hx hb hr hlocks hS (by (try simp only [p_X9_digit, ↓if_neg c_1, ↓if_pos c_14, ↓if_neg c_18, ↓if_neg c_19, ↓if_neg c_21, ← eX13, ← eX15]); (try rfl)) (by (try simp only [p_X9_digit, ↓if_neg c_1, ↓if_pos c_14, ↓if_neg c_18, ↓if_neg c_19, ↓if_neg c_21, ← eX13, ← eX15]); exact hR) dX9_digit_87
      · try rw [if_pos c_18] at hok
        refine lv_iconst (v := 1) hx hb dX9_digit_46 (by decide) ?_
        refine lv_goto (tgt := 51) hx hb dX9_digit_47 (by decide) ?_
        refine gm_put (v := .int 1) (ty := .boolean) (ci := 9) (C := RX9) (T := TX9) (N := 15) hx hb hts inX9 tyX9 tyX9_ok nmX9 hown hK.1 hR injM hS (a := 0) (by decide) rfl bM_0 rfl 10 (by decide) lk152 (fun _ h9 => h9) rfl (by decide +kernel) rfl rfl (Nat.le_of_ble_eq_true rfl) (j := 10) (x := 1) (by rw [bM_0]; rfl) dX9_digit_51 (fun H locs hR hS => ?_)
        obtain ⟨X16, eX16⟩ : ∃ Y : gM, Y = updM X 0 10 1 := ⟨_, rfl⟩
        rw [← eX16] at hR
        try replace hok := hok X16 eX16
        refine lv_aload_n hx hb dX9_digit_54 rfl (lv_at hl 1 rfl) ?_
        refine lv_dup hx hb dX9_digit_55 rfl ?_
        refine va_get (D := D) (ci := 9) (v := .int (X16 0 9)) (C := RX9) (T := TX9) (N := 15) hx hb hts inX9 hown hK.1 (MR.mk0 hR) 0 rfl rfl 9 (by decide) lk156 (fun _ h9 => h9) rfl dX9_digit_56 ?_
        refine lv_aload_n hx hb dX9_digit_59 rfl (lv_at hl 1 rfl) ?_
        refine va_get (D := D) (ci := 9) (v := .int (X16 0 10)) (C := RX9) (T := TX9) (N := 15) hx hb hts inX9 hown hK.1 (MR.mk0 hR) 0 rfl rfl 10 (by decide) lk152 (fun _ h9 => h9) rfl dX9_digit_60 ?_
        refine lv_if_eq (tgt := 70) hx hb dX9_digit_63 (by decide) (fun c_22 => ?_) (fun c_22 => ?_)
        · try rw [if_pos c_22] at hok
          refine lv_iconst (v := 1) hx hb dX9_digit_70 (by decide) ?_
          refine lv_iadd hx hb dX9_digit_71 ?_
          refine gm_put (v := .int ((X16 0 9) + 1)) (ty := .int) (ci := 9) (C := RX9) (T := TX9) (N := 15) hx hb hts inX9 tyX9 tyX9_ok nmX9 hown hK.1 hR injM hS (a := 0) (by decide) rfl bM_0 rfl 9 (by decide) lk156 (fun _ h9 => h9) rfl (by decide +kernel) rfl rfl (Nat.le_of_ble_eq_true rfl) (j := 9) (x := (X16 0 9) + 1) (by rw [bM_0]; rfl) dX9_digit_72 (fun H locs hR hS => ?_)
          obtain ⟨X17, eX17⟩ : ∃ Y : gM, Y = updM X16 0 9 ((X16 0 9) + 1) := ⟨_, rfl⟩
          rw [← eX17] at hR
          try replace hok := hok X17 eX17
          refine lv_aload_n hx hb dX9_digit_75 rfl (lv_at hl 1 rfl) ?_
          refine va_get (D := D) (ci := 9) (v := .int (X17 0 10)) (C := RX9) (T := TX9) (N := 15) hx hb hts inX9 hown hK.1 (MR.mk0 hR) 0 rfl rfl 10 (by decide) lk152 (fun _ h9 => h9) rfl dX9_digit_76 ?_
          refine lv_if_eq (tgt := 86) hx hb dX9_digit_79 (by decide) (fun c_23 => ?_) (fun c_23 => ?_)
          · try rw [if_pos c_23] at hok
            refine lv_iload_n hx hb dX9_digit_86 rfl (lv_at hl 0 rfl) ?_
            exact gm_iret hx hb hr hlocks hS (by (try simp only [p_X9_digit, ↓if_neg c_1, ↓if_pos c_14, ↓if_pos c_18, ↓if_pos c_22, ↓if_pos c_23, ← eX16, ← eX17]); (try rfl)) (by (try simp only [p_X9_digit, ↓if_neg c_1, ↓if_pos c_14, ↓if_pos c_18, ↓if_pos c_22, ↓if_pos c_23, ← eX16, ← eX17]); exact hR) dX9_digit_87
          · try rw [if_neg c_23] at hok
            refine lv_iconst (v := 0) hx hb dX9_digit_82 (by decide) ?_
            refine lv_goto (tgt := 87) hx hb dX9_digit_83 (by decide) ?_
            exact gm_iret hx hb hr hlocks hS (by (try simp only [p_X9_digit, ↓if_neg c_1, ↓if_pos c_14, ↓if_pos c_18, ↓if_pos c_22, ↓if_neg c_23, ← eX16, ← eX17]); (try rfl)) (by (try simp only [p_X9_digit, ↓if_neg c_1, ↓if_pos c_14, ↓if_pos c_18, ↓if_pos c_22, ↓if_neg c_23, ← eX16, ← eX17]); exact hR) dX9_digit_87
        · try rw [if_neg c_22] at hok
          refine lv_iconst (v := 0) hx hb dX9_digit_66 (by decide) ?_
          refine lv_goto (tgt := 71) hx hb dX9_digit_67 (by decide) ?_
          refine lv_iadd hx hb dX9_digit_71 ?_
          refine gm_put (v := .int ((X16 0 9) + 0)) (ty := .int) (ci := 9) (C := RX9) (T := TX9) (N := 15) hx hb hts inX9 tyX9 tyX9_ok nmX9 hown hK.1 hR injM hS (a := 0) (by decide) rfl bM_0 rfl 9 (by decide) lk156 (fun _ h9 => h9) rfl (by decide +kernel) rfl rfl (Nat.le_of_ble_eq_true rfl) (j := 9) (x := (X16 0 9) + 0) (by rw [bM_0]; rfl) dX9_digit_72 (fun H locs hR hS => ?_)
          obtain ⟨X18, eX18⟩ : ∃ Y : gM, Y = updM X16 0 9 ((X16 0 9) + 0) := ⟨_, rfl⟩
          rw [← eX18] at hR
          try replace hok := hok X18 eX18
          refine lv_aload_n hx hb dX9_digit_75 rfl (lv_at hl 1 rfl) ?_
          refine va_get (D := D) (ci := 9) (v := .int (X18 0 10)) (C := RX9) (T := TX9) (N := 15) hx hb hts inX9 hown hK.1 (MR.mk0 hR) 0 rfl rfl 10 (by decide) lk152 (fun _ h9 => h9) rfl dX9_digit_76 ?_
          refine lv_if_eq (tgt := 86) hx hb dX9_digit_79 (by decide) (fun c_24 => ?_) (fun c_24 => ?_)
          · try rw [if_pos c_24] at hok
            refine lv_iload_n hx hb dX9_digit_86 rfl (lv_at hl 0 rfl) ?_
            exact gm_iret hx hb hr hlocks hS (by (try simp only [p_X9_digit, ↓if_neg c_1, ↓if_pos c_14, ↓if_pos c_18, ↓if_neg c_22, ↓if_pos c_24, ← eX16, ← eX18]); (try rfl)) (by (try simp only [p_X9_digit, ↓if_neg c_1, ↓if_pos c_14, ↓if_pos c_18, ↓if_neg c_22, ↓if_pos c_24, ← eX16, ← eX18]); exact hR) dX9_digit_87
          · try rw [if_neg c_24] at hok
            refine lv_iconst (v := 0) hx hb dX9_digit_82 (by decide) ?_
            refine lv_goto (tgt := 87) hx hb dX9_digit_83 (by decide) ?_
            exact gm_iret hx hb hr hlocks hS (by (try simp only [p_X9_digit, ↓if_neg c_1, ↓if_pos c_14, ↓if_pos c_18, ↓if_neg c_22, ↓if_neg c_24, ← eX16, ← eX18]); (try rfl)) (by (try simp only [p_X9_digit, ↓if_neg c_1, ↓if_pos c_14, ↓if_pos c_18, ↓if_neg c_22, ↓if_neg c_24, ← eX16, ← eX18]); exact hR) dX9_digit_87
def lf_X9_readValue_10  (K : (gM) → (Int32) → (Nat) → (Int32 × gM)) : Nat → (gM) → (Int32) → (Nat) → (Int32 × gM)
  | 0, Z, x_1, k_2 => K Z x_1 k_2
  | n + 1, Z, x_1, k_2 =>
    if 5 ≤ nI k_2 then
      K Z x_1 k_2
    else
      if x_1 ≤ 0 then
        K Z x_1 k_2
      else
        if Z 0 7 ≤ Z 0 9 then
          K Z x_1 k_2
        else
          if f_X9_in (Z 5 ((Z 0 9).toNatClampNeg)) 48 57 = 0 then
            K Z x_1 k_2
          else
            let X1 := updM Z 0 9 ((Z 0 9) + 1)
            lf_X9_readValue_10 K n X1 (((10 * x_1) + (Z 5 ((Z 0 9).toNatClampNeg))) - 48) (k_2 + 1)
def lok_X9_readValue_10  (KO : (gM) → (Int32) → (Nat) → Prop) : Nat → (gM) → (Int32) → (Nat) → Prop
  | 0, Z, x_1, k_2 => True
  | n + 1, Z, x_1, k_2 =>
    (if 5 ≤ nI k_2 then
      KO Z x_1 k_2
    else
      (if x_1 ≤ 0 then
        KO Z x_1 k_2
      else
        (if Z 0 7 ≤ Z 0 9 then
          KO Z x_1 k_2
        else
          (vp_in (Z 0 9) 60) ∧
          (if f_X9_in (Z 5 ((Z 0 9).toNatClampNeg)) 48 57 = 0 then
            KO Z x_1 k_2
          else
            (vp_in (Z 0 9) 60) ∧
            ∀ X1 : gM, X1 = updM Z 0 9 ((Z 0 9) + 1) →
            lok_X9_readValue_10 KO n X1 (((10 * x_1) + (Z 5 ((Z 0 9).toNatClampNeg))) - 48) (k_2 + 1)))))
def p_X9_readValue (X : gM) : Int32 × gM :=
  let X1 := (p_X9_digit X 0 9).2
  lf_X9_readValue_10  (fun X2 x_1w2 k_2w2 =>
        (x_1w2, X2)) 2147483648 X1 ((p_X9_digit X 0 9).1) 1
def ok_X9_readValue (X : gM) : Prop :=
  (ok_X9_digit X 0 9) ∧
  ∀ X1 : gM, X1 = (p_X9_digit X 0 9).2 →
  lok_X9_readValue_10  (fun X2 x_1w2 k_2w2 =>
        True) 2147483648 X1 ((p_X9_digit X 0 9).1) 1
set_option maxHeartbeats 4000000 in
set_option maxRecDepth 100000 in
theorem lp_X9_readValue_10 {p : Program} {l : Launch} {e : Env} {s : State} {m : MethodId} {args : Array Value} {below : List Frame} {meth : Method} {c0 : Code} {D : va_G} {cy : Nat → ClassId} (C : gCtx cX9_readValue 3 (some .int) RX9 wsX9_readValue D cy p s m args meth c0) (μ : Nat) 
    (KO : (gM) → (Int32) → (Nat) → Prop) (K : (gM) → (Int32) → (Nat) → (Int32 × gM)) (hexit : ∀ (Z : gM) (x_1 : Int32) (k_2 : Nat), k_2 ≤ 2147483647 → KO Z x_1 k_2 → ∀ (H : Heap) (locs : List Loc) (ls : Array Slot), MR D cy μ Z H → va_S (MA μ) s.heap H locs → lv_has ls 3 [(0, .ref μ), (1, .int x_1), (2, .int (nI k_2))] → W p l e { frames := 2, cells := 0, slots := 0, locals := 45 } s m args below meth c0 H locs 0 0 (MQ below (gQi (K Z x_1 k_2).1 (MR D cy μ (K Z x_1 k_2).2) (MA μ)) args s 0 0 (MA μ)) (F0 m 83 ls [])) :
    ∀ (n : Nat) (Z : gM) (x_1 : Int32) (k_2 : Nat), k_2 ≤ 2147483647 → lok_X9_readValue_10 KO n Z x_1 k_2 → 2147483647 < k_2 + n → ∀ (H : Heap) (locs : List Loc) (ls : Array Slot), MR D cy μ Z H → va_S (MA μ) s.heap H locs → lv_has ls 3 [(0, .ref μ), (1, .int x_1), (2, .int (nI k_2))] → W p l e { frames := 2, cells := 0, slots := 0, locals := 45 } s m args below meth c0 H locs 0 0 (MQ below (gQi (lf_X9_readValue_10 K n Z x_1 k_2).1 (MR D cy μ (lf_X9_readValue_10 K n Z x_1 k_2).2) (MA μ)) args s 0 0 (MA μ)) (F0 m 10 ls []) := by
  obtain ⟨hx, hb, hr, hts, hown, hlocks, hml, hK⟩ := C
  have lk156 := hts (.fieldLink RX9 156 "MercuryLineModel" "at" "I") (by decide +kernel)
  have inX9 : ∀ w ∈ u_ws RX9 TX9 15, w ∈ wsX9_readValue := by decide +kernel
  have lk149 := hts (.fieldLink RX9 149 "MercuryLineModel" "length" "I") (by decide +kernel)
  have lk22 := hts (.fieldLink RX9 22 "MercuryLineModel" "text" "[C") (by decide +kernel)
  intro n
  induction n with
  | zero =>
    intro Z x_1 k_2 hb_2 hok hme
    exact absurd hme (by omega)
  | succ n ih =>
    intro Z x_1 k_2 hb_2 hok hme H locs ls hR hS hl
    unfold lok_X9_readValue_10 at hok
    refine lv_iload_n hx hb dX9_readValue_10 rfl (lv_at hl 2 rfl) ?_
    refine lv_iconst (v := 5) hx hb dX9_readValue_11 (by decide) ?_
    refine lv_icmp_ge (tgt := 83) hx hb dX9_readValue_12 (by decide) (fun c_1 => ?_) (fun c_1 => ?_)
    · try rw [if_pos c_1] at hok
      have ge_2 : 5 ≤ k_2 := g_ge2 (Nat.lt_of_le_of_lt hb_2 (by decide)) (by decide) c_1
      refine gm_q (Q2 := MQ below (gQi (K Z x_1 k_2).1 (MR D cy μ (K Z x_1 k_2).2) (MA μ)) args s 0 0 (MA μ)) (by simp only [lf_X9_readValue_10, ↓if_pos c_1]) ?_
      exact hexit Z x_1 k_2 hb_2 hok _ _ _ hR hS (lv_sub hl [0, 1, 2] rfl)
    · try rw [if_neg c_1] at hok
      have lt_3 : k_2 < 5 := g_lt (Nat.lt_of_le_of_lt hb_2 (by decide)) (by decide) c_1
      refine lv_iload_n hx hb dX9_readValue_15 rfl (lv_at hl 1 rfl) ?_
      refine lv_if_le (tgt := 83) hx hb dX9_readValue_16 (by decide) (fun c_4 => ?_) (fun c_4 => ?_)
      · try rw [if_pos c_4] at hok
        refine gm_q (Q2 := MQ below (gQi (K Z x_1 k_2).1 (MR D cy μ (K Z x_1 k_2).2) (MA μ)) args s 0 0 (MA μ)) (by simp only [lf_X9_readValue_10, ↓if_neg c_1, ↓if_pos c_4]) ?_
        exact hexit Z x_1 k_2 hb_2 hok _ _ _ hR hS (lv_sub hl [0, 1, 2] rfl)
      · try rw [if_neg c_4] at hok
        refine lv_aload_n hx hb dX9_readValue_19 rfl (lv_at hl 0 rfl) ?_
        refine va_get (D := D) (ci := 9) (v := .int (Z 0 9)) (C := RX9) (T := TX9) (N := 15) hx hb hts inX9 hown hK.1 (MR.mk0 hR) 0 rfl rfl 9 (by decide) lk156 (fun _ h9 => h9) rfl dX9_readValue_20 ?_
        refine lv_aload_n hx hb dX9_readValue_23 rfl (lv_at hl 0 rfl) ?_
        refine va_get (D := D) (ci := 9) (v := .int (Z 0 7)) (C := RX9) (T := TX9) (N := 15) hx hb hts inX9 hown hK.1 (MR.mk0 hR) 0 rfl rfl 7 (by decide) lk149 (fun _ h9 => h9) rfl dX9_readValue_24 ?_
        refine lv_icmp_ge (tgt := 83) hx hb dX9_readValue_27 (by decide) (fun c_5 => ?_) (fun c_5 => ?_)
        · try rw [if_pos c_5] at hok
          refine gm_q (Q2 := MQ below (gQi (K Z x_1 k_2).1 (MR D cy μ (K Z x_1 k_2).2) (MA μ)) args s 0 0 (MA μ)) (by simp only [lf_X9_readValue_10, ↓if_neg c_1, ↓if_neg c_4, ↓if_pos c_5]) ?_
          exact hexit Z x_1 k_2 hb_2 hok _ _ _ hR hS (lv_sub hl [0, 1, 2] rfl)
        · try rw [if_neg c_5] at hok
          refine lv_aload_n hx hb dX9_readValue_30 rfl (lv_at hl 0 rfl) ?_
          refine va_get (D := D) (ci := 9) (v := .ref (μ + 5)) (C := RX9) (T := TX9) (N := 15) hx hb hts inX9 hown hK.1 (MR.mk0 hR) 0 rfl rfl 6 (by decide) lk22 (fun _ h9 => h9) rfl dX9_readValue_31 ?_
          refine lv_aload_n hx hb dX9_readValue_34 rfl (lv_at hl 0 rfl) ?_
          refine va_get (D := D) (ci := 9) (v := .int (Z 0 9)) (C := RX9) (T := TX9) (N := 15) hx hb hts inX9 hown hK.1 (MR.mk0 hR) 0 rfl rfl 9 (by decide) lk156 (fun _ h9 => h9) rfl dX9_readValue_35 ?_
          obtain ⟨h_6, hok⟩ := hok
          refine gm_cald hx hb hK.1 (MR.mk1 hR (c := 5) (by decide) bM_5) h_6 dX9_readValue_38 ?_
          refine lv_bipush (v := 48) hx hb dX9_readValue_39 (by decide) ?_
          refine lv_bipush (v := 57) hx hb dX9_readValue_41 (by decide) ?_
          refine gm_ci (gm_callS (As := [.int (Z 5 ((Z 0 9).toNatClampNeg)), .int 48, .int 57]) (rest := []) ⟨hx, hb, hml, hown, hts⟩ hK (c_X9_in l D cy (Z 5 ((Z 0 9).toNatClampNeg)) 48 57) (va_cwS 3 hts gX9_readValue_X9_in rfl rfl rfl (by decide +kernel) ⟨Nat.le_of_ble_eq_true rfl, Nat.le_of_ble_eq_true rfl⟩) trivial rfl hl.1 rfl (Nat.le_of_ble_eq_true rfl) dX9_readValue_43 (Nat.zero_le _) (Nat.zero_le _)) hS (fun _ h => h.elim) (fun H locs _ _ hfr hS => ?_)
          have hR := gRep.keep hR hfr (fun _ _ h => h)
          refine lv_if_eq (tgt := 83) hx hb dX9_readValue_46 (by decide) (fun c_7 => ?_) (fun c_7 => ?_)
          · try rw [if_pos c_7] at hok
            refine gm_q (Q2 := MQ below (gQi (K Z x_1 k_2).1 (MR D cy μ (K Z x_1 k_2).2) (MA μ)) args s 0 0 (MA μ)) (by simp only [lf_X9_readValue_10, ↓if_neg c_1, ↓if_neg c_4, ↓if_neg c_5, ↓if_pos c_7]) ?_
            exact hexit Z x_1 k_2 hb_2 hok _ _ _ hR hS (lv_sub hl [0, 1, 2] rfl)
          · try rw [if_neg c_7] at hok
            refine lv_bipush (v := 10) hx hb dX9_readValue_49 (by decide) ?_
            refine lv_iload_n hx hb dX9_readValue_51 rfl (lv_at hl 1 rfl) ?_
            refine lv_imul hx hb dX9_readValue_52 ?_
            refine lv_aload_n hx hb dX9_readValue_53 rfl (lv_at hl 0 rfl) ?_
            refine va_get (D := D) (ci := 9) (v := .ref (μ + 5)) (C := RX9) (T := TX9) (N := 15) hx hb hts inX9 hown hK.1 (MR.mk0 hR) 0 rfl rfl 6 (by decide) lk22 (fun _ h9 => h9) rfl dX9_readValue_54 ?_
            refine lv_aload_n hx hb dX9_readValue_57 rfl (lv_at hl 0 rfl) ?_
            refine va_get (D := D) (ci := 9) (v := .int (Z 0 9)) (C := RX9) (T := TX9) (N := 15) hx hb hts inX9 hown hK.1 (MR.mk0 hR) 0 rfl rfl 9 (by decide) lk156 (fun _ h9 => h9) rfl dX9_readValue_58 ?_
            obtain ⟨h_8, hok⟩ := hok
            refine gm_cald hx hb hK.1 (MR.mk1 hR (c := 5) (by decide) bM_5) h_8 dX9_readValue_61 ?_
            refine lv_iadd hx hb dX9_readValue_62 ?_
            refine lv_bipush (v := 48) hx hb dX9_readValue_63 (by decide) ?_
            refine lv_isub hx hb dX9_readValue_65 ?_
            refine lv_istore_n (lv' := [(1, .int (((10 * x_1) + (Z 5 ((Z 0 9).toNatClampNeg))) - 48)), (0, .ref μ), (2, .int (nI k_2))]) hx hb dX9_readValue_66 rfl hl (by decide) rfl (fun ls hl => ?_)
            refine lv_aload_n hx hb dX9_readValue_67 rfl (lv_at hl 1 rfl) ?_
            refine lv_dup hx hb dX9_readValue_68 rfl ?_
            refine va_get (D := D) (ci := 9) (v := .int (Z 0 9)) (C := RX9) (T := TX9) (N := 15) hx hb hts inX9 hown hK.1 (MR.mk0 hR) 0 rfl rfl 9 (by decide) lk156 (fun _ h9 => h9) rfl dX9_readValue_69 ?_
            refine lv_iconst (v := 1) hx hb dX9_readValue_72 (by decide) ?_
            refine lv_iadd hx hb dX9_readValue_73 ?_
            refine gm_put (v := .int ((Z 0 9) + 1)) (ty := .int) (ci := 9) (C := RX9) (T := TX9) (N := 15) hx hb hts inX9 tyX9 tyX9_ok nmX9 hown hK.1 hR injM hS (a := 0) (by decide) rfl bM_0 rfl 9 (by decide) lk156 (fun _ h9 => h9) rfl (by decide +kernel) rfl rfl (Nat.le_of_ble_eq_true rfl) (j := 9) (x := (Z 0 9) + 1) (by rw [bM_0]; rfl) dX9_readValue_74 (fun H locs hR hS => ?_)
            obtain ⟨X1, eX1⟩ : ∃ Y : gM, Y = updM Z 0 9 ((Z 0 9) + 1) := ⟨_, rfl⟩
            rw [← eX1] at hR
            try replace hok := hok X1 eX1
            refine lv_iinc (v := nI (k_2 + 1)) (lv' := [(2, .int (nI (k_2 + 1))), (1, .int (((10 * x_1) + (Z 5 ((Z 0 9).toNatClampNeg))) - 48)), (0, .ref μ)]) hx hb dX9_readValue_77 hl (k := 2) rfl (nI_1 _) (by decide) rfl (fun ls hl => ?_)
            refine lv_goto (tgt := 10) hx hb dX9_readValue_80 (by decide) ?_
            refine gm_q (Q2 := MQ below (gQi (lf_X9_readValue_10 K n X1 (((10 * x_1) + (Z 5 ((Z 0 9).toNatClampNeg))) - 48) (k_2 + 1)).1 (MR D cy μ (lf_X9_readValue_10 K n X1 (((10 * x_1) + (Z 5 ((Z 0 9).toNatClampNeg))) - 48) (k_2 + 1)).2) (MA μ)) args s 0 0 (MA μ)) (by simp only [lf_X9_readValue_10, ↓if_neg c_1, ↓if_neg c_4, ↓if_neg c_5, ↓if_neg c_7, ← eX1]) ?_
            exact ih X1 (((10 * x_1) + (Z 5 ((Z 0 9).toNatClampNeg))) - 48) (k_2 + 1) (Nat.lt_of_lt_of_le lt_3 (by decide)) hok (by omega) _ _ _ hR hS (lv_sub hl [2, 1, 0] rfl)
set_option maxHeartbeats 4000000 in
set_option maxRecDepth 100000 in
theorem c_X9_readValue (l : Launch) (D : va_G) (cy : Nat → ClassId) (μ : Nat) (X : gM)  (hok : ok_X9_readValue X) : Met l yX9_readValue wsX9_readValue ({ frames := 2, cells := 0, slots := 0, locals := 45 }) (gP [.ref μ] D cy (MR D cy μ X)) (gQi (p_X9_readValue X).1 (MR D cy μ (p_X9_readValue X).2) (MA μ)) 0 0 (MA μ) := by
  refine gm_met (cc := cX9_readValue) (maxL := 3) (ret := (some .int)) [.ref μ] (by decide) rfl (Nat.le_of_ble_eq_true rfl) ?_
  intro p e s m args below meth c0 ls C hR hl
  obtain ⟨hx, hb, hr, hts, hown, hlocks, hml, hK⟩ := C
  have hl : lv_has ls 3 [(0, .ref μ)] := hl
  have hS : va_S (MA μ) s.heap s.heap [] := va_S.rf
  unfold ok_X9_readValue at hok
  refine lv_aload_n hx hb dX9_readValue_0 rfl (lv_at hl 0 rfl) ?_
  refine lv_iconst (v := 0) hx hb dX9_readValue_1 (by decide) ?_
  refine lv_bipush (v := 9) hx hb dX9_readValue_2 (by decide) ?_
  obtain ⟨h_1, hok⟩ := hok
  refine gm_ci (gm_call (As := [.int 0, .int 9]) (rest := []) (ci := 9) (q := (RX9, TX9, 15)) ⟨hx, hb, hml, hown, hts⟩ hK (c_X9_digit l D cy μ X 0 9 h_1) (cwV 2 hts gX9_readValue_X9_digit rfl rfl rfl (by decide +kernel) ⟨Nat.le_of_ble_eq_true rfl, Nat.le_of_ble_eq_true rfl⟩) (MR.mk0 hR) rfl hR rfl hl.1 rfl (Nat.le_of_ble_eq_true rfl) dX9_readValue_4 (Nat.zero_le _) (Nat.zero_le _)) hS (fun _ h => h) (fun H locs hR _ _ hS => ?_)
  obtain ⟨X1, eX1⟩ : ∃ Y : gM, Y = (p_X9_digit X 0 9).2 := ⟨_, rfl⟩
  rw [← eX1] at hR
  try replace hok := hok X1 eX1
  refine lv_istore_n (lv' := [(1, .int ((p_X9_digit X 0 9).1)), (0, .ref μ)]) hx hb dX9_readValue_7 rfl hl (by decide) rfl (fun ls hl => ?_)
  refine lv_iconst (v := 1) hx hb dX9_readValue_8 (by decide) ?_
  refine lv_istore_n (lv' := [(2, .int 1), (1, .int ((p_X9_digit X 0 9).1)), (0, .ref μ)]) hx hb dX9_readValue_9 rfl hl (by decide) rfl (fun ls hl => ?_)
  refine gm_q (Q2 := MQ below (gQi (lf_X9_readValue_10  (fun X2 x_1w2 k_2w2 =>
        (x_1w2, X2)) 2147483648 X1 ((p_X9_digit X 0 9).1) 1).1 (MR D cy μ (lf_X9_readValue_10  (fun X2 x_1w2 k_2w2 =>
        (x_1w2, X2)) 2147483648 X1 ((p_X9_digit X 0 9).1) 1).2) (MA μ)) args s 0 0 (MA μ)) (by simp only [p_X9_readValue, ← eX1]) ?_
  refine lp_X9_readValue_10 ⟨hx, hb, hr, hts, hown, hlocks, hml, hK⟩ μ  _ _ (fun X2 x_1w2 k_2w2 hbk_2w2 hok H locs ls hR hS hl => ?_) 2147483648 X1 ((p_X9_digit X 0 9).1) 1 (by decide) hok (by omega) _ _ _ hR hS (lv_sub hl [2, 1, 0] rfl)
  refine lv_iload_n hx hb dX9_readValue_83 rfl (lv_at hl 1 rfl) ?_
  exact gm_iret hx hb hr hlocks hS (by (try simp only [p_X9_readValue, ← eX1]); (try rfl)) (by (try simp only [p_X9_readValue, ← eX1]); exact hR) dX9_readValue_84
def p_X9_readStation (X : gM) : Int32 × gM :=
  let X1 := (p_X9_digit X 0 1).2
  let X2 := (p_X9_digit X1 0 5).2
  ((10 * ((p_X9_digit X 0 1).1)) + ((p_X9_digit X1 0 5).1), X2)
def ok_X9_readStation (X : gM) : Prop :=
  (ok_X9_digit X 0 1) ∧
  ∀ X1 : gM, X1 = (p_X9_digit X 0 1).2 →
  (ok_X9_digit X1 0 5) ∧
  True
set_option maxHeartbeats 4000000 in
set_option maxRecDepth 100000 in
theorem c_X9_readStation (l : Launch) (D : va_G) (cy : Nat → ClassId) (μ : Nat) (X : gM)  (hok : ok_X9_readStation X) : Met l yX9_readStation wsX9_readStation ({ frames := 2, cells := 0, slots := 0, locals := 45 }) (gP [.ref μ] D cy (MR D cy μ X)) (gQi (p_X9_readStation X).1 (MR D cy μ (p_X9_readStation X).2) (MA μ)) 0 0 (MA μ) := by
  refine gm_met (cc := cX9_readStation) (maxL := 2) (ret := (some .int)) [.ref μ] (by decide) rfl (Nat.le_of_ble_eq_true rfl) ?_
  intro p e s m args below meth c0 ls C hR hl
  obtain ⟨hx, hb, hr, hts, hown, hlocks, hml, hK⟩ := C
  have hl : lv_has ls 2 [(0, .ref μ)] := hl
  have hS : va_S (MA μ) s.heap s.heap [] := va_S.rf
  unfold ok_X9_readStation at hok
  refine lv_aload_n hx hb dX9_readStation_0 rfl (lv_at hl 0 rfl) ?_
  refine lv_iconst (v := 0) hx hb dX9_readStation_1 (by decide) ?_
  refine lv_iconst (v := 1) hx hb dX9_readStation_2 (by decide) ?_
  obtain ⟨h_1, hok⟩ := hok
  refine gm_ci (gm_call (As := [.int 0, .int 1]) (rest := []) (ci := 9) (q := (RX9, TX9, 15)) ⟨hx, hb, hml, hown, hts⟩ hK (c_X9_digit l D cy μ X 0 1 h_1) (cwV 2 hts gX9_readStation_X9_digit rfl rfl rfl (by decide +kernel) ⟨Nat.le_of_ble_eq_true rfl, Nat.le_of_ble_eq_true rfl⟩) (MR.mk0 hR) rfl hR rfl hl.1 rfl (Nat.le_of_ble_eq_true rfl) dX9_readStation_3 (Nat.zero_le _) (Nat.zero_le _)) hS (fun _ h => h) (fun H locs hR _ _ hS => ?_)
  obtain ⟨X1, eX1⟩ : ∃ Y : gM, Y = (p_X9_digit X 0 1).2 := ⟨_, rfl⟩
  rw [← eX1] at hR
  try replace hok := hok X1 eX1
  refine lv_istore_n (lv' := [(1, .int ((p_X9_digit X 0 1).1)), (0, .ref μ)]) hx hb dX9_readStation_6 rfl hl (by decide) rfl (fun ls hl => ?_)
  refine lv_bipush (v := 10) hx hb dX9_readStation_7 (by decide) ?_
  refine lv_iload_n hx hb dX9_readStation_9 rfl (lv_at hl 0 rfl) ?_
  refine lv_imul hx hb dX9_readStation_10 ?_
  refine lv_aload_n hx hb dX9_readStation_11 rfl (lv_at hl 1 rfl) ?_
  refine lv_iconst (v := 0) hx hb dX9_readStation_12 (by decide) ?_
  refine lv_iconst (v := 5) hx hb dX9_readStation_13 (by decide) ?_
  obtain ⟨h_2, hok⟩ := hok
  refine gm_ci (gm_call (As := [.int 0, .int 5]) (rest := [.int (10 * ((p_X9_digit X 0 1).1))]) (ci := 9) (q := (RX9, TX9, 15)) ⟨hx, hb, hml, hown, hts⟩ hK (c_X9_digit l D cy μ X1 0 5 h_2) (cwV 2 hts gX9_readStation_X9_digit rfl rfl rfl (by decide +kernel) ⟨Nat.le_of_ble_eq_true rfl, Nat.le_of_ble_eq_true rfl⟩) (MR.mk0 hR) rfl hR rfl hl.1 rfl (Nat.le_of_ble_eq_true rfl) dX9_readStation_14 (Nat.zero_le _) (Nat.zero_le _)) hS (fun _ h => h) (fun H locs hR _ _ hS => ?_)
  obtain ⟨X2, eX2⟩ : ∃ Y : gM, Y = (p_X9_digit X1 0 5).2 := ⟨_, rfl⟩
  rw [← eX2] at hR
  try replace hok := hok X2 eX2
  refine lv_iadd hx hb dX9_readStation_17 ?_
  exact gm_iret hx hb hr hlocks hS (by (try simp only [p_X9_readStation, ← eX1, ← eX2]); (try rfl)) (by (try simp only [p_X9_readStation, ← eX1, ← eX2]); exact hR) dX9_readStation_18
def p_X9_readTicket (X : gM) : gM :=
  let X1 := (p_X9_readValue X).2
  let X2 := updM X1 6 ((5 * (X 0 12)).toNatClampNeg) ((p_X9_readValue X).1)
  let X3 := p_X9_takes X2 44
  let X4 := (p_X9_digit X3 1 3).2
  let X5 := updM X4 6 (((5 * (X 0 12)) + 1).toNatClampNeg) ((p_X9_digit X3 1 3).1)
  let X6 := p_X9_takes X5 44
  let X7 := (p_X9_readStation X6).2
  let X8 := updM X7 6 (((5 * (X 0 12)) + 2).toNatClampNeg) ((p_X9_readStation X6).1)
  let X9 := p_X9_takes X8 62
  let X10 := (p_X9_readStation X9).2
  let X11 := updM X10 6 (((5 * (X 0 12)) + 3).toNatClampNeg) ((p_X9_readStation X9).1)
  let X12 := p_X9_takes X11 42
  let X13 := (p_X9_digit X12 1 9).2
  let X14 := updM X13 6 (((5 * (X 0 12)) + 4).toNatClampNeg) ((p_X9_digit X12 1 9).1)
  let X15 := updM X14 0 12 ((X14 0 12) + 1)
  X15
def ok_X9_readTicket (X : gM) : Prop :=
  (ok_X9_readValue X) ∧
  ∀ X1 : gM, X1 = (p_X9_readValue X).2 →
  (vp_in (5 * (X 0 12)) 30) ∧
  ∀ X2 : gM, X2 = updM X1 6 ((5 * (X 0 12)).toNatClampNeg) ((p_X9_readValue X).1) →
  (ok_X9_takes X2 44) ∧
  ∀ X3 : gM, X3 = p_X9_takes X2 44 →
  (ok_X9_digit X3 1 3) ∧
  ∀ X4 : gM, X4 = (p_X9_digit X3 1 3).2 →
  (vp_in ((5 * (X 0 12)) + 1) 30) ∧
  ∀ X5 : gM, X5 = updM X4 6 (((5 * (X 0 12)) + 1).toNatClampNeg) ((p_X9_digit X3 1 3).1) →
  (ok_X9_takes X5 44) ∧
  ∀ X6 : gM, X6 = p_X9_takes X5 44 →
  (ok_X9_readStation X6) ∧
  ∀ X7 : gM, X7 = (p_X9_readStation X6).2 →
  (vp_in ((5 * (X 0 12)) + 2) 30) ∧
  ∀ X8 : gM, X8 = updM X7 6 (((5 * (X 0 12)) + 2).toNatClampNeg) ((p_X9_readStation X6).1) →
  (ok_X9_takes X8 62) ∧
  ∀ X9 : gM, X9 = p_X9_takes X8 62 →
  (ok_X9_readStation X9) ∧
  ∀ X10 : gM, X10 = (p_X9_readStation X9).2 →
  (vp_in ((5 * (X 0 12)) + 3) 30) ∧
  ∀ X11 : gM, X11 = updM X10 6 (((5 * (X 0 12)) + 3).toNatClampNeg) ((p_X9_readStation X9).1) →
  (ok_X9_takes X11 42) ∧
  ∀ X12 : gM, X12 = p_X9_takes X11 42 →
  (ok_X9_digit X12 1 9) ∧
  ∀ X13 : gM, X13 = (p_X9_digit X12 1 9).2 →
  (vp_in ((5 * (X 0 12)) + 4) 30) ∧
  True
set_option maxHeartbeats 4000000 in
set_option maxRecDepth 100000 in
theorem c_X9_readTicket (l : Launch) (D : va_G) (cy : Nat → ClassId) (μ : Nat) (X : gM)  (hok : ok_X9_readTicket X) : Met l yX9_readTicket wsX9_readTicket ({ frames := 3, cells := 0, slots := 0, locals := 67 }) (gP [.ref μ] D cy (MR D cy μ X)) (gQv (MR D cy μ (p_X9_readTicket X)) (MA μ)) 0 0 (MA μ) := by
  refine gm_met (cc := cX9_readTicket) (maxL := 2) (ret := none) [.ref μ] (by decide) rfl (Nat.le_of_ble_eq_true rfl) ?_
  intro p e s m args below meth c0 ls C hR hl
  obtain ⟨hx, hb, hr, hts, hown, hlocks, hml, hK⟩ := C
  have hl : lv_has ls 2 [(0, .ref μ)] := hl
  have hS : va_S (MA μ) s.heap s.heap [] := va_S.rf
  have lk162 := hts (.fieldLink RX9 162 "MercuryLineModel" "readMany" "I") (by decide +kernel)
  have inX9 : ∀ w ∈ u_ws RX9 TX9 15, w ∈ wsX9_readTicket := by decide +kernel
  have lk26 := hts (.fieldLink RX9 26 "MercuryLineModel" "read" "[I") (by decide +kernel)
  unfold ok_X9_readTicket at hok
  refine lv_iconst (v := 5) hx hb dX9_readTicket_0 (by decide) ?_
  refine lv_aload_n hx hb dX9_readTicket_1 rfl (lv_at hl 0 rfl) ?_
  refine va_get (D := D) (ci := 9) (v := .int (X 0 12)) (C := RX9) (T := TX9) (N := 15) hx hb hts inX9 hown hK.1 (MR.mk0 hR) 0 rfl rfl 12 (by decide) lk162 (fun _ h9 => h9) rfl dX9_readTicket_2 ?_
  refine lv_imul hx hb dX9_readTicket_5 ?_
  refine lv_istore_n (lv' := [(1, .int (5 * (X 0 12))), (0, .ref μ)]) hx hb dX9_readTicket_6 rfl hl (by decide) rfl (fun ls hl => ?_)
  refine lv_aload_n hx hb dX9_readTicket_7 rfl (lv_at hl 1 rfl) ?_
  refine va_get (D := D) (ci := 9) (v := .ref (μ + 6)) (C := RX9) (T := TX9) (N := 15) hx hb hts inX9 hown hK.1 (MR.mk0 hR) 0 rfl rfl 11 (by decide) lk26 (fun _ h9 => h9) rfl dX9_readTicket_8 ?_
  refine lv_iload_n hx hb dX9_readTicket_11 rfl (lv_at hl 0 rfl) ?_
  refine lv_aload_n hx hb dX9_readTicket_12 rfl (lv_at hl 1 rfl) ?_
  obtain ⟨h_1, hok⟩ := hok
  refine gm_ci (gm_call (As := []) (rest := [.int (5 * (X 0 12)), .ref (μ + 6)]) (ci := 9) (q := (RX9, TX9, 15)) ⟨hx, hb, hml, hown, hts⟩ hK (c_X9_readValue l D cy μ X h_1) (cwV 0 hts gX9_readTicket_X9_readValue rfl rfl rfl (by decide +kernel) ⟨Nat.le_of_ble_eq_true rfl, Nat.le_of_ble_eq_true rfl⟩) (MR.mk0 hR) rfl hR rfl hl.1 rfl (Nat.le_of_ble_eq_true rfl) dX9_readTicket_13 (Nat.zero_le _) (Nat.zero_le _)) hS (fun _ h => h) (fun H locs hR _ _ hS => ?_)
  obtain ⟨X1, eX1⟩ : ∃ Y : gM, Y = (p_X9_readValue X).2 := ⟨_, rfl⟩
  rw [← eX1] at hR
  try replace hok := hok X1 eX1
  obtain ⟨h_2, hok⟩ := hok
  refine gm_iast hx hb hK.1 hR injM hS (a := 6) (by decide) rfl (fun r => bM_6) h_2 dX9_readTicket_16 (fun H locs hR hS => ?_)
  obtain ⟨X2, eX2⟩ : ∃ Y : gM, Y = updM X1 6 ((5 * (X 0 12)).toNatClampNeg) ((p_X9_readValue X).1) := ⟨_, rfl⟩
  rw [← eX2] at hR
  try replace hok := hok X2 eX2
  refine lv_aload_n hx hb dX9_readTicket_17 rfl (lv_at hl 1 rfl) ?_
  refine lv_bipush (v := 44) hx hb dX9_readTicket_18 (by decide) ?_
  obtain ⟨h_3, hok⟩ := hok
  refine gm_cv (gm_call (As := [.int 44]) (rest := []) (ci := 9) (q := (RX9, TX9, 15)) ⟨hx, hb, hml, hown, hts⟩ hK (c_X9_takes l D cy μ X2 44 h_3) (cwV 1 hts gX9_readTicket_X9_takes rfl rfl rfl (by decide +kernel) ⟨Nat.le_of_ble_eq_true rfl, Nat.le_of_ble_eq_true rfl⟩) (MR.mk0 hR) rfl hR rfl hl.1 rfl (Nat.le_of_ble_eq_true rfl) dX9_readTicket_20 (Nat.zero_le _) (Nat.zero_le _)) hS (fun _ h => h) (fun H locs hR _ _ hS => ?_)
  obtain ⟨X3, eX3⟩ : ∃ Y : gM, Y = p_X9_takes X2 44 := ⟨_, rfl⟩
  rw [← eX3] at hR
  try replace hok := hok X3 eX3
  refine lv_aload_n hx hb dX9_readTicket_23 rfl (lv_at hl 1 rfl) ?_
  refine va_get (D := D) (ci := 9) (v := .ref (μ + 6)) (C := RX9) (T := TX9) (N := 15) hx hb hts inX9 hown hK.1 (MR.mk0 hR) 0 rfl rfl 11 (by decide) lk26 (fun _ h9 => h9) rfl dX9_readTicket_24 ?_
  refine lv_iload_n hx hb dX9_readTicket_27 rfl (lv_at hl 0 rfl) ?_
  refine lv_iconst (v := 1) hx hb dX9_readTicket_28 (by decide) ?_
  refine lv_iadd hx hb dX9_readTicket_29 ?_
  refine lv_aload_n hx hb dX9_readTicket_30 rfl (lv_at hl 1 rfl) ?_
  refine lv_iconst (v := 1) hx hb dX9_readTicket_31 (by decide) ?_
  refine lv_iconst (v := 3) hx hb dX9_readTicket_32 (by decide) ?_
  obtain ⟨h_4, hok⟩ := hok
  refine gm_ci (gm_call (As := [.int 1, .int 3]) (rest := [.int ((5 * (X 0 12)) + 1), .ref (μ + 6)]) (ci := 9) (q := (RX9, TX9, 15)) ⟨hx, hb, hml, hown, hts⟩ hK (c_X9_digit l D cy μ X3 1 3 h_4) (cwV 2 hts gX9_readTicket_X9_digit rfl rfl rfl (by decide +kernel) ⟨Nat.le_of_ble_eq_true rfl, Nat.le_of_ble_eq_true rfl⟩) (MR.mk0 hR) rfl hR rfl hl.1 rfl (Nat.le_of_ble_eq_true rfl) dX9_readTicket_33 (Nat.zero_le _) (Nat.zero_le _)) hS (fun _ h => h) (fun H locs hR _ _ hS => ?_)
  obtain ⟨X4, eX4⟩ : ∃ Y : gM, Y = (p_X9_digit X3 1 3).2 := ⟨_, rfl⟩
  rw [← eX4] at hR
  try replace hok := hok X4 eX4
  obtain ⟨h_5, hok⟩ := hok
  refine gm_iast hx hb hK.1 hR injM hS (a := 6) (by decide) rfl (fun r => bM_6) h_5 dX9_readTicket_36 (fun H locs hR hS => ?_)
  obtain ⟨X5, eX5⟩ : ∃ Y : gM, Y = updM X4 6 (((5 * (X 0 12)) + 1).toNatClampNeg) ((p_X9_digit X3 1 3).1) := ⟨_, rfl⟩
  rw [← eX5] at hR
  try replace hok := hok X5 eX5
  refine lv_aload_n hx hb dX9_readTicket_37 rfl (lv_at hl 1 rfl) ?_
  refine lv_bipush (v := 44) hx hb dX9_readTicket_38 (by decide) ?_
  obtain ⟨h_6, hok⟩ := hok
  refine gm_cv (gm_call (As := [.int 44]) (rest := []) (ci := 9) (q := (RX9, TX9, 15)) ⟨hx, hb, hml, hown, hts⟩ hK (c_X9_takes l D cy μ X5 44 h_6) (cwV 1 hts gX9_readTicket_X9_takes rfl rfl rfl (by decide +kernel) ⟨Nat.le_of_ble_eq_true rfl, Nat.le_of_ble_eq_true rfl⟩) (MR.mk0 hR) rfl hR rfl hl.1 rfl (Nat.le_of_ble_eq_true rfl) dX9_readTicket_40 (Nat.zero_le _) (Nat.zero_le _)) hS (fun _ h => h) (fun H locs hR _ _ hS => ?_)
  obtain ⟨X6, eX6⟩ : ∃ Y : gM, Y = p_X9_takes X5 44 := ⟨_, rfl⟩
  rw [← eX6] at hR
  try replace hok := hok X6 eX6
  refine lv_aload_n hx hb dX9_readTicket_43 rfl (lv_at hl 1 rfl) ?_
  refine va_get (D := D) (ci := 9) (v := .ref (μ + 6)) (C := RX9) (T := TX9) (N := 15) hx hb hts inX9 hown hK.1 (MR.mk0 hR) 0 rfl rfl 11 (by decide) lk26 (fun _ h9 => h9) rfl dX9_readTicket_44 ?_
  refine lv_iload_n hx hb dX9_readTicket_47 rfl (lv_at hl 0 rfl) ?_
  refine lv_iconst (v := 2) hx hb dX9_readTicket_48 (by decide) ?_
  refine lv_iadd hx hb dX9_readTicket_49 ?_
  refine lv_aload_n hx hb dX9_readTicket_50 rfl (lv_at hl 1 rfl) ?_
  obtain ⟨h_7, hok⟩ := hok
  refine gm_ci (gm_call (As := []) (rest := [.int ((5 * (X 0 12)) + 2), .ref (μ + 6)]) (ci := 9) (q := (RX9, TX9, 15)) ⟨hx, hb, hml, hown, hts⟩ hK (c_X9_readStation l D cy μ X6 h_7) (cwV 0 hts gX9_readTicket_X9_readStation rfl rfl rfl (by decide +kernel) ⟨Nat.le_of_ble_eq_true rfl, Nat.le_of_ble_eq_true rfl⟩) (MR.mk0 hR) rfl hR rfl hl.1 rfl (Nat.le_of_ble_eq_true rfl) dX9_readTicket_51 (Nat.zero_le _) (Nat.zero_le _)) hS (fun _ h => h) (fun H locs hR _ _ hS => ?_)
  obtain ⟨X7, eX7⟩ : ∃ Y : gM, Y = (p_X9_readStation X6).2 := ⟨_, rfl⟩
  rw [← eX7] at hR
  try replace hok := hok X7 eX7
  obtain ⟨h_8, hok⟩ := hok
  refine gm_iast hx hb hK.1 hR injM hS (a := 6) (by decide) rfl (fun r => bM_6) h_8 dX9_readTicket_54 (fun H locs hR hS => ?_)
  obtain ⟨X8, eX8⟩ : ∃ Y : gM, Y = updM X7 6 (((5 * (X 0 12)) + 2).toNatClampNeg) ((p_X9_readStation X6).1) := ⟨_, rfl⟩
  rw [← eX8] at hR
  try replace hok := hok X8 eX8
  refine lv_aload_n hx hb dX9_readTicket_55 rfl (lv_at hl 1 rfl) ?_
  refine lv_bipush (v := 62) hx hb dX9_readTicket_56 (by decide) ?_
  obtain ⟨h_9, hok⟩ := hok
  refine gm_cv (gm_call (As := [.int 62]) (rest := []) (ci := 9) (q := (RX9, TX9, 15)) ⟨hx, hb, hml, hown, hts⟩ hK (c_X9_takes l D cy μ X8 62 h_9) (cwV 1 hts gX9_readTicket_X9_takes rfl rfl rfl (by decide +kernel) ⟨Nat.le_of_ble_eq_true rfl, Nat.le_of_ble_eq_true rfl⟩) (MR.mk0 hR) rfl hR rfl hl.1 rfl (Nat.le_of_ble_eq_true rfl) dX9_readTicket_58 (Nat.zero_le _) (Nat.zero_le _)) hS (fun _ h => h) (fun H locs hR _ _ hS => ?_)
  obtain ⟨X9, eX9⟩ : ∃ Y : gM, Y = p_X9_takes X8 62 := ⟨_, rfl⟩
  rw [← eX9] at hR
  try replace hok := hok X9 eX9
  refine lv_aload_n hx hb dX9_readTicket_61 rfl (lv_at hl 1 rfl) ?_
  refine va_get (D := D) (ci := 9) (v := .ref (μ + 6)) (C := RX9) (T := TX9) (N := 15) hx hb hts inX9 hown hK.1 (MR.mk0 hR) 0 rfl rfl 11 (by decide) lk26 (fun _ h9 => h9) rfl dX9_readTicket_62 ?_
  refine lv_iload_n hx hb dX9_readTicket_65 rfl (lv_at hl 0 rfl) ?_
  refine lv_iconst (v := 3) hx hb dX9_readTicket_66 (by decide) ?_
  refine lv_iadd hx hb dX9_readTicket_67 ?_
  refine lv_aload_n hx hb dX9_readTicket_68 rfl (lv_at hl 1 rfl) ?_
  obtain ⟨h_10, hok⟩ := hok
  refine gm_ci (gm_call (As := []) (rest := [.int ((5 * (X 0 12)) + 3), .ref (μ + 6)]) (ci := 9) (q := (RX9, TX9, 15)) ⟨hx, hb, hml, hown, hts⟩ hK (c_X9_readStation l D cy μ X9 h_10) (cwV 0 hts gX9_readTicket_X9_readStation rfl rfl rfl (by decide +kernel) ⟨Nat.le_of_ble_eq_true rfl, Nat.le_of_ble_eq_true rfl⟩) (MR.mk0 hR) rfl hR rfl hl.1 rfl (Nat.le_of_ble_eq_true rfl) dX9_readTicket_69 (Nat.zero_le _) (Nat.zero_le _)) hS (fun _ h => h) (fun H locs hR _ _ hS => ?_)
  obtain ⟨X10, eX10⟩ : ∃ Y : gM, Y = (p_X9_readStation X9).2 := ⟨_, rfl⟩
  rw [← eX10] at hR
  try replace hok := hok X10 eX10
  obtain ⟨h_11, hok⟩ := hok
  refine gm_iast hx hb hK.1 hR injM hS (a := 6) (by decide) rfl (fun r => bM_6) h_11 dX9_readTicket_72 (fun H locs hR hS => ?_)
  obtain ⟨X11, eX11⟩ : ∃ Y : gM, Y = updM X10 6 (((5 * (X 0 12)) + 3).toNatClampNeg) ((p_X9_readStation X9).1) := ⟨_, rfl⟩
  rw [← eX11] at hR
  try replace hok := hok X11 eX11
  refine lv_aload_n hx hb dX9_readTicket_73 rfl (lv_at hl 1 rfl) ?_
  refine lv_bipush (v := 42) hx hb dX9_readTicket_74 (by decide) ?_
  obtain ⟨h_12, hok⟩ := hok
  refine gm_cv (gm_call (As := [.int 42]) (rest := []) (ci := 9) (q := (RX9, TX9, 15)) ⟨hx, hb, hml, hown, hts⟩ hK (c_X9_takes l D cy μ X11 42 h_12) (cwV 1 hts gX9_readTicket_X9_takes rfl rfl rfl (by decide +kernel) ⟨Nat.le_of_ble_eq_true rfl, Nat.le_of_ble_eq_true rfl⟩) (MR.mk0 hR) rfl hR rfl hl.1 rfl (Nat.le_of_ble_eq_true rfl) dX9_readTicket_76 (Nat.zero_le _) (Nat.zero_le _)) hS (fun _ h => h) (fun H locs hR _ _ hS => ?_)
  obtain ⟨X12, eX12⟩ : ∃ Y : gM, Y = p_X9_takes X11 42 := ⟨_, rfl⟩
  rw [← eX12] at hR
  try replace hok := hok X12 eX12
  refine lv_aload_n hx hb dX9_readTicket_79 rfl (lv_at hl 1 rfl) ?_
  refine va_get (D := D) (ci := 9) (v := .ref (μ + 6)) (C := RX9) (T := TX9) (N := 15) hx hb hts inX9 hown hK.1 (MR.mk0 hR) 0 rfl rfl 11 (by decide) lk26 (fun _ h9 => h9) rfl dX9_readTicket_80 ?_
  refine lv_iload_n hx hb dX9_readTicket_83 rfl (lv_at hl 0 rfl) ?_
  refine lv_iconst (v := 4) hx hb dX9_readTicket_84 (by decide) ?_
  refine lv_iadd hx hb dX9_readTicket_85 ?_
  refine lv_aload_n hx hb dX9_readTicket_86 rfl (lv_at hl 1 rfl) ?_
  refine lv_iconst (v := 1) hx hb dX9_readTicket_87 (by decide) ?_
  refine lv_bipush (v := 9) hx hb dX9_readTicket_88 (by decide) ?_
  obtain ⟨h_13, hok⟩ := hok
  refine gm_ci (gm_call (As := [.int 1, .int 9]) (rest := [.int ((5 * (X 0 12)) + 4), .ref (μ + 6)]) (ci := 9) (q := (RX9, TX9, 15)) ⟨hx, hb, hml, hown, hts⟩ hK (c_X9_digit l D cy μ X12 1 9 h_13) (cwV 2 hts gX9_readTicket_X9_digit rfl rfl rfl (by decide +kernel) ⟨Nat.le_of_ble_eq_true rfl, Nat.le_of_ble_eq_true rfl⟩) (MR.mk0 hR) rfl hR rfl hl.1 rfl (Nat.le_of_ble_eq_true rfl) dX9_readTicket_90 (Nat.zero_le _) (Nat.zero_le _)) hS (fun _ h => h) (fun H locs hR _ _ hS => ?_)
  obtain ⟨X13, eX13⟩ : ∃ Y : gM, Y = (p_X9_digit X12 1 9).2 := ⟨_, rfl⟩
  rw [← eX13] at hR
  try replace hok := hok X13 eX13
  obtain ⟨h_14, hok⟩ := hok
  refine gm_iast hx hb hK.1 hR injM hS (a := 6) (by decide) rfl (fun r => bM_6) h_14 dX9_readTicket_93 (fun H locs hR hS => ?_)
  obtain ⟨X14, eX14⟩ : ∃ Y : gM, Y = updM X13 6 (((5 * (X 0 12)) + 4).toNatClampNeg) ((p_X9_digit X12 1 9).1) := ⟨_, rfl⟩
  rw [← eX14] at hR
  try replace hok := hok X14 eX14
  refine lv_aload_n hx hb dX9_readTicket_94 rfl (lv_at hl 1 rfl) ?_
  refine lv_dup hx hb dX9_readTicket_95 rfl ?_
  refine va_get (D := D) (ci := 9) (v := .int (X14 0 12)) (C := RX9) (T := TX9) (N := 15) hx hb hts inX9 hown hK.1 (MR.mk0 hR) 0 rfl rfl 12 (by decide) lk162 (fun _ h9 => h9) rfl dX9_readTicket_96 ?_
  refine lv_iconst (v := 1) hx hb dX9_readTicket_99 (by decide) ?_
  refine lv_iadd hx hb dX9_readTicket_100 ?_
  refine gm_put (v := .int ((X14 0 12) + 1)) (ty := .int) (ci := 9) (C := RX9) (T := TX9) (N := 15) hx hb hts inX9 tyX9 tyX9_ok nmX9 hown hK.1 hR injM hS (a := 0) (by decide) rfl bM_0 rfl 12 (by decide) lk162 (fun _ h9 => h9) rfl (by decide +kernel) rfl rfl (Nat.le_of_ble_eq_true rfl) (j := 12) (x := (X14 0 12) + 1) (by rw [bM_0]; rfl) dX9_readTicket_101 (fun H locs hR hS => ?_)
  obtain ⟨X15, eX15⟩ : ∃ Y : gM, Y = updM X14 0 12 ((X14 0 12) + 1) := ⟨_, rfl⟩
  rw [← eX15] at hR
  try replace hok := hok X15 eX15
  exact gm_vret hx hb hr hlocks hS (by (try simp only [p_X9_readTicket, ← eX1, ← eX2, ← eX3, ← eX4, ← eX5, ← eX6, ← eX7, ← eX8, ← eX9, ← eX10, ← eX11, ← eX12, ← eX13, ← eX14, ← eX15]); exact hR) dX9_readTicket_104
def lf_X9_readAll_19  (K : (gM) → (gM)) : Nat → (gM) → (gM)
  | 0, Z => K Z
  | n + 1, Z =>
    if Z 0 10 = 0 then
      if Z 0 7 ≤ Z 0 9 then
        K Z
      else
        let X1 := p_X9_takes Z 59
        if X1 0 10 = 0 then
          let X2 := p_X9_readTicket X1
          lf_X9_readAll_19 K n X2
        else
          lf_X9_readAll_19 K n X1
    else
      K Z
def lok_X9_readAll_19  (KO : (gM) → Prop) : Nat → (gM) → Prop
  | 0, Z => False
  | n + 1, Z =>
    (if Z 0 10 = 0 then
      (if Z 0 7 ≤ Z 0 9 then
        KO Z
      else
        (ok_X9_takes Z 59) ∧
        ∀ X1 : gM, X1 = p_X9_takes Z 59 →
        (if X1 0 10 = 0 then
          (ok_X9_readTicket X1) ∧
          ∀ X2 : gM, X2 = p_X9_readTicket X1 →
          lok_X9_readAll_19 KO n X2
        else
          lok_X9_readAll_19 KO n X1))
    else
      KO Z)
def p_X9_readAll (X : gM) : gM :=
  let X1 := updM X 0 9 0
  let X2 := updM X1 0 10 0
  let X3 := updM X2 0 12 0
  let X4 := p_X9_readTicket X3
  lf_X9_readAll_19  (fun X5 =>
        X5) 70 X4
def ok_X9_readAll (X : gM) : Prop :=
  ∀ X1 : gM, X1 = updM X 0 9 0 →
  ∀ X2 : gM, X2 = updM X1 0 10 0 →
  ∀ X3 : gM, X3 = updM X2 0 12 0 →
  (ok_X9_readTicket X3) ∧
  ∀ X4 : gM, X4 = p_X9_readTicket X3 →
  lok_X9_readAll_19  (fun X5 =>
        True) 70 X4
set_option maxHeartbeats 4000000 in
set_option maxRecDepth 100000 in
theorem lp_X9_readAll_19 {p : Program} {l : Launch} {e : Env} {s : State} {m : MethodId} {args : Array Value} {below : List Frame} {meth : Method} {c0 : Code} {D : va_G} {cy : Nat → ClassId} (C : gCtx cX9_readAll 1 none RX9 wsX9_readAll D cy p s m args meth c0) (μ : Nat) 
    (KO : (gM) → Prop) (K : (gM) → (gM)) (hexit : ∀ (Z : gM), KO Z → ∀ (H : Heap) (locs : List Loc) (ls : Array Slot), MR D cy μ Z H → va_S (MA μ) s.heap H locs → lv_has ls 1 [(0, .ref μ)] → W p l e { frames := 4, cells := 0, slots := 0, locals := 88 } s m args below meth c0 H locs 0 0 (MQ below (gQv (MR D cy μ (K Z)) (MA μ)) args s 0 0 (MA μ)) (F0 m 57 ls [])) :
    ∀ (n : Nat) (Z : gM), lok_X9_readAll_19 KO n Z → ∀ (H : Heap) (locs : List Loc) (ls : Array Slot), MR D cy μ Z H → va_S (MA μ) s.heap H locs → lv_has ls 1 [(0, .ref μ)] → W p l e { frames := 4, cells := 0, slots := 0, locals := 88 } s m args below meth c0 H locs 0 0 (MQ below (gQv (MR D cy μ (lf_X9_readAll_19 K n Z)) (MA μ)) args s 0 0 (MA μ)) (F0 m 19 ls []) := by
  obtain ⟨hx, hb, hr, hts, hown, hlocks, hml, hK⟩ := C
  have lk152 := hts (.fieldLink RX9 152 "MercuryLineModel" "isWrong" "Z") (by decide +kernel)
  have inX9 : ∀ w ∈ u_ws RX9 TX9 15, w ∈ wsX9_readAll := by decide +kernel
  have lk156 := hts (.fieldLink RX9 156 "MercuryLineModel" "at" "I") (by decide +kernel)
  have lk149 := hts (.fieldLink RX9 149 "MercuryLineModel" "length" "I") (by decide +kernel)
  intro n
  induction n with
  | zero =>
    intro Z  hok
    exact hok.elim
  | succ n ih =>
    intro Z  hok  H locs ls hR hS hl
    unfold lok_X9_readAll_19 at hok
    refine lv_aload_n hx hb dX9_readAll_19 rfl (lv_at hl 0 rfl) ?_
    refine va_get (D := D) (ci := 9) (v := .int (Z 0 10)) (C := RX9) (T := TX9) (N := 15) hx hb hts inX9 hown hK.1 (MR.mk0 hR) 0 rfl rfl 10 (by decide) lk152 (fun _ h9 => h9) rfl dX9_readAll_20 ?_
    refine lv_if_ne (tgt := 57) hx hb dX9_readAll_23 (by decide) (fun c_1 => ?_) (fun c_1 => ?_)
    · try rw [if_neg c_1] at hok
      refine gm_q (Q2 := MQ below (gQv (MR D cy μ (K Z)) (MA μ)) args s 0 0 (MA μ)) (by simp only [lf_X9_readAll_19, ↓if_neg c_1]) ?_
      exact hexit Z  hok _ _ _ hR hS (lv_sub hl [0] rfl)
    · try rw [if_pos c_1] at hok
      refine lv_aload_n hx hb dX9_readAll_26 rfl (lv_at hl 0 rfl) ?_
      refine va_get (D := D) (ci := 9) (v := .int (Z 0 9)) (C := RX9) (T := TX9) (N := 15) hx hb hts inX9 hown hK.1 (MR.mk0 hR) 0 rfl rfl 9 (by decide) lk156 (fun _ h9 => h9) rfl dX9_readAll_27 ?_
      refine lv_aload_n hx hb dX9_readAll_30 rfl (lv_at hl 0 rfl) ?_
      refine va_get (D := D) (ci := 9) (v := .int (Z 0 7)) (C := RX9) (T := TX9) (N := 15) hx hb hts inX9 hown hK.1 (MR.mk0 hR) 0 rfl rfl 7 (by decide) lk149 (fun _ h9 => h9) rfl dX9_readAll_31 ?_
      refine lv_icmp_ge (tgt := 57) hx hb dX9_readAll_34 (by decide) (fun c_2 => ?_) (fun c_2 => ?_)
      · try rw [if_pos c_2] at hok
        refine gm_q (Q2 := MQ below (gQv (MR D cy μ (K Z)) (MA μ)) args s 0 0 (MA μ)) (by simp only [lf_X9_readAll_19, ↓if_pos c_1, ↓if_pos c_2]) ?_
        exact hexit Z  hok _ _ _ hR hS (lv_sub hl [0] rfl)
      · try rw [if_neg c_2] at hok
        refine lv_aload_n hx hb dX9_readAll_37 rfl (lv_at hl 0 rfl) ?_
        refine lv_bipush (v := 59) hx hb dX9_readAll_38 (by decide) ?_
        obtain ⟨h_3, hok⟩ := hok
        refine gm_cv (gm_call (As := [.int 59]) (rest := []) (ci := 9) (q := (RX9, TX9, 15)) ⟨hx, hb, hml, hown, hts⟩ hK (c_X9_takes l D cy μ Z 59 h_3) (cwV 1 hts gX9_readAll_X9_takes rfl rfl rfl (by decide +kernel) ⟨Nat.le_of_ble_eq_true rfl, Nat.le_of_ble_eq_true rfl⟩) (MR.mk0 hR) rfl hR rfl hl.1 rfl (Nat.le_of_ble_eq_true rfl) dX9_readAll_40 (Nat.zero_le _) (Nat.zero_le _)) hS (fun _ h => h) (fun H locs hR _ _ hS => ?_)
        obtain ⟨X1, eX1⟩ : ∃ Y : gM, Y = p_X9_takes Z 59 := ⟨_, rfl⟩
        rw [← eX1] at hR
        try replace hok := hok X1 eX1
        refine lv_aload_n hx hb dX9_readAll_43 rfl (lv_at hl 0 rfl) ?_
        refine va_get (D := D) (ci := 9) (v := .int (X1 0 10)) (C := RX9) (T := TX9) (N := 15) hx hb hts inX9 hown hK.1 (MR.mk0 hR) 0 rfl rfl 10 (by decide) lk152 (fun _ h9 => h9) rfl dX9_readAll_44 ?_
        refine lv_if_ne (tgt := 19) hx hb dX9_readAll_47 (by decide) (fun c_4 => ?_) (fun c_4 => ?_)
        · try rw [if_neg c_4] at hok
          refine gm_q (Q2 := MQ below (gQv (MR D cy μ (lf_X9_readAll_19 K n X1)) (MA μ)) args s 0 0 (MA μ)) (by simp only [lf_X9_readAll_19, ↓if_pos c_1, ↓if_neg c_2, ↓if_neg c_4, ← eX1]) ?_
          exact ih X1  hok  _ _ _ hR hS (lv_sub hl [0] rfl)
        · try rw [if_pos c_4] at hok
          refine lv_aload_n hx hb dX9_readAll_50 rfl (lv_at hl 0 rfl) ?_
          obtain ⟨h_5, hok⟩ := hok
          refine gm_cv (gm_call (As := []) (rest := []) (ci := 9) (q := (RX9, TX9, 15)) ⟨hx, hb, hml, hown, hts⟩ hK (c_X9_readTicket l D cy μ X1 h_5) (cwV 0 hts gX9_readAll_X9_readTicket rfl rfl rfl (by decide +kernel) ⟨Nat.le_of_ble_eq_true rfl, Nat.le_of_ble_eq_true rfl⟩) (MR.mk0 hR) rfl hR rfl hl.1 rfl (Nat.le_of_ble_eq_true rfl) dX9_readAll_51 (Nat.zero_le _) (Nat.zero_le _)) hS (fun _ h => h) (fun H locs hR _ _ hS => ?_)
          obtain ⟨X2, eX2⟩ : ∃ Y : gM, Y = p_X9_readTicket X1 := ⟨_, rfl⟩
          rw [← eX2] at hR
          try replace hok := hok X2 eX2
          refine lv_goto (tgt := 19) hx hb dX9_readAll_54 (by decide) ?_
          refine gm_q (Q2 := MQ below (gQv (MR D cy μ (lf_X9_readAll_19 K n X2)) (MA μ)) args s 0 0 (MA μ)) (by simp only [lf_X9_readAll_19, ↓if_pos c_1, ↓if_neg c_2, ↓if_pos c_4, ← eX1, ← eX2]) ?_
          exact ih X2  hok  _ _ _ hR hS (lv_sub hl [0] rfl)
set_option maxHeartbeats 4000000 in
set_option maxRecDepth 100000 in
theorem c_X9_readAll (l : Launch) (D : va_G) (cy : Nat → ClassId) (μ : Nat) (X : gM)  (hok : ok_X9_readAll X) : Met l yX9_readAll wsX9_readAll ({ frames := 4, cells := 0, slots := 0, locals := 88 }) (gP [.ref μ] D cy (MR D cy μ X)) (gQv (MR D cy μ (p_X9_readAll X)) (MA μ)) 0 0 (MA μ) := by
  refine gm_met (cc := cX9_readAll) (maxL := 1) (ret := none) [.ref μ] (by decide) rfl (Nat.le_of_ble_eq_true rfl) ?_
  intro p e s m args below meth c0 ls C hR hl
  obtain ⟨hx, hb, hr, hts, hown, hlocks, hml, hK⟩ := C
  have hl : lv_has ls 1 [(0, .ref μ)] := hl
  have hS : va_S (MA μ) s.heap s.heap [] := va_S.rf
  have lk156 := hts (.fieldLink RX9 156 "MercuryLineModel" "at" "I") (by decide +kernel)
  have inX9 : ∀ w ∈ u_ws RX9 TX9 15, w ∈ wsX9_readAll := by decide +kernel
  have lk152 := hts (.fieldLink RX9 152 "MercuryLineModel" "isWrong" "Z") (by decide +kernel)
  have lk162 := hts (.fieldLink RX9 162 "MercuryLineModel" "readMany" "I") (by decide +kernel)
  unfold ok_X9_readAll at hok
  refine lv_aload_n hx hb dX9_readAll_0 rfl (lv_at hl 0 rfl) ?_
  refine lv_iconst (v := 0) hx hb dX9_readAll_1 (by decide) ?_
  refine gm_put (v := .int 0) (ty := .int) (ci := 9) (C := RX9) (T := TX9) (N := 15) hx hb hts inX9 tyX9 tyX9_ok nmX9 hown hK.1 hR injM hS (a := 0) (by decide) rfl bM_0 rfl 9 (by decide) lk156 (fun _ h9 => h9) rfl (by decide +kernel) rfl rfl (Nat.le_of_ble_eq_true rfl) (j := 9) (x := 0) (by rw [bM_0]; rfl) dX9_readAll_2 (fun H locs hR hS => ?_)
  obtain ⟨X1, eX1⟩ : ∃ Y : gM, Y = updM X 0 9 0 := ⟨_, rfl⟩
  rw [← eX1] at hR
  try replace hok := hok X1 eX1
  refine lv_aload_n hx hb dX9_readAll_5 rfl (lv_at hl 0 rfl) ?_
  refine lv_iconst (v := 0) hx hb dX9_readAll_6 (by decide) ?_
  refine gm_put (v := .int 0) (ty := .boolean) (ci := 9) (C := RX9) (T := TX9) (N := 15) hx hb hts inX9 tyX9 tyX9_ok nmX9 hown hK.1 hR injM hS (a := 0) (by decide) rfl bM_0 rfl 10 (by decide) lk152 (fun _ h9 => h9) rfl (by decide +kernel) rfl rfl (Nat.le_of_ble_eq_true rfl) (j := 10) (x := 0) (by rw [bM_0]; rfl) dX9_readAll_7 (fun H locs hR hS => ?_)
  obtain ⟨X2, eX2⟩ : ∃ Y : gM, Y = updM X1 0 10 0 := ⟨_, rfl⟩
  rw [← eX2] at hR
  try replace hok := hok X2 eX2
  refine lv_aload_n hx hb dX9_readAll_10 rfl (lv_at hl 0 rfl) ?_
  refine lv_iconst (v := 0) hx hb dX9_readAll_11 (by decide) ?_
  refine gm_put (v := .int 0) (ty := .int) (ci := 9) (C := RX9) (T := TX9) (N := 15) hx hb hts inX9 tyX9 tyX9_ok nmX9 hown hK.1 hR injM hS (a := 0) (by decide) rfl bM_0 rfl 12 (by decide) lk162 (fun _ h9 => h9) rfl (by decide +kernel) rfl rfl (Nat.le_of_ble_eq_true rfl) (j := 12) (x := 0) (by rw [bM_0]; rfl) dX9_readAll_12 (fun H locs hR hS => ?_)
  obtain ⟨X3, eX3⟩ : ∃ Y : gM, Y = updM X2 0 12 0 := ⟨_, rfl⟩
  rw [← eX3] at hR
  try replace hok := hok X3 eX3
  refine lv_aload_n hx hb dX9_readAll_15 rfl (lv_at hl 0 rfl) ?_
  obtain ⟨h_1, hok⟩ := hok
  refine gm_cv (gm_call (As := []) (rest := []) (ci := 9) (q := (RX9, TX9, 15)) ⟨hx, hb, hml, hown, hts⟩ hK (c_X9_readTicket l D cy μ X3 h_1) (cwV 0 hts gX9_readAll_X9_readTicket rfl rfl rfl (by decide +kernel) ⟨Nat.le_of_ble_eq_true rfl, Nat.le_of_ble_eq_true rfl⟩) (MR.mk0 hR) rfl hR rfl hl.1 rfl (Nat.le_of_ble_eq_true rfl) dX9_readAll_16 (Nat.zero_le _) (Nat.zero_le _)) hS (fun _ h => h) (fun H locs hR _ _ hS => ?_)
  obtain ⟨X4, eX4⟩ : ∃ Y : gM, Y = p_X9_readTicket X3 := ⟨_, rfl⟩
  rw [← eX4] at hR
  try replace hok := hok X4 eX4
  refine gm_q (Q2 := MQ below (gQv (MR D cy μ (lf_X9_readAll_19  (fun X5 =>
        X5) 70 X4)) (MA μ)) args s 0 0 (MA μ)) (by simp only [p_X9_readAll, ← eX1, ← eX2, ← eX3, ← eX4]) ?_
  refine lp_X9_readAll_19 ⟨hx, hb, hr, hts, hown, hlocks, hml, hK⟩ μ  _ _ (fun X5  hok H locs ls hR hS hl => ?_) 70 X4  hok _ _ _ hR hS (lv_sub hl [0] rfl)
  exact gm_vret hx hb hr hlocks hS (by (try simp only [p_X9_readAll, ← eX1, ← eX2, ← eX3, ← eX4]); exact hR) dX9_readAll_57
def lf_X9_readTickets_21 (Z : gM) (K : (Int32) → (Int32 × gM)) : Nat → (Int32) → (Int32 × gM)
  | 0, x_1 => K x_1
  | n + 1, x_1 =>
    if 5 * (Z 0 12) ≤ x_1 then
      K x_1
    else
      if 0 ≤ f_X9_against Z (Z 6 x_1.toNatClampNeg) (Z 6 ((x_1 + 1).toNatClampNeg)) (Z 6 ((x_1 + 2).toNatClampNeg)) (Z 6 ((x_1 + 3).toNatClampNeg)) (Z 6 ((x_1 + 4).toNatClampNeg)) then
        lf_X9_readTickets_21 Z K n (x_1 + 5)
      else
        (f_X9_against Z (Z 6 x_1.toNatClampNeg) (Z 6 ((x_1 + 1).toNatClampNeg)) (Z 6 ((x_1 + 2).toNatClampNeg)) (Z 6 ((x_1 + 3).toNatClampNeg)) (Z 6 ((x_1 + 4).toNatClampNeg)), Z)
def lok_X9_readTickets_21 (Z : gM) (KO : (Int32) → Prop) : Nat → (Int32) → Prop
  | 0, x_1 => False
  | n + 1, x_1 =>
    (if 5 * (Z 0 12) ≤ x_1 then
      KO x_1
    else
      (vp_in (x_1) 30) ∧
      (vp_in (x_1 + 1) 30) ∧
      (vp_in (x_1 + 2) 30) ∧
      (vp_in (x_1 + 3) 30) ∧
      (vp_in (x_1 + 4) 30) ∧
      (ok_X9_against Z (Z 6 x_1.toNatClampNeg) (Z 6 ((x_1 + 1).toNatClampNeg)) (Z 6 ((x_1 + 2).toNatClampNeg)) (Z 6 ((x_1 + 3).toNatClampNeg)) (Z 6 ((x_1 + 4).toNatClampNeg))) ∧
      (if 0 ≤ f_X9_against Z (Z 6 x_1.toNatClampNeg) (Z 6 ((x_1 + 1).toNatClampNeg)) (Z 6 ((x_1 + 2).toNatClampNeg)) (Z 6 ((x_1 + 3).toNatClampNeg)) (Z 6 ((x_1 + 4).toNatClampNeg)) then
        lok_X9_readTickets_21 Z KO n (x_1 + 5)
      else
        True))
def lf_X9_readTickets_113  (K : (gM) → (Int32) → (Int32) → (Int32 × gM)) : Nat → (gM) → (Int32) → (Int32) → (Int32 × gM)
  | 0, Z, x_1, x_2 => K Z x_1 x_2
  | n + 1, Z, x_1, x_2 =>
    if 5 * (Z 0 12) ≤ x_2 then
      K Z x_1 x_2
    else
      let X1 := (p_X9_comes Z (Z 6 x_2.toNatClampNeg) (Z 6 ((x_2 + 1).toNatClampNeg)) (Z 6 ((x_2 + 2).toNatClampNeg)) (Z 6 ((x_2 + 3).toNatClampNeg)) (Z 6 ((x_2 + 4).toNatClampNeg))).2
      lf_X9_readTickets_113 K n X1 (x_1 + (f_X9_of X1 ((p_X9_comes Z (Z 6 x_2.toNatClampNeg) (Z 6 ((x_2 + 1).toNatClampNeg)) (Z 6 ((x_2 + 2).toNatClampNeg)) (Z 6 ((x_2 + 3).toNatClampNeg)) (Z 6 ((x_2 + 4).toNatClampNeg))).1) 5)) (x_2 + 5)
def lok_X9_readTickets_113  (KO : (gM) → (Int32) → (Int32) → Prop) : Nat → (gM) → (Int32) → (Int32) → Prop
  | 0, Z, x_1, x_2 => False
  | n + 1, Z, x_1, x_2 =>
    (if 5 * (Z 0 12) ≤ x_2 then
      KO Z x_1 x_2
    else
      (vp_in (x_2) 30) ∧
      (vp_in (x_2 + 1) 30) ∧
      (vp_in (x_2 + 2) 30) ∧
      (vp_in (x_2 + 3) 30) ∧
      (vp_in (x_2 + 4) 30) ∧
      (ok_X9_comes Z (Z 6 x_2.toNatClampNeg) (Z 6 ((x_2 + 1).toNatClampNeg)) (Z 6 ((x_2 + 2).toNatClampNeg)) (Z 6 ((x_2 + 3).toNatClampNeg)) (Z 6 ((x_2 + 4).toNatClampNeg))) ∧
      ∀ X1 : gM, X1 = (p_X9_comes Z (Z 6 x_2.toNatClampNeg) (Z 6 ((x_2 + 1).toNatClampNeg)) (Z 6 ((x_2 + 2).toNatClampNeg)) (Z 6 ((x_2 + 3).toNatClampNeg)) (Z 6 ((x_2 + 4).toNatClampNeg))).2 →
      (ok_X9_of X1 ((p_X9_comes Z (Z 6 x_2.toNatClampNeg) (Z 6 ((x_2 + 1).toNatClampNeg)) (Z 6 ((x_2 + 2).toNatClampNeg)) (Z 6 ((x_2 + 3).toNatClampNeg)) (Z 6 ((x_2 + 4).toNatClampNeg))).1) 5) ∧
      lok_X9_readTickets_113 KO n X1 (x_1 + (f_X9_of X1 ((p_X9_comes Z (Z 6 x_2.toNatClampNeg) (Z 6 ((x_2 + 1).toNatClampNeg)) (Z 6 ((x_2 + 2).toNatClampNeg)) (Z 6 ((x_2 + 3).toNatClampNeg)) (Z 6 ((x_2 + 4).toNatClampNeg))).1) 5)) (x_2 + 5))
def p_X9_readTickets (X : gM) : Int32 × gM :=
  let X1 := p_X9_readAll X
  if X1 0 10 = 0 then
    lf_X9_readTickets_21 X1 (fun x_1w3 =>
          if (X1 1 1) + (X1 0 12) ≤ 40 then
            let X2 := p_X9_records X1
            lf_X9_readTickets_113  (fun X3 x_1w6 x_2w6 =>
            (x_1w6, X3)) 4294967296 X2 0 0
          else
            ((-3), X1)) 4294967296 0
  else
    ((-100) - (X1 0 9), X1)
def ok_X9_readTickets (X : gM) : Prop :=
  (ok_X9_readAll X) ∧
  ∀ X1 : gM, X1 = p_X9_readAll X →
  (if X1 0 10 = 0 then
    lok_X9_readTickets_21 X1 (fun x_1w3 =>
          (if (X1 1 1) + (X1 0 12) ≤ 40 then
            (ok_X9_records X1) ∧
            ∀ X2 : gM, X2 = p_X9_records X1 →
            lok_X9_readTickets_113  (fun X3 x_1w6 x_2w6 =>
            True) 4294967296 X2 0 0
          else
            True)) 4294967296 0
  else
    True)
set_option maxHeartbeats 4000000 in
set_option maxRecDepth 100000 in
theorem lp_X9_readTickets_21 {p : Program} {l : Launch} {e : Env} {s : State} {m : MethodId} {args : Array Value} {below : List Frame} {meth : Method} {c0 : Code} {D : va_G} {cy : Nat → ClassId} (C : gCtx cX9_readTickets 4 (some .int) RX9 wsX9_readTickets D cy p s m args meth c0) (μ : Nat) (Z : gM) 
    (KO : (Int32) → Prop) (K : (Int32) → (Int32 × gM)) (hexit : ∀ (x_1 : Int32), KO x_1 → ∀ (H : Heap) (locs : List Loc) (ls : Array Slot), MR D cy μ Z H → va_S (MA μ) s.heap H locs → lv_has ls 4 [(0, .ref μ), (1, .int x_1)] → W p l e { frames := 5, cells := 0, slots := 0, locals := 108 } s m args below meth c0 H locs 0 0 (MQ below (gQi (K x_1).1 (MR D cy μ (K x_1).2) (MA μ)) args s 0 0 (MA μ)) (F0 m 86 ls [])) :
    ∀ (n : Nat) (x_1 : Int32), lok_X9_readTickets_21 Z KO n x_1 → ∀ (H : Heap) (locs : List Loc) (ls : Array Slot), MR D cy μ Z H → va_S (MA μ) s.heap H locs → lv_has ls 4 [(0, .ref μ), (1, .int x_1)] → W p l e { frames := 5, cells := 0, slots := 0, locals := 108 } s m args below meth c0 H locs 0 0 (MQ below (gQi (lf_X9_readTickets_21 Z K n x_1).1 (MR D cy μ (lf_X9_readTickets_21 Z K n x_1).2) (MA μ)) args s 0 0 (MA μ)) (F0 m 21 ls []) := by
  obtain ⟨hx, hb, hr, hts, hown, hlocks, hml, hK⟩ := C
  have lk162 := hts (.fieldLink RX9 162 "MercuryLineModel" "readMany" "I") (by decide +kernel)
  have inX9 : ∀ w ∈ u_ws RX9 TX9 15, w ∈ wsX9_readTickets := by decide +kernel
  have lk26 := hts (.fieldLink RX9 26 "MercuryLineModel" "read" "[I") (by decide +kernel)
  intro n
  induction n with
  | zero =>
    intro x_1  hok
    exact hok.elim
  | succ n ih =>
    intro x_1  hok  H locs ls hR hS hl
    unfold lok_X9_readTickets_21 at hok
    refine lv_iload_n hx hb dX9_readTickets_21 rfl (lv_at hl 1 rfl) ?_
    refine lv_iconst (v := 5) hx hb dX9_readTickets_22 (by decide) ?_
    refine lv_aload_n hx hb dX9_readTickets_23 rfl (lv_at hl 0 rfl) ?_
    refine va_get (D := D) (ci := 9) (v := .int (Z 0 12)) (C := RX9) (T := TX9) (N := 15) hx hb hts inX9 hown hK.1 (MR.mk0 hR) 0 rfl rfl 12 (by decide) lk162 (fun _ h9 => h9) rfl dX9_readTickets_24 ?_
    refine lv_imul hx hb dX9_readTickets_27 ?_
    refine lv_icmp_ge (tgt := 86) hx hb dX9_readTickets_28 (by decide) (fun c_1 => ?_) (fun c_1 => ?_)
    · try rw [if_pos c_1] at hok
      refine gm_q (Q2 := MQ below (gQi (K x_1).1 (MR D cy μ (K x_1).2) (MA μ)) args s 0 0 (MA μ)) (by simp only [lf_X9_readTickets_21, ↓if_pos c_1]) ?_
      exact hexit x_1  hok _ _ _ hR hS (lv_sub hl [0, 1] rfl)
    · try rw [if_neg c_1] at hok
      refine lv_aload_n hx hb dX9_readTickets_31 rfl (lv_at hl 0 rfl) ?_
      refine lv_aload_n hx hb dX9_readTickets_32 rfl (lv_at hl 0 rfl) ?_
      refine va_get (D := D) (ci := 9) (v := .ref (μ + 6)) (C := RX9) (T := TX9) (N := 15) hx hb hts inX9 hown hK.1 (MR.mk0 hR) 0 rfl rfl 11 (by decide) lk26 (fun _ h9 => h9) rfl dX9_readTickets_33 ?_
      refine lv_iload_n hx hb dX9_readTickets_36 rfl (lv_at hl 1 rfl) ?_
      obtain ⟨h_2, hok⟩ := hok
      refine gm_iald hx hb hK.1 (MR.mk1 hR (c := 6) (by decide) bM_6) h_2 dX9_readTickets_37 ?_
      refine lv_aload_n hx hb dX9_readTickets_38 rfl (lv_at hl 0 rfl) ?_
      refine va_get (D := D) (ci := 9) (v := .ref (μ + 6)) (C := RX9) (T := TX9) (N := 15) hx hb hts inX9 hown hK.1 (MR.mk0 hR) 0 rfl rfl 11 (by decide) lk26 (fun _ h9 => h9) rfl dX9_readTickets_39 ?_
      refine lv_iload_n hx hb dX9_readTickets_42 rfl (lv_at hl 1 rfl) ?_
      refine lv_iconst (v := 1) hx hb dX9_readTickets_43 (by decide) ?_
      refine lv_iadd hx hb dX9_readTickets_44 ?_
      obtain ⟨h_3, hok⟩ := hok
      refine gm_iald hx hb hK.1 (MR.mk1 hR (c := 6) (by decide) bM_6) h_3 dX9_readTickets_45 ?_
      refine lv_aload_n hx hb dX9_readTickets_46 rfl (lv_at hl 0 rfl) ?_
      refine va_get (D := D) (ci := 9) (v := .ref (μ + 6)) (C := RX9) (T := TX9) (N := 15) hx hb hts inX9 hown hK.1 (MR.mk0 hR) 0 rfl rfl 11 (by decide) lk26 (fun _ h9 => h9) rfl dX9_readTickets_47 ?_
      refine lv_iload_n hx hb dX9_readTickets_50 rfl (lv_at hl 1 rfl) ?_
      refine lv_iconst (v := 2) hx hb dX9_readTickets_51 (by decide) ?_
      refine lv_iadd hx hb dX9_readTickets_52 ?_
      obtain ⟨h_4, hok⟩ := hok
      refine gm_iald hx hb hK.1 (MR.mk1 hR (c := 6) (by decide) bM_6) h_4 dX9_readTickets_53 ?_
      refine lv_aload_n hx hb dX9_readTickets_54 rfl (lv_at hl 0 rfl) ?_
      refine va_get (D := D) (ci := 9) (v := .ref (μ + 6)) (C := RX9) (T := TX9) (N := 15) hx hb hts inX9 hown hK.1 (MR.mk0 hR) 0 rfl rfl 11 (by decide) lk26 (fun _ h9 => h9) rfl dX9_readTickets_55 ?_
      refine lv_iload_n hx hb dX9_readTickets_58 rfl (lv_at hl 1 rfl) ?_
      refine lv_iconst (v := 3) hx hb dX9_readTickets_59 (by decide) ?_
      refine lv_iadd hx hb dX9_readTickets_60 ?_
      obtain ⟨h_5, hok⟩ := hok
      refine gm_iald hx hb hK.1 (MR.mk1 hR (c := 6) (by decide) bM_6) h_5 dX9_readTickets_61 ?_
      refine lv_aload_n hx hb dX9_readTickets_62 rfl (lv_at hl 0 rfl) ?_
      refine va_get (D := D) (ci := 9) (v := .ref (μ + 6)) (C := RX9) (T := TX9) (N := 15) hx hb hts inX9 hown hK.1 (MR.mk0 hR) 0 rfl rfl 11 (by decide) lk26 (fun _ h9 => h9) rfl dX9_readTickets_63 ?_
      refine lv_iload_n hx hb dX9_readTickets_66 rfl (lv_at hl 1 rfl) ?_
      refine lv_iconst (v := 4) hx hb dX9_readTickets_67 (by decide) ?_
      refine lv_iadd hx hb dX9_readTickets_68 ?_
      obtain ⟨h_6, hok⟩ := hok
      refine gm_iald hx hb hK.1 (MR.mk1 hR (c := 6) (by decide) bM_6) h_6 dX9_readTickets_69 ?_
      obtain ⟨h_7, hok⟩ := hok
      refine gm_ci (gm_call (As := [.int (Z 6 x_1.toNatClampNeg), .int (Z 6 ((x_1 + 1).toNatClampNeg)), .int (Z 6 ((x_1 + 2).toNatClampNeg)), .int (Z 6 ((x_1 + 3).toNatClampNeg)), .int (Z 6 ((x_1 + 4).toNatClampNeg))]) (rest := []) (ci := 9) (q := (RX9, TX9, 15)) ⟨hx, hb, hml, hown, hts⟩ hK (c_X9_against l D cy μ Z (Z 6 x_1.toNatClampNeg) (Z 6 ((x_1 + 1).toNatClampNeg)) (Z 6 ((x_1 + 2).toNatClampNeg)) (Z 6 ((x_1 + 3).toNatClampNeg)) (Z 6 ((x_1 + 4).toNatClampNeg)) h_7) (cwV 5 hts gX9_readTickets_X9_against rfl rfl rfl (by decide +kernel) ⟨Nat.le_of_ble_eq_true rfl, Nat.le_of_ble_eq_true rfl⟩) (MR.mk0 hR) rfl hR rfl hl.1 rfl (Nat.le_of_ble_eq_true rfl) dX9_readTickets_70 (Nat.zero_le _) (Nat.zero_le _)) hS (fun _ h => h.elim) (fun H locs _ _ hfr hS => ?_)
      have hR := gRep.keep hR hfr (fun _ _ h => h)
      refine lv_istore_n (lv' := [(2, .int (f_X9_against Z (Z 6 x_1.toNatClampNeg) (Z 6 ((x_1 + 1).toNatClampNeg)) (Z 6 ((x_1 + 2).toNatClampNeg)) (Z 6 ((x_1 + 3).toNatClampNeg)) (Z 6 ((x_1 + 4).toNatClampNeg)))), (0, .ref μ), (1, .int x_1)]) hx hb dX9_readTickets_73 rfl hl (by decide) rfl (fun ls hl => ?_)
      refine lv_iload_n hx hb dX9_readTickets_74 rfl (lv_at hl 0 rfl) ?_
      refine lv_if_ge (tgt := 80) hx hb dX9_readTickets_75 (by decide) (fun c_8 => ?_) (fun c_8 => ?_)
      · try rw [if_pos c_8] at hok
        refine lv_iinc (v := x_1 + 5) (lv' := [(1, .int (x_1 + 5)), (2, .int (f_X9_against Z (Z 6 x_1.toNatClampNeg) (Z 6 ((x_1 + 1).toNatClampNeg)) (Z 6 ((x_1 + 2).toNatClampNeg)) (Z 6 ((x_1 + 3).toNatClampNeg)) (Z 6 ((x_1 + 4).toNatClampNeg)))), (0, .ref μ)]) hx hb dX9_readTickets_80 hl (k := 2) rfl rfl (by decide) rfl (fun ls hl => ?_)
        refine lv_goto (tgt := 21) hx hb dX9_readTickets_83 (by decide) ?_
        refine gm_q (Q2 := MQ below (gQi (lf_X9_readTickets_21 Z K n (x_1 + 5)).1 (MR D cy μ (lf_X9_readTickets_21 Z K n (x_1 + 5)).2) (MA μ)) args s 0 0 (MA μ)) (by simp only [lf_X9_readTickets_21, ↓if_neg c_1, ↓if_pos c_8]) ?_
        exact ih (x_1 + 5)  hok  _ _ _ hR hS (lv_sub hl [2, 0] rfl)
      · try rw [if_neg c_8] at hok
        refine lv_iload_n hx hb dX9_readTickets_78 rfl (lv_at hl 0 rfl) ?_
        exact gm_iret hx hb hr hlocks hS (by (try simp only [lf_X9_readTickets_21, ↓if_neg c_1, ↓if_neg c_8]); (try rfl)) (by (try simp only [lf_X9_readTickets_21, ↓if_neg c_1, ↓if_neg c_8]); exact hR) dX9_readTickets_79
set_option maxHeartbeats 4000000 in
set_option maxRecDepth 100000 in
theorem lp_X9_readTickets_113 {p : Program} {l : Launch} {e : Env} {s : State} {m : MethodId} {args : Array Value} {below : List Frame} {meth : Method} {c0 : Code} {D : va_G} {cy : Nat → ClassId} (C : gCtx cX9_readTickets 4 (some .int) RX9 wsX9_readTickets D cy p s m args meth c0) (μ : Nat) 
    (KO : (gM) → (Int32) → (Int32) → Prop) (K : (gM) → (Int32) → (Int32) → (Int32 × gM)) (hexit : ∀ (Z : gM) (x_1 : Int32) (x_2 : Int32), KO Z x_1 x_2 → ∀ (H : Heap) (locs : List Loc) (ls : Array Slot), MR D cy μ Z H → va_S (MA μ) s.heap H locs → lv_has ls 4 [(0, .ref μ), (1, .int x_1), (2, .int x_2)] → W p l e { frames := 5, cells := 0, slots := 0, locals := 108 } s m args below meth c0 H locs 0 0 (MQ below (gQi (K Z x_1 x_2).1 (MR D cy μ (K Z x_1 x_2).2) (MA μ)) args s 0 0 (MA μ)) (F0 m 181 ls [])) :
    ∀ (n : Nat) (Z : gM) (x_1 : Int32) (x_2 : Int32), lok_X9_readTickets_113 KO n Z x_1 x_2 → ∀ (H : Heap) (locs : List Loc) (ls : Array Slot), MR D cy μ Z H → va_S (MA μ) s.heap H locs → lv_has ls 4 [(0, .ref μ), (1, .int x_1), (2, .int x_2)] → W p l e { frames := 5, cells := 0, slots := 0, locals := 108 } s m args below meth c0 H locs 0 0 (MQ below (gQi (lf_X9_readTickets_113 K n Z x_1 x_2).1 (MR D cy μ (lf_X9_readTickets_113 K n Z x_1 x_2).2) (MA μ)) args s 0 0 (MA μ)) (F0 m 113 ls []) := by
  obtain ⟨hx, hb, hr, hts, hown, hlocks, hml, hK⟩ := C
  have lk162 := hts (.fieldLink RX9 162 "MercuryLineModel" "readMany" "I") (by decide +kernel)
  have inX9 : ∀ w ∈ u_ws RX9 TX9 15, w ∈ wsX9_readTickets := by decide +kernel
  have lk26 := hts (.fieldLink RX9 26 "MercuryLineModel" "read" "[I") (by decide +kernel)
  intro n
  induction n with
  | zero =>
    intro Z x_1 x_2  hok
    exact hok.elim
  | succ n ih =>
    intro Z x_1 x_2  hok  H locs ls hR hS hl
    unfold lok_X9_readTickets_113 at hok
    refine lv_iload_n hx hb dX9_readTickets_113 rfl (lv_at hl 2 rfl) ?_
    refine lv_iconst (v := 5) hx hb dX9_readTickets_114 (by decide) ?_
    refine lv_aload_n hx hb dX9_readTickets_115 rfl (lv_at hl 0 rfl) ?_
    refine va_get (D := D) (ci := 9) (v := .int (Z 0 12)) (C := RX9) (T := TX9) (N := 15) hx hb hts inX9 hown hK.1 (MR.mk0 hR) 0 rfl rfl 12 (by decide) lk162 (fun _ h9 => h9) rfl dX9_readTickets_116 ?_
    refine lv_imul hx hb dX9_readTickets_119 ?_
    refine lv_icmp_ge (tgt := 181) hx hb dX9_readTickets_120 (by decide) (fun c_1 => ?_) (fun c_1 => ?_)
    · try rw [if_pos c_1] at hok
      refine gm_q (Q2 := MQ below (gQi (K Z x_1 x_2).1 (MR D cy μ (K Z x_1 x_2).2) (MA μ)) args s 0 0 (MA μ)) (by simp only [lf_X9_readTickets_113, ↓if_pos c_1]) ?_
      exact hexit Z x_1 x_2  hok _ _ _ hR hS (lv_sub hl [0, 1, 2] rfl)
    · try rw [if_neg c_1] at hok
      refine lv_aload_n hx hb dX9_readTickets_123 rfl (lv_at hl 0 rfl) ?_
      refine lv_aload_n hx hb dX9_readTickets_124 rfl (lv_at hl 0 rfl) ?_
      refine va_get (D := D) (ci := 9) (v := .ref (μ + 6)) (C := RX9) (T := TX9) (N := 15) hx hb hts inX9 hown hK.1 (MR.mk0 hR) 0 rfl rfl 11 (by decide) lk26 (fun _ h9 => h9) rfl dX9_readTickets_125 ?_
      refine lv_iload_n hx hb dX9_readTickets_128 rfl (lv_at hl 2 rfl) ?_
      obtain ⟨h_2, hok⟩ := hok
      refine gm_iald hx hb hK.1 (MR.mk1 hR (c := 6) (by decide) bM_6) h_2 dX9_readTickets_129 ?_
      refine lv_aload_n hx hb dX9_readTickets_130 rfl (lv_at hl 0 rfl) ?_
      refine va_get (D := D) (ci := 9) (v := .ref (μ + 6)) (C := RX9) (T := TX9) (N := 15) hx hb hts inX9 hown hK.1 (MR.mk0 hR) 0 rfl rfl 11 (by decide) lk26 (fun _ h9 => h9) rfl dX9_readTickets_131 ?_
      refine lv_iload_n hx hb dX9_readTickets_134 rfl (lv_at hl 2 rfl) ?_
      refine lv_iconst (v := 1) hx hb dX9_readTickets_135 (by decide) ?_
      refine lv_iadd hx hb dX9_readTickets_136 ?_
      obtain ⟨h_3, hok⟩ := hok
      refine gm_iald hx hb hK.1 (MR.mk1 hR (c := 6) (by decide) bM_6) h_3 dX9_readTickets_137 ?_
      refine lv_aload_n hx hb dX9_readTickets_138 rfl (lv_at hl 0 rfl) ?_
      refine va_get (D := D) (ci := 9) (v := .ref (μ + 6)) (C := RX9) (T := TX9) (N := 15) hx hb hts inX9 hown hK.1 (MR.mk0 hR) 0 rfl rfl 11 (by decide) lk26 (fun _ h9 => h9) rfl dX9_readTickets_139 ?_
      refine lv_iload_n hx hb dX9_readTickets_142 rfl (lv_at hl 2 rfl) ?_
      refine lv_iconst (v := 2) hx hb dX9_readTickets_143 (by decide) ?_
      refine lv_iadd hx hb dX9_readTickets_144 ?_
      obtain ⟨h_4, hok⟩ := hok
      refine gm_iald hx hb hK.1 (MR.mk1 hR (c := 6) (by decide) bM_6) h_4 dX9_readTickets_145 ?_
      refine lv_aload_n hx hb dX9_readTickets_146 rfl (lv_at hl 0 rfl) ?_
      refine va_get (D := D) (ci := 9) (v := .ref (μ + 6)) (C := RX9) (T := TX9) (N := 15) hx hb hts inX9 hown hK.1 (MR.mk0 hR) 0 rfl rfl 11 (by decide) lk26 (fun _ h9 => h9) rfl dX9_readTickets_147 ?_
      refine lv_iload_n hx hb dX9_readTickets_150 rfl (lv_at hl 2 rfl) ?_
      refine lv_iconst (v := 3) hx hb dX9_readTickets_151 (by decide) ?_
      refine lv_iadd hx hb dX9_readTickets_152 ?_
      obtain ⟨h_5, hok⟩ := hok
      refine gm_iald hx hb hK.1 (MR.mk1 hR (c := 6) (by decide) bM_6) h_5 dX9_readTickets_153 ?_
      refine lv_aload_n hx hb dX9_readTickets_154 rfl (lv_at hl 0 rfl) ?_
      refine va_get (D := D) (ci := 9) (v := .ref (μ + 6)) (C := RX9) (T := TX9) (N := 15) hx hb hts inX9 hown hK.1 (MR.mk0 hR) 0 rfl rfl 11 (by decide) lk26 (fun _ h9 => h9) rfl dX9_readTickets_155 ?_
      refine lv_iload_n hx hb dX9_readTickets_158 rfl (lv_at hl 2 rfl) ?_
      refine lv_iconst (v := 4) hx hb dX9_readTickets_159 (by decide) ?_
      refine lv_iadd hx hb dX9_readTickets_160 ?_
      obtain ⟨h_6, hok⟩ := hok
      refine gm_iald hx hb hK.1 (MR.mk1 hR (c := 6) (by decide) bM_6) h_6 dX9_readTickets_161 ?_
      obtain ⟨h_7, hok⟩ := hok
      refine gm_ci (gm_call (As := [.int (Z 6 x_2.toNatClampNeg), .int (Z 6 ((x_2 + 1).toNatClampNeg)), .int (Z 6 ((x_2 + 2).toNatClampNeg)), .int (Z 6 ((x_2 + 3).toNatClampNeg)), .int (Z 6 ((x_2 + 4).toNatClampNeg))]) (rest := []) (ci := 9) (q := (RX9, TX9, 15)) ⟨hx, hb, hml, hown, hts⟩ hK (c_X9_comes l D cy μ Z (Z 6 x_2.toNatClampNeg) (Z 6 ((x_2 + 1).toNatClampNeg)) (Z 6 ((x_2 + 2).toNatClampNeg)) (Z 6 ((x_2 + 3).toNatClampNeg)) (Z 6 ((x_2 + 4).toNatClampNeg)) h_7) (cwV 5 hts gX9_readTickets_X9_comes rfl rfl rfl (by decide +kernel) ⟨Nat.le_of_ble_eq_true rfl, Nat.le_of_ble_eq_true rfl⟩) (MR.mk0 hR) rfl hR rfl hl.1 rfl (Nat.le_of_ble_eq_true rfl) dX9_readTickets_162 (Nat.zero_le _) (Nat.zero_le _)) hS (fun _ h => h) (fun H locs hR _ _ hS => ?_)
      obtain ⟨X1, eX1⟩ : ∃ Y : gM, Y = (p_X9_comes Z (Z 6 x_2.toNatClampNeg) (Z 6 ((x_2 + 1).toNatClampNeg)) (Z 6 ((x_2 + 2).toNatClampNeg)) (Z 6 ((x_2 + 3).toNatClampNeg)) (Z 6 ((x_2 + 4).toNatClampNeg))).2 := ⟨_, rfl⟩
      rw [← eX1] at hR
      try replace hok := hok X1 eX1
      refine lv_istore_n (lv' := [(3, .int ((p_X9_comes Z (Z 6 x_2.toNatClampNeg) (Z 6 ((x_2 + 1).toNatClampNeg)) (Z 6 ((x_2 + 2).toNatClampNeg)) (Z 6 ((x_2 + 3).toNatClampNeg)) (Z 6 ((x_2 + 4).toNatClampNeg))).1)), (0, .ref μ), (1, .int x_1), (2, .int x_2)]) hx hb dX9_readTickets_165 rfl hl (by decide) rfl (fun ls hl => ?_)
      refine lv_iload_n hx hb dX9_readTickets_166 rfl (lv_at hl 2 rfl) ?_
      refine lv_aload_n hx hb dX9_readTickets_167 rfl (lv_at hl 1 rfl) ?_
      refine lv_iload_n hx hb dX9_readTickets_168 rfl (lv_at hl 0 rfl) ?_
      refine lv_iconst (v := 5) hx hb dX9_readTickets_169 (by decide) ?_
      obtain ⟨h_8, hok⟩ := hok
      refine gm_ci (gm_call (As := [.int ((p_X9_comes Z (Z 6 x_2.toNatClampNeg) (Z 6 ((x_2 + 1).toNatClampNeg)) (Z 6 ((x_2 + 2).toNatClampNeg)) (Z 6 ((x_2 + 3).toNatClampNeg)) (Z 6 ((x_2 + 4).toNatClampNeg))).1), .int 5]) (rest := [.int x_1]) (ci := 9) (q := (RX9, TX9, 15)) ⟨hx, hb, hml, hown, hts⟩ hK (c_X9_of l D cy μ X1 ((p_X9_comes Z (Z 6 x_2.toNatClampNeg) (Z 6 ((x_2 + 1).toNatClampNeg)) (Z 6 ((x_2 + 2).toNatClampNeg)) (Z 6 ((x_2 + 3).toNatClampNeg)) (Z 6 ((x_2 + 4).toNatClampNeg))).1) 5 h_8) (cwV 2 hts gX9_readTickets_X9_of rfl rfl rfl (by decide +kernel) ⟨Nat.le_of_ble_eq_true rfl, Nat.le_of_ble_eq_true rfl⟩) (MR.mk0 hR) rfl hR rfl hl.1 rfl (Nat.le_of_ble_eq_true rfl) dX9_readTickets_170 (Nat.zero_le _) (Nat.zero_le _)) hS (fun _ h => h.elim) (fun H locs _ _ hfr hS => ?_)
      have hR := gRep.keep hR hfr (fun _ _ h => h)
      refine lv_iadd hx hb dX9_readTickets_173 ?_
      refine lv_istore_n (lv' := [(1, .int (x_1 + (f_X9_of X1 ((p_X9_comes Z (Z 6 x_2.toNatClampNeg) (Z 6 ((x_2 + 1).toNatClampNeg)) (Z 6 ((x_2 + 2).toNatClampNeg)) (Z 6 ((x_2 + 3).toNatClampNeg)) (Z 6 ((x_2 + 4).toNatClampNeg))).1) 5))), (3, .int ((p_X9_comes Z (Z 6 x_2.toNatClampNeg) (Z 6 ((x_2 + 1).toNatClampNeg)) (Z 6 ((x_2 + 2).toNatClampNeg)) (Z 6 ((x_2 + 3).toNatClampNeg)) (Z 6 ((x_2 + 4).toNatClampNeg))).1)), (0, .ref μ), (2, .int x_2)]) hx hb dX9_readTickets_174 rfl hl (by decide) rfl (fun ls hl => ?_)
      refine lv_iinc (v := x_2 + 5) (lv' := [(2, .int (x_2 + 5)), (1, .int (x_1 + (f_X9_of X1 ((p_X9_comes Z (Z 6 x_2.toNatClampNeg) (Z 6 ((x_2 + 1).toNatClampNeg)) (Z 6 ((x_2 + 2).toNatClampNeg)) (Z 6 ((x_2 + 3).toNatClampNeg)) (Z 6 ((x_2 + 4).toNatClampNeg))).1) 5))), (3, .int ((p_X9_comes Z (Z 6 x_2.toNatClampNeg) (Z 6 ((x_2 + 1).toNatClampNeg)) (Z 6 ((x_2 + 2).toNatClampNeg)) (Z 6 ((x_2 + 3).toNatClampNeg)) (Z 6 ((x_2 + 4).toNatClampNeg))).1)), (0, .ref μ)]) hx hb dX9_readTickets_175 hl (k := 3) rfl rfl (by decide) rfl (fun ls hl => ?_)
      refine lv_goto (tgt := 113) hx hb dX9_readTickets_178 (by decide) ?_
      refine gm_q (Q2 := MQ below (gQi (lf_X9_readTickets_113 K n X1 (x_1 + (f_X9_of X1 ((p_X9_comes Z (Z 6 x_2.toNatClampNeg) (Z 6 ((x_2 + 1).toNatClampNeg)) (Z 6 ((x_2 + 2).toNatClampNeg)) (Z 6 ((x_2 + 3).toNatClampNeg)) (Z 6 ((x_2 + 4).toNatClampNeg))).1) 5)) (x_2 + 5)).1 (MR D cy μ (lf_X9_readTickets_113 K n X1 (x_1 + (f_X9_of X1 ((p_X9_comes Z (Z 6 x_2.toNatClampNeg) (Z 6 ((x_2 + 1).toNatClampNeg)) (Z 6 ((x_2 + 2).toNatClampNeg)) (Z 6 ((x_2 + 3).toNatClampNeg)) (Z 6 ((x_2 + 4).toNatClampNeg))).1) 5)) (x_2 + 5)).2) (MA μ)) args s 0 0 (MA μ)) (by simp only [lf_X9_readTickets_113, ↓if_neg c_1, ← eX1]) ?_
      exact ih X1 (x_1 + (f_X9_of X1 ((p_X9_comes Z (Z 6 x_2.toNatClampNeg) (Z 6 ((x_2 + 1).toNatClampNeg)) (Z 6 ((x_2 + 2).toNatClampNeg)) (Z 6 ((x_2 + 3).toNatClampNeg)) (Z 6 ((x_2 + 4).toNatClampNeg))).1) 5)) (x_2 + 5)  hok  _ _ _ hR hS (lv_sub hl [3, 1, 0] rfl)
set_option maxHeartbeats 4000000 in
set_option maxRecDepth 100000 in
theorem c_X9_readTickets (l : Launch) (D : va_G) (cy : Nat → ClassId) (μ : Nat) (X : gM)  (hok : ok_X9_readTickets X) : Met l yX9_readTickets wsX9_readTickets ({ frames := 5, cells := 0, slots := 0, locals := 108 }) (gP [.ref μ] D cy (MR D cy μ X)) (gQi (p_X9_readTickets X).1 (MR D cy μ (p_X9_readTickets X).2) (MA μ)) 0 0 (MA μ) := by
  refine gm_met (cc := cX9_readTickets) (maxL := 4) (ret := (some .int)) [.ref μ] (by decide) rfl (Nat.le_of_ble_eq_true rfl) ?_
  intro p e s m args below meth c0 ls C hR hl
  obtain ⟨hx, hb, hr, hts, hown, hlocks, hml, hK⟩ := C
  have hl : lv_has ls 4 [(0, .ref μ)] := hl
  have hS : va_S (MA μ) s.heap s.heap [] := va_S.rf
  have lk152 := hts (.fieldLink RX9 152 "MercuryLineModel" "isWrong" "Z") (by decide +kernel)
  have inX9 : ∀ w ∈ u_ws RX9 TX9 15, w ∈ wsX9_readTickets := by decide +kernel
  have lk7 := hts (.fieldLink RX9 7 "MercuryLineModel" "s" "[I") (by decide +kernel)
  have lk162 := hts (.fieldLink RX9 162 "MercuryLineModel" "readMany" "I") (by decide +kernel)
  have lk156 := hts (.fieldLink RX9 156 "MercuryLineModel" "at" "I") (by decide +kernel)
  unfold ok_X9_readTickets at hok
  refine lv_aload_n hx hb dX9_readTickets_0 rfl (lv_at hl 0 rfl) ?_
  obtain ⟨h_1, hok⟩ := hok
  refine gm_cv (gm_call (As := []) (rest := []) (ci := 9) (q := (RX9, TX9, 15)) ⟨hx, hb, hml, hown, hts⟩ hK (c_X9_readAll l D cy μ X h_1) (cwV 0 hts gX9_readTickets_X9_readAll rfl rfl rfl (by decide +kernel) ⟨Nat.le_of_ble_eq_true rfl, Nat.le_of_ble_eq_true rfl⟩) (MR.mk0 hR) rfl hR rfl hl.1 rfl (Nat.le_of_ble_eq_true rfl) dX9_readTickets_1 (Nat.zero_le _) (Nat.zero_le _)) hS (fun _ h => h) (fun H locs hR _ _ hS => ?_)
  obtain ⟨X1, eX1⟩ : ∃ Y : gM, Y = p_X9_readAll X := ⟨_, rfl⟩
  rw [← eX1] at hR
  try replace hok := hok X1 eX1
  refine lv_aload_n hx hb dX9_readTickets_4 rfl (lv_at hl 0 rfl) ?_
  refine va_get (D := D) (ci := 9) (v := .int (X1 0 10)) (C := RX9) (T := TX9) (N := 15) hx hb hts inX9 hown hK.1 (MR.mk0 hR) 0 rfl rfl 10 (by decide) lk152 (fun _ h9 => h9) rfl dX9_readTickets_5 ?_
  refine lv_if_eq (tgt := 19) hx hb dX9_readTickets_8 (by decide) (fun c_2 => ?_) (fun c_2 => ?_)
  · try rw [if_pos c_2] at hok
    refine lv_iconst (v := 0) hx hb dX9_readTickets_19 (by decide) ?_
    refine lv_istore_n (lv' := [(1, .int 0), (0, .ref μ)]) hx hb dX9_readTickets_20 rfl hl (by decide) rfl (fun ls hl => ?_)
    refine gm_q (Q2 := MQ below (gQi (lf_X9_readTickets_21 X1 (fun x_1w3 =>
          if (X1 1 1) + (X1 0 12) ≤ 40 then
            let X2 := p_X9_records X1
            lf_X9_readTickets_113  (fun X3 x_1w6 x_2w6 =>
            (x_1w6, X3)) 4294967296 X2 0 0
          else
            ((-3), X1)) 4294967296 0).1 (MR D cy μ (lf_X9_readTickets_21 X1 (fun x_1w3 =>
          if (X1 1 1) + (X1 0 12) ≤ 40 then
            let X2 := p_X9_records X1
            lf_X9_readTickets_113  (fun X3 x_1w6 x_2w6 =>
            (x_1w6, X3)) 4294967296 X2 0 0
          else
            ((-3), X1)) 4294967296 0).2) (MA μ)) args s 0 0 (MA μ)) (by simp only [p_X9_readTickets, ↓if_pos c_2, ← eX1]) ?_
    refine lp_X9_readTickets_21 ⟨hx, hb, hr, hts, hown, hlocks, hml, hK⟩ μ X1  _ _ (fun x_1w3  hok H locs ls hR hS hl => ?_) 4294967296 0  hok _ _ _ hR hS (lv_sub hl [1, 0] rfl)
    refine lv_aload_n hx hb dX9_readTickets_86 rfl (lv_at hl 0 rfl) ?_
    refine va_get (D := D) (ci := 9) (v := .ref (μ + 1)) (C := RX9) (T := TX9) (N := 15) hx hb hts inX9 hown hK.1 (MR.mk0 hR) 0 rfl rfl 0 (by decide) lk7 (fun _ h9 => h9) rfl dX9_readTickets_87 ?_
    refine lv_iconst (v := 1) hx hb dX9_readTickets_90 (by decide) ?_
    refine gm_iald hx hb hK.1 (MR.mk1 hR (c := 1) (by decide) bM_1) (vp_in_iff.mpr (by decide)) dX9_readTickets_91 ?_
    rw [show (1 : Int32).toNatClampNeg = 1 from by decide]
    refine lv_aload_n hx hb dX9_readTickets_92 rfl (lv_at hl 0 rfl) ?_
    refine va_get (D := D) (ci := 9) (v := .int (X1 0 12)) (C := RX9) (T := TX9) (N := 15) hx hb hts inX9 hown hK.1 (MR.mk0 hR) 0 rfl rfl 12 (by decide) lk162 (fun _ h9 => h9) rfl dX9_readTickets_93 ?_
    refine lv_iadd hx hb dX9_readTickets_96 ?_
    refine lv_bipush (v := 40) hx hb dX9_readTickets_97 (by decide) ?_
    refine lv_icmp_le (tgt := 105) hx hb dX9_readTickets_99 (by decide) (fun c_4 => ?_) (fun c_4 => ?_)
    · try rw [if_pos c_4] at hok
      refine lv_aload_n hx hb dX9_readTickets_105 rfl (lv_at hl 0 rfl) ?_
      obtain ⟨h_5, hok⟩ := hok
      refine gm_cv (gm_call (As := []) (rest := []) (ci := 9) (q := (RX9, TX9, 15)) ⟨hx, hb, hml, hown, hts⟩ hK (c_X9_records l D cy μ X1 h_5) (cwV 0 hts gX9_readTickets_X9_records rfl rfl rfl (by decide +kernel) ⟨Nat.le_of_ble_eq_true rfl, Nat.le_of_ble_eq_true rfl⟩) (MR.mk0 hR) rfl hR rfl hl.1 rfl (Nat.le_of_ble_eq_true rfl) dX9_readTickets_106 (Nat.zero_le _) (Nat.zero_le _)) hS (fun _ h => h) (fun H locs hR _ _ hS => ?_)
      obtain ⟨X2, eX2⟩ : ∃ Y : gM, Y = p_X9_records X1 := ⟨_, rfl⟩
      rw [← eX2] at hR
      try replace hok := hok X2 eX2
      refine lv_iconst (v := 0) hx hb dX9_readTickets_109 (by decide) ?_
      refine lv_istore_n (lv' := [(1, .int 0), (0, .ref μ)]) hx hb dX9_readTickets_110 rfl hl (by decide) rfl (fun ls hl => ?_)
      refine lv_iconst (v := 0) hx hb dX9_readTickets_111 (by decide) ?_
      refine lv_istore_n (lv' := [(2, .int 0), (1, .int 0), (0, .ref μ)]) hx hb dX9_readTickets_112 rfl hl (by decide) rfl (fun ls hl => ?_)
      refine gm_q (Q2 := MQ below (gQi (lf_X9_readTickets_113  (fun X3 x_1w6 x_2w6 =>
            (x_1w6, X3)) 4294967296 X2 0 0).1 (MR D cy μ (lf_X9_readTickets_113  (fun X3 x_1w6 x_2w6 =>
            (x_1w6, X3)) 4294967296 X2 0 0).2) (MA μ)) args s 0 0 (MA μ)) (by simp only [p_X9_readTickets, ↓if_pos c_2, ↓if_pos c_4, ← eX1, ← eX2]) ?_
      refine lp_X9_readTickets_113 ⟨hx, hb, hr, hts, hown, hlocks, hml, hK⟩ μ  _ _ (fun X3 x_1w6 x_2w6  hok H locs ls hR hS hl => ?_) 4294967296 X2 0 0  hok _ _ _ hR hS (lv_sub hl [2, 1, 0] rfl)
      refine lv_iload_n hx hb dX9_readTickets_181 rfl (lv_at hl 1 rfl) ?_
      exact gm_iret hx hb hr hlocks hS (by (try simp only [p_X9_readTickets, ↓if_pos c_2, ↓if_pos c_4, ← eX1, ← eX2]); (try rfl)) (by (try simp only [p_X9_readTickets, ↓if_pos c_2, ↓if_pos c_4, ← eX1, ← eX2]); exact hR) dX9_readTickets_182
    · try rw [if_neg c_4] at hok
      refine lv_bipush (v := (-3)) hx hb dX9_readTickets_102 (by decide) ?_
      exact gm_iret hx hb hr hlocks hS (by (try simp only [p_X9_readTickets, ↓if_pos c_2, ↓if_neg c_4, ← eX1]); (try rfl)) (by (try simp only [p_X9_readTickets, ↓if_pos c_2, ↓if_neg c_4, ← eX1]); exact hR) dX9_readTickets_104
  · try rw [if_neg c_2] at hok
    refine lv_bipush (v := (-100)) hx hb dX9_readTickets_11 (by decide) ?_
    refine lv_aload_n hx hb dX9_readTickets_13 rfl (lv_at hl 0 rfl) ?_
    refine va_get (D := D) (ci := 9) (v := .int (X1 0 9)) (C := RX9) (T := TX9) (N := 15) hx hb hts inX9 hown hK.1 (MR.mk0 hR) 0 rfl rfl 9 (by decide) lk156 (fun _ h9 => h9) rfl dX9_readTickets_14 ?_
    refine lv_isub hx hb dX9_readTickets_17 ?_
    exact gm_iret hx hb hr hlocks hS (by (try simp only [p_X9_readTickets, ↓if_neg c_2, ← eX1]); (try rfl)) (by (try simp only [p_X9_readTickets, ↓if_neg c_2, ← eX1]); exact hR) dX9_readTickets_18
