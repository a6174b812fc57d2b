def lf_X9_callOf_8 (X : gM) (a1 : Int32) (a2 : Int32) (y_3 : Int32) (K : (Nat) → (Int32)) : Nat → (Nat) → (Int32)
  | 0, k_4 => K k_4
  | n + 1, k_4 =>
    if X 1 ((y_3 + 5).toNatClampNeg) ≤ nI k_4 then
      K k_4
    else
      if X 1 (((y_3 + 6) + (nI k_4)).toNatClampNeg) = a2 then
        nI k_4
      else
        lf_X9_callOf_8 X a1 a2 y_3 K n (k_4 + 1)
def lok_X9_callOf_8 (X : gM) (a1 : Int32) (a2 : Int32) (y_3 : Int32) (KO : (Nat) → Prop) : Nat → (Nat) → Prop
  | 0, k_4 => True
  | n + 1, k_4 =>
    (vp_in (y_3 + 5) 974) ∧
    (if X 1 ((y_3 + 5).toNatClampNeg) ≤ nI k_4 then
      KO k_4
    else
      (vp_in ((y_3 + 6) + (nI k_4)) 974) ∧
      (if X 1 (((y_3 + 6) + (nI k_4)).toNatClampNeg) = a2 then
        True
      else
        lok_X9_callOf_8 X a1 a2 y_3 KO n (k_4 + 1)))
def f_X9_callOf (X : gM) (a1 : Int32) (a2 : Int32) : Int32 :=
  lf_X9_callOf_8 X a1 a2 (f_X9_stationAt a1) (fun k_4w1 =>
        (-5)) 2147483648 0
def ok_X9_callOf (X : gM) (a1 : Int32) (a2 : Int32) : Prop :=
  lok_X9_callOf_8 X a1 a2 (f_X9_stationAt a1) (fun k_4w1 =>
        True) 2147483648 0
set_option maxHeartbeats 4000000 in
set_option maxRecDepth 100000 in
theorem lp_X9_callOf_8 {p : Program} {l : Launch} {e : Env} {s : State} {m : MethodId} {args : Array Value} {below : List Frame} {meth : Method} {c0 : Code} {D : va_G} {cy : Nat → ClassId} (C : gCtx cX9_callOf 5 (some .int) RX9 wsX9_callOf D cy p s m args meth c0) (μ : Nat) (X : gM) (a1 : Int32) (a2 : Int32) (y_3 : Int32) 
    (KO : (Nat) → Prop) (K : (Nat) → (Int32)) (hexit : ∀ (k_4 : Nat), k_4 ≤ 2147483647 → KO k_4 → ∀ (H : Heap) (locs : List Loc) (ls : Array Slot), MR D cy μ X H → va_S gNo s.heap H locs → lv_has ls 5 [(0, .ref μ), (1, .int a1), (2, .int a2), (3, .int y_3), (4, .int (nI k_4))] → W p l e { frames := 1, cells := 0, slots := 0, locals := 20 } s m args below meth c0 H locs 0 0 (MQ below (gQi (K k_4) (fun _ => True) gNo) args s 0 0 gNo) (F0 m 46 ls [])) :
    ∀ (n : Nat) (k_4 : Nat), k_4 ≤ 2147483647 → lok_X9_callOf_8 X a1 a2 y_3 KO n k_4 → 2147483647 < k_4 + n → ∀ (H : Heap) (locs : List Loc) (ls : Array Slot), MR D cy μ X H → va_S gNo s.heap H locs → lv_has ls 5 [(0, .ref μ), (1, .int a1), (2, .int a2), (3, .int y_3), (4, .int (nI k_4))] → W p l e { frames := 1, cells := 0, slots := 0, locals := 20 } s m args below meth c0 H locs 0 0 (MQ below (gQi (lf_X9_callOf_8 X a1 a2 y_3 K n k_4) (fun _ => True) gNo) args s 0 0 gNo) (F0 m 8 ls []) := by
  obtain ⟨hx, hb, hr, hts, hown, hlocks, hml, hK⟩ := C
  have lk7 := hts (.fieldLink RX9 7 "MercuryLineModel" "s" "[I") (by decide +kernel)
  have inX9 : ∀ w ∈ u_ws RX9 TX9 15, w ∈ wsX9_callOf := by decide +kernel
  intro n
  induction n with
  | zero =>
    intro k_4 hb_4 hok hme
    exact absurd hme (by omega)
  | succ n ih =>
    intro k_4 hb_4 hok hme H locs ls hR hS hl
    unfold lok_X9_callOf_8 at hok
    refine lv_iload hx hb dX9_callOf_8 (lv_at hl 4 rfl) ?_
    refine lv_aload_n hx hb dX9_callOf_10 rfl (lv_at hl 0 rfl) ?_
    refine va_get (D := D) (ci := 9) (v := .ref (μ + 1)) (C := RX9) (T := TX9) (N := 15) hx hb hts inX9 hown hK.1 (MR.mk0 hR) 0 rfl rfl 0 (by decide) lk7 (fun _ h9 => h9) rfl dX9_callOf_11 ?_
    refine lv_iload_n hx hb dX9_callOf_14 rfl (lv_at hl 3 rfl) ?_
    refine lv_iconst (v := 5) hx hb dX9_callOf_15 (by decide) ?_
    refine lv_iadd hx hb dX9_callOf_16 ?_
    obtain ⟨h_1, hok⟩ := hok
    refine gm_iald hx hb hK.1 (MR.mk1 hR (c := 1) (by decide) bM_1) h_1 dX9_callOf_17 ?_
    refine lv_icmp_ge (tgt := 46) hx hb dX9_callOf_18 (by decide) (fun c_2 => ?_) (fun c_2 => ?_)
    · try rw [if_pos c_2] at hok
      refine gm_q (Q2 := MQ below (gQi (K k_4) (fun _ => True) gNo) args s 0 0 gNo) (by simp only [lf_X9_callOf_8, ↓if_pos c_2]) ?_
      exact hexit k_4 hb_4 hok _ _ _ hR hS (lv_sub hl [0, 1, 2, 3, 4] rfl)
    · try rw [if_neg c_2] at hok
      have lt_3 : k_4 < 2147483647 := g_big (Nat.lt_of_le_of_lt hb_4 (by decide)) c_2
      refine lv_aload_n hx hb dX9_callOf_21 rfl (lv_at hl 0 rfl) ?_
      refine va_get (D := D) (ci := 9) (v := .ref (μ + 1)) (C := RX9) (T := TX9) (N := 15) hx hb hts inX9 hown hK.1 (MR.mk0 hR) 0 rfl rfl 0 (by decide) lk7 (fun _ h9 => h9) rfl dX9_callOf_22 ?_
      refine lv_iload_n hx hb dX9_callOf_25 rfl (lv_at hl 3 rfl) ?_
      refine lv_bipush (v := 6) hx hb dX9_callOf_26 (by decide) ?_
      refine lv_iadd hx hb dX9_callOf_28 ?_
      refine lv_iload hx hb dX9_callOf_29 (lv_at hl 4 rfl) ?_
      refine lv_iadd hx hb dX9_callOf_31 ?_
      obtain ⟨h_4, hok⟩ := hok
      refine gm_iald hx hb hK.1 (MR.mk1 hR (c := 1) (by decide) bM_1) h_4 dX9_callOf_32 ?_
      refine lv_iload_n hx hb dX9_callOf_33 rfl (lv_at hl 2 rfl) ?_
      refine lv_icmp_ne (tgt := 40) hx hb dX9_callOf_34 (by decide) (fun c_5 => ?_) (fun c_5 => ?_)
      · try rw [if_neg c_5] at hok
        refine lv_iinc (v := nI (k_4 + 1)) (lv' := [(4, .int (nI (k_4 + 1))), (0, .ref μ), (1, .int a1), (2, .int a2), (3, .int y_3)]) hx hb dX9_callOf_40 hl (k := 4) rfl (nI_1 _) (by decide) rfl (fun ls hl => ?_)
        refine lv_goto (tgt := 8) hx hb dX9_callOf_43 (by decide) ?_
        refine gm_q (Q2 := MQ below (gQi (lf_X9_callOf_8 X a1 a2 y_3 K n (k_4 + 1)) (fun _ => True) gNo) args s 0 0 gNo) (by simp only [lf_X9_callOf_8, ↓if_neg c_2, ↓if_neg c_5]) ?_
        exact ih (k_4 + 1) lt_3 hok (by omega) _ _ _ hR hS (lv_sub hl [1, 2, 3, 4, 0] rfl)
      · try rw [if_pos c_5] at hok
        refine lv_iload hx hb dX9_callOf_37 (lv_at hl 4 rfl) ?_
        exact gm_iret hx hb hr hlocks hS (by (try simp only [lf_X9_callOf_8, ↓if_neg c_2, ↓if_pos c_5]); (try rfl)) trivial dX9_callOf_39
set_option maxHeartbeats 4000000 in
set_option maxRecDepth 100000 in
theorem c_X9_callOf (l : Launch) (D : va_G) (cy : Nat → ClassId) (μ : Nat) (X : gM) (a1 : Int32) (a2 : Int32)  (hok : ok_X9_callOf X a1 a2) : Met l yX9_callOf wsX9_callOf ({ frames := 1, cells := 0, slots := 0, locals := 20 }) (gP [.ref μ, .int a1, .int a2] D cy (MR D cy μ X)) (gQi (f_X9_callOf X a1 a2) (fun _ => True) gNo) 0 0 gNo := by
  refine gm_met (cc := cX9_callOf) (maxL := 5) (ret := (some .int)) [.ref μ, .int a1, .int a2] (by decide) rfl (Nat.le_of_ble_eq_true rfl) ?_
  intro p e s m args below meth c0 ls C hR hl
  obtain ⟨hx, hb, hr, hts, hown, hlocks, hml, hK⟩ := C
  have hl : lv_has ls 5 [(0, .ref μ), (1, .int a1), (2, .int a2)] := hl
  have hS : va_S gNo s.heap s.heap [] := va_S.rf
  unfold ok_X9_callOf at hok
  refine lv_iload_n hx hb dX9_callOf_0 rfl (lv_at hl 1 rfl) ?_
  refine gm_ci (gm_callS (As := [.int a1]) (rest := []) ⟨hx, hb, hml, hown, hts⟩ hK (c_X9_stationAt l D cy a1) (va_cwS 1 hts gX9_callOf_X9_stationAt rfl rfl rfl (by decide +kernel) ⟨Nat.le_of_ble_eq_true rfl, Nat.le_of_ble_eq_true rfl⟩) trivial rfl hl.1 rfl (Nat.le_of_ble_eq_true rfl) dX9_callOf_1 (Nat.zero_le _) (Nat.zero_le _)) hS (fun _ h => h.elim) (fun H locs _ _ hfr hS => ?_)
  have hR := gRep.keep hR hfr (fun _ _ h => h)
  refine lv_istore_n (lv' := [(3, .int (f_X9_stationAt a1)), (0, .ref μ), (1, .int a1), (2, .int a2)]) hx hb dX9_callOf_4 rfl hl (by decide) rfl (fun ls hl => ?_)
  refine lv_iconst (v := 0) hx hb dX9_callOf_5 (by decide) ?_
  refine lv_istore (lv' := [(4, .int 0), (3, .int (f_X9_stationAt a1)), (0, .ref μ), (1, .int a1), (2, .int a2)]) hx hb dX9_callOf_6 hl (by decide) rfl (fun ls hl => ?_)
  refine gm_q (Q2 := MQ below (gQi (lf_X9_callOf_8 X a1 a2 (f_X9_stationAt a1) (fun k_4w1 =>
        (-5)) 2147483648 0) (fun _ => True) gNo) args s 0 0 gNo) (by simp only [f_X9_callOf]) ?_
  refine lp_X9_callOf_8 ⟨hx, hb, hr, hts, hown, hlocks, hml, hK⟩ μ X a1 a2 (f_X9_stationAt a1)  _ _ (fun k_4w1 hbk_4w1 hok H locs ls hR hS hl => ?_) 2147483648 0 (by decide) hok (by omega) _ _ _ hR hS (lv_sub hl [2, 3, 4, 1, 0] rfl)
  refine lv_bipush (v := (-5)) hx hb dX9_callOf_46 (by decide) ?_
  exact gm_iret hx hb hr hlocks hS (by (try simp only [f_X9_callOf]); (try rfl)) trivial dX9_callOf_48
def lf_X9_dropCall_20 (a1 : Int32) (a2 : Int32) (y_3 : Int32) (K : (gM) → (Int32) → (gM)) : Nat → (gM) → (Int32) → (gM)
  | 0, Z, x_4 => K Z x_4
  | n + 1, Z, x_4 =>
    if Z 1 ((y_3 + 5).toNatClampNeg) ≤ x_4 then
      K Z x_4
    else
      let X1 := updM Z 1 (((y_3 + 6) + x_4).toNatClampNeg) (Z 1 ((((y_3 + 6) + x_4) + 1).toNatClampNeg))
      lf_X9_dropCall_20 a1 a2 y_3 K n X1 (x_4 + 1)
def lok_X9_dropCall_20 (a1 : Int32) (a2 : Int32) (y_3 : Int32) (KO : (gM) → (Int32) → Prop) : Nat → (gM) → (Int32) → Prop
  | 0, Z, x_4 => True
  | n + 1, Z, x_4 =>
    (vp_in (y_3 + 5) 974) ∧
    (if Z 1 ((y_3 + 5).toNatClampNeg) ≤ x_4 then
      KO Z x_4
    else
      (vp_in (((y_3 + 6) + x_4) + 1) 974) ∧
      (vp_in ((y_3 + 6) + x_4) 974) ∧
      ∀ X1 : gM, X1 = updM Z 1 (((y_3 + 6) + x_4).toNatClampNeg) (Z 1 ((((y_3 + 6) + x_4) + 1).toNatClampNeg)) →
      lok_X9_dropCall_20 a1 a2 y_3 KO n X1 (x_4 + 1))
def p_X9_dropCall (X : gM) (a1 : Int32) (a2 : Int32) : gM :=
  let X1 := updM X 1 (((f_X9_stationAt a1) + 5).toNatClampNeg) ((X 1 (((f_X9_stationAt a1) + 5).toNatClampNeg)) - 1)
  lf_X9_dropCall_20 a1 a2 (f_X9_stationAt a1) (fun X2 x_4w3 =>
        X2) 4294967296 X1 a2
def ok_X9_dropCall (X : gM) (a1 : Int32) (a2 : Int32) : Prop :=
  (vp_in ((f_X9_stationAt a1) + 5) 974) ∧
  (vp_in ((f_X9_stationAt a1) + 5) 974) ∧
  ∀ X1 : gM, X1 = updM X 1 (((f_X9_stationAt a1) + 5).toNatClampNeg) ((X 1 (((f_X9_stationAt a1) + 5).toNatClampNeg)) - 1) →
  lok_X9_dropCall_20 a1 a2 (f_X9_stationAt a1) (fun X2 x_4w3 =>
        True) 4294967296 X1 a2
set_option maxHeartbeats 4000000 in
set_option maxRecDepth 100000 in
theorem lp_X9_dropCall_20 {p : Program} {l : Launch} {e : Env} {s : State} {m : MethodId} {args : Array Value} {below : List Frame} {meth : Method} {c0 : Code} {D : va_G} {cy : Nat → ClassId} (C : gCtx cX9_dropCall 5 none RX9 wsX9_dropCall D cy p s m args meth c0) (μ : Nat) (a1 : Int32) (a2 : Int32) (y_3 : Int32) 
    (KO : (gM) → (Int32) → Prop) (K : (gM) → (Int32) → (gM)) (hexit : ∀ (Z : gM) (x_4 : Int32), KO Z x_4 → ∀ (H : Heap) (locs : List Loc) (ls : Array Slot), MR D cy μ Z H → va_S (MA μ) s.heap H locs → lv_has ls 5 [(0, .ref μ), (1, .int a1), (2, .int a2), (3, .int y_3), (4, .int x_4)] → W p l e { frames := 1, cells := 0, slots := 0, locals := 20 } s m args below meth c0 H locs 0 0 (MQ below (gQv (MR D cy μ (K Z x_4)) (MA μ)) args s 0 0 (MA μ)) (F0 m 65 ls [])) :
    ∀ (n : Nat) (Z : gM) (x_4 : Int32), lok_X9_dropCall_20 a1 a2 y_3 KO n Z x_4 → 2147483647 < x_4.toInt + (n : Int) → ∀ (H : Heap) (locs : List Loc) (ls : Array Slot), MR D cy μ Z H → va_S (MA μ) s.heap H locs → lv_has ls 5 [(0, .ref μ), (1, .int a1), (2, .int a2), (3, .int y_3), (4, .int x_4)] → W p l e { frames := 1, cells := 0, slots := 0, locals := 20 } s m args below meth c0 H locs 0 0 (MQ below (gQv (MR D cy μ (lf_X9_dropCall_20 a1 a2 y_3 K n Z x_4)) (MA μ)) args s 0 0 (MA μ)) (F0 m 20 ls []) := by
  obtain ⟨hx, hb, hr, hts, hown, hlocks, hml, hK⟩ := C
  have lk7 := hts (.fieldLink RX9 7 "MercuryLineModel" "s" "[I") (by decide +kernel)
  have inX9 : ∀ w ∈ u_ws RX9 TX9 15, w ∈ wsX9_dropCall := by decide +kernel
  intro n
  induction n with
  | zero =>
    intro Z x_4  hok hme
    exact absurd hme (by have := Int32.toInt_lt x_4; omega)
  | succ n ih =>
    intro Z x_4  hok hme H locs ls hR hS hl
    unfold lok_X9_dropCall_20 at hok
    refine lv_iload hx hb dX9_dropCall_20 (lv_at hl 4 rfl) ?_
    refine lv_aload_n hx hb dX9_dropCall_22 rfl (lv_at hl 0 rfl) ?_
    refine va_get (D := D) (ci := 9) (v := .ref (μ + 1)) (C := RX9) (T := TX9) (N := 15) hx hb hts inX9 hown hK.1 (MR.mk0 hR) 0 rfl rfl 0 (by decide) lk7 (fun _ h9 => h9) rfl dX9_dropCall_23 ?_
    refine lv_iload_n hx hb dX9_dropCall_26 rfl (lv_at hl 3 rfl) ?_
    refine lv_iconst (v := 5) hx hb dX9_dropCall_27 (by decide) ?_
    refine lv_iadd hx hb dX9_dropCall_28 ?_
    obtain ⟨h_1, hok⟩ := hok
    refine gm_iald hx hb hK.1 (MR.mk1 hR (c := 1) (by decide) bM_1) h_1 dX9_dropCall_29 ?_
    refine lv_icmp_ge (tgt := 65) hx hb dX9_dropCall_30 (by decide) (fun c_2 => ?_) (fun c_2 => ?_)
    · try rw [if_pos c_2] at hok
      refine gm_q (Q2 := MQ below (gQv (MR D cy μ (K Z x_4)) (MA μ)) args s 0 0 (MA μ)) (by simp only [lf_X9_dropCall_20, ↓if_pos c_2]) ?_
      exact hexit Z x_4  hok _ _ _ hR hS (lv_sub hl [0, 1, 2, 3, 4] rfl)
    · try rw [if_neg c_2] at hok
      have ic_3 := g_inc c_2
      refine lv_aload_n hx hb dX9_dropCall_33 rfl (lv_at hl 0 rfl) ?_
      refine va_get (D := D) (ci := 9) (v := .ref (μ + 1)) (C := RX9) (T := TX9) (N := 15) hx hb hts inX9 hown hK.1 (MR.mk0 hR) 0 rfl rfl 0 (by decide) lk7 (fun _ h9 => h9) rfl dX9_dropCall_34 ?_
      refine lv_iload_n hx hb dX9_dropCall_37 rfl (lv_at hl 3 rfl) ?_
      refine lv_bipush (v := 6) hx hb dX9_dropCall_38 (by decide) ?_
      refine lv_iadd hx hb dX9_dropCall_40 ?_
      refine lv_iload hx hb dX9_dropCall_41 (lv_at hl 4 rfl) ?_
      refine lv_iadd hx hb dX9_dropCall_43 ?_
      refine lv_aload_n hx hb dX9_dropCall_44 rfl (lv_at hl 0 rfl) ?_
      refine va_get (D := D) (ci := 9) (v := .ref (μ + 1)) (C := RX9) (T := TX9) (N := 15) hx hb hts inX9 hown hK.1 (MR.mk0 hR) 0 rfl rfl 0 (by decide) lk7 (fun _ h9 => h9) rfl dX9_dropCall_45 ?_
      refine lv_iload_n hx hb dX9_dropCall_48 rfl (lv_at hl 3 rfl) ?_
      refine lv_bipush (v := 6) hx hb dX9_dropCall_49 (by decide) ?_
      refine lv_iadd hx hb dX9_dropCall_51 ?_
      refine lv_iload hx hb dX9_dropCall_52 (lv_at hl 4 rfl) ?_
      refine lv_iadd hx hb dX9_dropCall_54 ?_
      refine lv_iconst (v := 1) hx hb dX9_dropCall_55 (by decide) ?_
      refine lv_iadd hx hb dX9_dropCall_56 ?_
      obtain ⟨h_4, hok⟩ := hok
      refine gm_iald hx hb hK.1 (MR.mk1 hR (c := 1) (by decide) bM_1) h_4 dX9_dropCall_57 ?_
      obtain ⟨h_5, hok⟩ := hok
      refine gm_iast hx hb hK.1 hR injM hS (a := 1) (by decide) rfl (fun r => bM_1) h_5 dX9_dropCall_58 (fun H locs hR hS => ?_)
      obtain ⟨X1, eX1⟩ : ∃ Y : gM, Y = updM Z 1 (((y_3 + 6) + x_4).toNatClampNeg) (Z 1 ((((y_3 + 6) + x_4) + 1).toNatClampNeg)) := ⟨_, rfl⟩
      rw [← eX1] at hR
      try replace hok := hok X1 eX1
      refine lv_iinc (v := x_4 + 1) (lv' := [(4, .int (x_4 + 1)), (0, .ref μ), (1, .int a1), (2, .int a2), (3, .int y_3)]) hx hb dX9_dropCall_59 hl (k := 4) rfl rfl (by decide) rfl (fun ls hl => ?_)
      refine lv_goto (tgt := 20) hx hb dX9_dropCall_62 (by decide) ?_
      refine gm_q (Q2 := MQ below (gQv (MR D cy μ (lf_X9_dropCall_20 a1 a2 y_3 K n X1 (x_4 + 1))) (MA μ)) args s 0 0 (MA μ)) (by simp only [lf_X9_dropCall_20, ↓if_neg c_2, ← eX1]) ?_
      exact ih X1 (x_4 + 1)  hok (by omega) _ _ _ hR hS (lv_sub hl [1, 2, 3, 4, 0] rfl)
set_option maxHeartbeats 4000000 in
set_option maxRecDepth 100000 in
theorem c_X9_dropCall (l : Launch) (D : va_G) (cy : Nat → ClassId) (μ : Nat) (X : gM) (a1 : Int32) (a2 : Int32)  (hok : ok_X9_dropCall X a1 a2) : Met l yX9_dropCall wsX9_dropCall ({ frames := 1, cells := 0, slots := 0, locals := 20 }) (gP [.ref μ, .int a1, .int a2] D cy (MR D cy μ X)) (gQv (MR D cy μ (p_X9_dropCall X a1 a2)) (MA μ)) 0 0 (MA μ) := by
  refine gm_met (cc := cX9_dropCall) (maxL := 5) (ret := none) [.ref μ, .int a1, .int a2] (by decide) rfl (Nat.le_of_ble_eq_true rfl) ?_
  intro p e s m args below meth c0 ls C hR hl
  obtain ⟨hx, hb, hr, hts, hown, hlocks, hml, hK⟩ := C
  have hl : lv_has ls 5 [(0, .ref μ), (1, .int a1), (2, .int a2)] := hl
  have hS : va_S (MA μ) s.heap s.heap [] := va_S.rf
  have lk7 := hts (.fieldLink RX9 7 "MercuryLineModel" "s" "[I") (by decide +kernel)
  have inX9 : ∀ w ∈ u_ws RX9 TX9 15, w ∈ wsX9_dropCall := by decide +kernel
  unfold ok_X9_dropCall at hok
  refine lv_iload_n hx hb dX9_dropCall_0 rfl (lv_at hl 1 rfl) ?_
  refine gm_ci (gm_callS (As := [.int a1]) (rest := []) ⟨hx, hb, hml, hown, hts⟩ hK (c_X9_stationAt l D cy a1) (va_cwS 1 hts gX9_dropCall_X9_stationAt rfl rfl rfl (by decide +kernel) ⟨Nat.le_of_ble_eq_true rfl, Nat.le_of_ble_eq_true rfl⟩) trivial rfl hl.1 rfl (Nat.le_of_ble_eq_true rfl) dX9_dropCall_1 (Nat.zero_le _) (Nat.zero_le _)) hS (fun _ h => h.elim) (fun H locs _ _ hfr hS => ?_)
  have hR := gRep.keep hR hfr (fun _ _ h => h)
  refine lv_istore_n (lv' := [(3, .int (f_X9_stationAt a1)), (0, .ref μ), (1, .int a1), (2, .int a2)]) hx hb dX9_dropCall_4 rfl hl (by decide) rfl (fun ls hl => ?_)
  refine lv_aload_n hx hb dX9_dropCall_5 rfl (lv_at hl 1 rfl) ?_
  refine va_get (D := D) (ci := 9) (v := .ref (μ + 1)) (C := RX9) (T := TX9) (N := 15) hx hb hts inX9 hown hK.1 (MR.mk0 hR) 0 rfl rfl 0 (by decide) lk7 (fun _ h9 => h9) rfl dX9_dropCall_6 ?_
  refine lv_iload_n hx hb dX9_dropCall_9 rfl (lv_at hl 0 rfl) ?_
  refine lv_iconst (v := 5) hx hb dX9_dropCall_10 (by decide) ?_
  refine lv_iadd hx hb dX9_dropCall_11 ?_
  refine lv_dup2_11 hx hb dX9_dropCall_12 rfl rfl ?_
  obtain ⟨h_1, hok⟩ := hok
  refine gm_iald hx hb hK.1 (MR.mk1 hR (c := 1) (by decide) bM_1) h_1 dX9_dropCall_13 ?_
  refine lv_iconst (v := 1) hx hb dX9_dropCall_14 (by decide) ?_
  refine lv_isub hx hb dX9_dropCall_15 ?_
  obtain ⟨h_2, hok⟩ := hok
  refine gm_iast hx hb hK.1 hR injM hS (a := 1) (by decide) rfl (fun r => bM_1) h_2 dX9_dropCall_16 (fun H locs hR hS => ?_)
  obtain ⟨X1, eX1⟩ : ∃ Y : gM, Y = updM X 1 (((f_X9_stationAt a1) + 5).toNatClampNeg) ((X 1 (((f_X9_stationAt a1) + 5).toNatClampNeg)) - 1) := ⟨_, rfl⟩
  rw [← eX1] at hR
  try replace hok := hok X1 eX1
  refine lv_iload_n hx hb dX9_dropCall_17 rfl (lv_at hl 3 rfl) ?_
  refine lv_istore (lv' := [(4, .int a2), (3, .int (f_X9_stationAt a1)), (0, .ref μ), (1, .int a1), (2, .int a2)]) hx hb dX9_dropCall_18 hl (by decide) rfl (fun ls hl => ?_)
  refine gm_q (Q2 := MQ below (gQv (MR D cy μ (lf_X9_dropCall_20 a1 a2 (f_X9_stationAt a1) (fun X2 x_4w3 =>
        X2) 4294967296 X1 a2)) (MA μ)) args s 0 0 (MA μ)) (by simp only [p_X9_dropCall, ← eX1]) ?_
  refine lp_X9_dropCall_20 ⟨hx, hb, hr, hts, hown, hlocks, hml, hK⟩ μ a1 a2 (f_X9_stationAt a1)  _ _ (fun X2 x_4w3  hok H locs ls hR hS hl => ?_) 4294967296 X1 a2  hok (by have := Int32.le_toInt a2; omega) _ _ _ hR hS (lv_sub hl [2, 3, 4, 1, 0] rfl)
  exact gm_vret hx hb hr hlocks hS (by (try simp only [p_X9_dropCall, ← eX1]); exact hR) dX9_dropCall_65
def lf_X9_goOrders_2  (K : (gM) → (Nat) → (gM)) : Nat → (gM) → (Nat) → (gM)
  | 0, Z, k_1 => K Z k_1
  | n + 1, Z, k_1 =>
    if Z 1 2 ≤ nI k_1 then
      K Z k_1
    else
      if Z 1 ((nI ((194 + (10 * k_1)) + 4)).toNatClampNeg) = 1 then
        lf_X9_goOrders_2 K n Z (k_1 + 1)
      else
        if ((Z 1 0) - (Z 1 ((nI ((194 + (10 * k_1)) + 1)).toNatClampNeg))) - ((Z 1 0) - (Z 1 ((nI ((194 + (10 * k_1)) + 1)).toNatClampNeg))) / (Z 1 ((nI ((194 + (10 * k_1)) + 0)).toNatClampNeg)) * (Z 1 ((nI ((194 + (10 * k_1)) + 0)).toNatClampNeg)) = 0 then
          if Z 1 1 = 40 then
            let X4 := updM Z 1 ((nI ((194 + (10 * k_1)) + 3)).toNatClampNeg) ((Z 1 ((nI ((194 + (10 * k_1)) + 3)).toNatClampNeg)) + 1)
            lf_X9_goOrders_2 K n X4 (k_1 + 1)
          else
            let X1 := (p_X9_comes Z (Z 1 ((nI ((194 + (10 * k_1)) + 5)).toNatClampNeg)) (Z 1 ((nI ((194 + (10 * k_1)) + 7)).toNatClampNeg)) (Z 1 ((nI ((194 + (10 * k_1)) + 6)).toNatClampNeg)) (Z 1 ((nI ((194 + (10 * k_1)) + 8)).toNatClampNeg)) (Z 1 ((nI ((194 + (10 * k_1)) + 9)).toNatClampNeg))).2
            if 0 ≤ (p_X9_comes Z (Z 1 ((nI ((194 + (10 * k_1)) + 5)).toNatClampNeg)) (Z 1 ((nI ((194 + (10 * k_1)) + 7)).toNatClampNeg)) (Z 1 ((nI ((194 + (10 * k_1)) + 6)).toNatClampNeg)) (Z 1 ((nI ((194 + (10 * k_1)) + 8)).toNatClampNeg)) (Z 1 ((nI ((194 + (10 * k_1)) + 9)).toNatClampNeg))).1 then
              let X2 := updM X1 1 ((nI ((194 + (10 * k_1)) + 2)).toNatClampNeg) ((X1 1 ((nI ((194 + (10 * k_1)) + 2)).toNatClampNeg)) + 1)
              lf_X9_goOrders_2 K n X2 (k_1 + 1)
            else
              let X3 := updM X1 1 ((nI ((194 + (10 * k_1)) + 2)).toNatClampNeg) ((X1 1 ((nI ((194 + (10 * k_1)) + 2)).toNatClampNeg)) + 0)
              lf_X9_goOrders_2 K n X3 (k_1 + 1)
        else
          lf_X9_goOrders_2 K n Z (k_1 + 1)
def lok_X9_goOrders_2  (KO : (gM) → (Nat) → Prop) : Nat → (gM) → (Nat) → Prop
  | 0, Z, k_1 => True
  | n + 1, Z, k_1 =>
    (if Z 1 2 ≤ nI k_1 then
      KO Z k_1
    else
      (vp_in (nI ((194 + (10 * k_1)) + 4)) 974) ∧
      (if Z 1 ((nI ((194 + (10 * k_1)) + 4)).toNatClampNeg) = 1 then
        lok_X9_goOrders_2 KO n Z (k_1 + 1)
      else
        (vp_in (nI ((194 + (10 * k_1)) + 1)) 974) ∧
        (vp_in (nI ((194 + (10 * k_1)) + 0)) 974) ∧
        (¬ (Z 1 ((nI ((194 + (10 * k_1)) + 0)).toNatClampNeg)) = 0) ∧
        (if ((Z 1 0) - (Z 1 ((nI ((194 + (10 * k_1)) + 1)).toNatClampNeg))) - ((Z 1 0) - (Z 1 ((nI ((194 + (10 * k_1)) + 1)).toNatClampNeg))) / (Z 1 ((nI ((194 + (10 * k_1)) + 0)).toNatClampNeg)) * (Z 1 ((nI ((194 + (10 * k_1)) + 0)).toNatClampNeg)) = 0 then
          (if Z 1 1 = 40 then
            (vp_in (nI ((194 + (10 * k_1)) + 3)) 974) ∧
            (vp_in (nI ((194 + (10 * k_1)) + 3)) 974) ∧
            ∀ X4 : gM, X4 = updM Z 1 ((nI ((194 + (10 * k_1)) + 3)).toNatClampNeg) ((Z 1 ((nI ((194 + (10 * k_1)) + 3)).toNatClampNeg)) + 1) →
            lok_X9_goOrders_2 KO n X4 (k_1 + 1)
          else
            (vp_in (nI ((194 + (10 * k_1)) + 5)) 974) ∧
            (vp_in (nI ((194 + (10 * k_1)) + 7)) 974) ∧
            (vp_in (nI ((194 + (10 * k_1)) + 6)) 974) ∧
            (vp_in (nI ((194 + (10 * k_1)) + 8)) 974) ∧
            (vp_in (nI ((194 + (10 * k_1)) + 9)) 974) ∧
            (ok_X9_comes Z (Z 1 ((nI ((194 + (10 * k_1)) + 5)).toNatClampNeg)) (Z 1 ((nI ((194 + (10 * k_1)) + 7)).toNatClampNeg)) (Z 1 ((nI ((194 + (10 * k_1)) + 6)).toNatClampNeg)) (Z 1 ((nI ((194 + (10 * k_1)) + 8)).toNatClampNeg)) (Z 1 ((nI ((194 + (10 * k_1)) + 9)).toNatClampNeg))) ∧
            ∀ X1 : gM, X1 = (p_X9_comes Z (Z 1 ((nI ((194 + (10 * k_1)) + 5)).toNatClampNeg)) (Z 1 ((nI ((194 + (10 * k_1)) + 7)).toNatClampNeg)) (Z 1 ((nI ((194 + (10 * k_1)) + 6)).toNatClampNeg)) (Z 1 ((nI ((194 + (10 * k_1)) + 8)).toNatClampNeg)) (Z 1 ((nI ((194 + (10 * k_1)) + 9)).toNatClampNeg))).2 →
            (vp_in (nI ((194 + (10 * k_1)) + 2)) 974) ∧
            (if 0 ≤ (p_X9_comes Z (Z 1 ((nI ((194 + (10 * k_1)) + 5)).toNatClampNeg)) (Z 1 ((nI ((194 + (10 * k_1)) + 7)).toNatClampNeg)) (Z 1 ((nI ((194 + (10 * k_1)) + 6)).toNatClampNeg)) (Z 1 ((nI ((194 + (10 * k_1)) + 8)).toNatClampNeg)) (Z 1 ((nI ((194 + (10 * k_1)) + 9)).toNatClampNeg))).1 then
              (vp_in (nI ((194 + (10 * k_1)) + 2)) 974) ∧
              ∀ X2 : gM, X2 = updM X1 1 ((nI ((194 + (10 * k_1)) + 2)).toNatClampNeg) ((X1 1 ((nI ((194 + (10 * k_1)) + 2)).toNatClampNeg)) + 1) →
              lok_X9_goOrders_2 KO n X2 (k_1 + 1)
            else
              (vp_in (nI ((194 + (10 * k_1)) + 2)) 974) ∧
              ∀ X3 : gM, X3 = updM X1 1 ((nI ((194 + (10 * k_1)) + 2)).toNatClampNeg) ((X1 1 ((nI ((194 + (10 * k_1)) + 2)).toNatClampNeg)) + 0) →
              lok_X9_goOrders_2 KO n X3 (k_1 + 1)))
        else
          lok_X9_goOrders_2 KO n Z (k_1 + 1))))
def p_X9_goOrders (X : gM) : gM :=
  lf_X9_goOrders_2  (fun X1 k_1w1 =>
        X1) 2147483648 X 0
def ok_X9_goOrders (X : gM) : Prop :=
  lok_X9_goOrders_2  (fun X1 k_1w1 =>
        True) 2147483648 X 0
set_option maxHeartbeats 4000000 in
set_option maxRecDepth 100000 in
theorem lp_X9_goOrders_2 {p : Program} {l : Launch} {e : Env} {s : State} {m : MethodId} {args : Array Value} {below : List Frame} {meth : Method} {c0 : Code} {D : va_G} {cy : Nat → ClassId} (C : gCtx cX9_goOrders 4 none RX9 wsX9_goOrders D cy p s m args meth c0) (μ : Nat) 
    (KO : (gM) → (Nat) → Prop) (K : (gM) → (Nat) → (gM)) (hexit : ∀ (Z : gM) (k_1 : Nat), k_1 ≤ 2147483647 → KO Z k_1 → ∀ (H : Heap) (locs : List Loc) (ls : Array Slot), MR D cy μ Z H → va_S (MA μ) s.heap H locs → lv_has ls 4 [(0, .ref μ), (1, .int (nI k_1))] → W p l e { frames := 2, cells := 0, slots := 0, locals := 50 } s m args below meth c0 H locs 0 0 (MQ below (gQv (MR D cy μ (K Z k_1)) (MA μ)) args s 0 0 (MA μ)) (F0 m 164 ls [])) :
    ∀ (n : Nat) (Z : gM) (k_1 : Nat), k_1 ≤ 2147483647 → lok_X9_goOrders_2 KO n Z k_1 → 2147483647 < k_1 + n → ∀ (H : Heap) (locs : List Loc) (ls : Array Slot), MR D cy μ Z H → va_S (MA μ) s.heap H locs → lv_has ls 4 [(0, .ref μ), (1, .int (nI k_1))] → W p l e { frames := 2, cells := 0, slots := 0, locals := 50 } s m args below meth c0 H locs 0 0 (MQ below (gQv (MR D cy μ (lf_X9_goOrders_2 K n Z k_1)) (MA μ)) args s 0 0 (MA μ)) (F0 m 2 ls []) := by
  obtain ⟨hx, hb, hr, hts, hown, hlocks, hml, hK⟩ := C
  have lk7 := hts (.fieldLink RX9 7 "MercuryLineModel" "s" "[I") (by decide +kernel)
  have inX9 : ∀ w ∈ u_ws RX9 TX9 15, w ∈ wsX9_goOrders := by decide +kernel
  intro n
  induction n with
  | zero =>
    intro Z k_1 hb_1 hok hme
    exact absurd hme (by omega)
  | succ n ih =>
    intro Z k_1 hb_1 hok hme H locs ls hR hS hl
    unfold lok_X9_goOrders_2 at hok
    refine lv_iload_n hx hb dX9_goOrders_2 rfl (lv_at hl 1 rfl) ?_
    refine lv_aload_n hx hb dX9_goOrders_3 rfl (lv_at hl 0 rfl) ?_
    refine va_get (D := D) (ci := 9) (v := .ref (μ + 1)) (C := RX9) (T := TX9) (N := 15) hx hb hts inX9 hown hK.1 (MR.mk0 hR) 0 rfl rfl 0 (by decide) lk7 (fun _ h9 => h9) rfl dX9_goOrders_4 ?_
    refine lv_iconst (v := 2) hx hb dX9_goOrders_7 (by decide) ?_
    refine gm_iald hx hb hK.1 (MR.mk1 hR (c := 1) (by decide) bM_1) (vp_in_iff.mpr (by decide)) dX9_goOrders_8 ?_
    rw [show (2 : Int32).toNatClampNeg = 2 from by decide]
    refine lv_icmp_ge (tgt := 164) hx hb dX9_goOrders_9 (by decide) (fun c_1 => ?_) (fun c_1 => ?_)
    · try rw [if_pos c_1] at hok
      refine gm_q (Q2 := MQ below (gQv (MR D cy μ (K Z k_1)) (MA μ)) args s 0 0 (MA μ)) (by simp only [lf_X9_goOrders_2, ↓if_pos c_1]) ?_
      exact hexit Z k_1 hb_1 hok _ _ _ hR hS (lv_sub hl [0, 1] rfl)
    · try rw [if_neg c_1] at hok
      have lt_2 : k_1 < 2147483647 := g_big (Nat.lt_of_le_of_lt hb_1 (by decide)) c_1
      refine lv_sipush (v := 194) hx hb dX9_goOrders_12 (by decide) ?_
      refine lv_bipush (v := 10) hx hb dX9_goOrders_15 (by decide) ?_
      refine lv_iload_n hx hb dX9_goOrders_17 rfl (lv_at hl 1 rfl) ?_
      refine lv_imul hx hb dX9_goOrders_18 ?_
      rw [show (10 * (nI k_1) : Int32) = nI (10 * k_1) from pk_mul 10 _]
      refine lv_iadd hx hb dX9_goOrders_19 ?_
      rw [show (194 + (nI (10 * k_1)) : Int32) = nI (194 + (10 * k_1)) from nI_add 194 _]
      refine lv_istore_n (lv' := [(2, .int (nI (194 + (10 * k_1)))), (0, .ref μ), (1, .int (nI k_1))]) hx hb dX9_goOrders_20 rfl hl (by decide) rfl (fun ls hl => ?_)
      refine lv_aload_n hx hb dX9_goOrders_21 rfl (lv_at hl 1 rfl) ?_
      refine va_get (D := D) (ci := 9) (v := .ref (μ + 1)) (C := RX9) (T := TX9) (N := 15) hx hb hts inX9 hown hK.1 (MR.mk0 hR) 0 rfl rfl 0 (by decide) lk7 (fun _ h9 => h9) rfl dX9_goOrders_22 ?_
      refine lv_iload_n hx hb dX9_goOrders_25 rfl (lv_at hl 0 rfl) ?_
      refine lv_iconst (v := 4) hx hb dX9_goOrders_26 (by decide) ?_
      refine lv_iadd hx hb dX9_goOrders_27 ?_
      rw [show ((nI (194 + (10 * k_1))) + 4 : Int32) = nI ((194 + (10 * k_1)) + 4) from nI_add _ 4]
      obtain ⟨h_3, hok⟩ := hok
      refine gm_iald hx hb hK.1 (MR.mk1 hR (c := 1) (by decide) bM_1) h_3 dX9_goOrders_28 ?_
      refine lv_iconst (v := 1) hx hb dX9_goOrders_29 (by decide) ?_
      refine lv_icmp_eq (tgt := 158) hx hb dX9_goOrders_30 (by decide) (fun c_4 => ?_) (fun c_4 => ?_)
      · try rw [if_pos c_4] at hok
        refine lv_iinc (v := nI (k_1 + 1)) (lv' := [(1, .int (nI (k_1 + 1))), (2, .int (nI (194 + (10 * k_1)))), (0, .ref μ)]) hx hb dX9_goOrders_158 hl (k := 2) rfl (nI_1 _) (by decide) rfl (fun ls hl => ?_)
        refine lv_goto (tgt := 2) hx hb dX9_goOrders_161 (by decide) ?_
        refine gm_q (Q2 := MQ below (gQv (MR D cy μ (lf_X9_goOrders_2 K n Z (k_1 + 1))) (MA μ)) args s 0 0 (MA μ)) (by simp only [lf_X9_goOrders_2, ↓if_neg c_1, ↓if_pos c_4]) ?_
        exact ih Z (k_1 + 1) lt_2 hok (by omega) _ _ _ hR hS (lv_sub hl [2, 0] rfl)
      · try rw [if_neg c_4] at hok
        refine lv_aload_n hx hb dX9_goOrders_33 rfl (lv_at hl 1 rfl) ?_
        refine va_get (D := D) (ci := 9) (v := .ref (μ + 1)) (C := RX9) (T := TX9) (N := 15) hx hb hts inX9 hown hK.1 (MR.mk0 hR) 0 rfl rfl 0 (by decide) lk7 (fun _ h9 => h9) rfl dX9_goOrders_34 ?_
        refine lv_iconst (v := 0) hx hb dX9_goOrders_37 (by decide) ?_
        refine gm_iald hx hb hK.1 (MR.mk1 hR (c := 1) (by decide) bM_1) (vp_in_iff.mpr (by decide)) dX9_goOrders_38 ?_
        rw [show (0 : Int32).toNatClampNeg = 0 from by decide]
        refine lv_aload_n hx hb dX9_goOrders_39 rfl (lv_at hl 1 rfl) ?_
        refine va_get (D := D) (ci := 9) (v := .ref (μ + 1)) (C := RX9) (T := TX9) (N := 15) hx hb hts inX9 hown hK.1 (MR.mk0 hR) 0 rfl rfl 0 (by decide) lk7 (fun _ h9 => h9) rfl dX9_goOrders_40 ?_
        refine lv_iload_n hx hb dX9_goOrders_43 rfl (lv_at hl 0 rfl) ?_
        refine lv_iconst (v := 1) hx hb dX9_goOrders_44 (by decide) ?_
        refine lv_iadd hx hb dX9_goOrders_45 ?_
        rw [show ((nI (194 + (10 * k_1))) + 1 : Int32) = nI ((194 + (10 * k_1)) + 1) from nI_add _ 1]
        obtain ⟨h_5, hok⟩ := hok
        refine gm_iald hx hb hK.1 (MR.mk1 hR (c := 1) (by decide) bM_1) h_5 dX9_goOrders_46 ?_
        refine lv_isub hx hb dX9_goOrders_47 ?_
        refine lv_aload_n hx hb dX9_goOrders_48 rfl (lv_at hl 1 rfl) ?_
        refine va_get (D := D) (ci := 9) (v := .ref (μ + 1)) (C := RX9) (T := TX9) (N := 15) hx hb hts inX9 hown hK.1 (MR.mk0 hR) 0 rfl rfl 0 (by decide) lk7 (fun _ h9 => h9) rfl dX9_goOrders_49 ?_
        refine lv_iload_n hx hb dX9_goOrders_52 rfl (lv_at hl 0 rfl) ?_
        refine lv_iconst (v := 0) hx hb dX9_goOrders_53 (by decide) ?_
        refine lv_iadd hx hb dX9_goOrders_54 ?_
        rw [show ((nI (194 + (10 * k_1))) + 0 : Int32) = nI ((194 + (10 * k_1)) + 0) from nI_add _ 0]
        obtain ⟨h_6, hok⟩ := hok
        refine gm_iald hx hb hK.1 (MR.mk1 hR (c := 1) (by decide) bM_1) h_6 dX9_goOrders_55 ?_
        obtain ⟨h_7, hok⟩ := hok
        refine lv_irem hx hb dX9_goOrders_56 h_7 ?_
        refine lv_if_eq (tgt := 63) hx hb dX9_goOrders_57 (by decide) (fun c_8 => ?_) (fun c_8 => ?_)
        · try rw [if_pos c_8] at hok
          refine lv_aload_n hx hb dX9_goOrders_63 rfl (lv_at hl 1 rfl) ?_
          refine va_get (D := D) (ci := 9) (v := .ref (μ + 1)) (C := RX9) (T := TX9) (N := 15) hx hb hts inX9 hown hK.1 (MR.mk0 hR) 0 rfl rfl 0 (by decide) lk7 (fun _ h9 => h9) rfl dX9_goOrders_64 ?_
          refine lv_iconst (v := 1) hx hb dX9_goOrders_67 (by decide) ?_
          refine gm_iald hx hb hK.1 (MR.mk1 hR (c := 1) (by decide) bM_1) (vp_in_iff.mpr (by decide)) dX9_goOrders_68 ?_
          rw [show (1 : Int32).toNatClampNeg = 1 from by decide]
          refine lv_bipush (v := 40) hx hb dX9_goOrders_69 (by decide) ?_
          refine lv_icmp_ne (tgt := 89) hx hb dX9_goOrders_71 (by decide) (fun c_9 => ?_) (fun c_9 => ?_)
          · try rw [if_neg c_9] at hok
            refine lv_aload_n hx hb dX9_goOrders_89 rfl (lv_at hl 1 rfl) ?_
            refine lv_aload_n hx hb dX9_goOrders_90 rfl (lv_at hl 1 rfl) ?_
            refine va_get (D := D) (ci := 9) (v := .ref (μ + 1)) (C := RX9) (T := TX9) (N := 15) hx hb hts inX9 hown hK.1 (MR.mk0 hR) 0 rfl rfl 0 (by decide) lk7 (fun _ h9 => h9) rfl dX9_goOrders_91 ?_
            refine lv_iload_n hx hb dX9_goOrders_94 rfl (lv_at hl 0 rfl) ?_
            refine lv_iconst (v := 5) hx hb dX9_goOrders_95 (by decide) ?_
            refine lv_iadd hx hb dX9_goOrders_96 ?_
            rw [show ((nI (194 + (10 * k_1))) + 5 : Int32) = nI ((194 + (10 * k_1)) + 5) from nI_add _ 5]
            obtain ⟨h_10, hok⟩ := hok
            refine gm_iald hx hb hK.1 (MR.mk1 hR (c := 1) (by decide) bM_1) h_10 dX9_goOrders_97 ?_
            refine lv_aload_n hx hb dX9_goOrders_98 rfl (lv_at hl 1 rfl) ?_
            refine va_get (D := D) (ci := 9) (v := .ref (μ + 1)) (C := RX9) (T := TX9) (N := 15) hx hb hts inX9 hown hK.1 (MR.mk0 hR) 0 rfl rfl 0 (by decide) lk7 (fun _ h9 => h9) rfl dX9_goOrders_99 ?_
            refine lv_iload_n hx hb dX9_goOrders_102 rfl (lv_at hl 0 rfl) ?_
            refine lv_bipush (v := 7) hx hb dX9_goOrders_103 (by decide) ?_
            refine lv_iadd hx hb dX9_goOrders_105 ?_
            rw [show ((nI (194 + (10 * k_1))) + 7 : Int32) = nI ((194 + (10 * k_1)) + 7) from nI_add _ 7]
            obtain ⟨h_11, hok⟩ := hok
            refine gm_iald hx hb hK.1 (MR.mk1 hR (c := 1) (by decide) bM_1) h_11 dX9_goOrders_106 ?_
            refine lv_aload_n hx hb dX9_goOrders_107 rfl (lv_at hl 1 rfl) ?_
            refine va_get (D := D) (ci := 9) (v := .ref (μ + 1)) (C := RX9) (T := TX9) (N := 15) hx hb hts inX9 hown hK.1 (MR.mk0 hR) 0 rfl rfl 0 (by decide) lk7 (fun _ h9 => h9) rfl dX9_goOrders_108 ?_
            refine lv_iload_n hx hb dX9_goOrders_111 rfl (lv_at hl 0 rfl) ?_
            refine lv_bipush (v := 6) hx hb dX9_goOrders_112 (by decide) ?_
            refine lv_iadd hx hb dX9_goOrders_114 ?_
            rw [show ((nI (194 + (10 * k_1))) + 6 : Int32) = nI ((194 + (10 * k_1)) + 6) from nI_add _ 6]
            obtain ⟨h_12, hok⟩ := hok
            refine gm_iald hx hb hK.1 (MR.mk1 hR (c := 1) (by decide) bM_1) h_12 dX9_goOrders_115 ?_
            refine lv_aload_n hx hb dX9_goOrders_116 rfl (lv_at hl 1 rfl) ?_
            refine va_get (D := D) (ci := 9) (v := .ref (μ + 1)) (C := RX9) (T := TX9) (N := 15) hx hb hts inX9 hown hK.1 (MR.mk0 hR) 0 rfl rfl 0 (by decide) lk7 (fun _ h9 => h9) rfl dX9_goOrders_117 ?_
            refine lv_iload_n hx hb dX9_goOrders_120 rfl (lv_at hl 0 rfl) ?_
            refine lv_bipush (v := 8) hx hb dX9_goOrders_121 (by decide) ?_
            refine lv_iadd hx hb dX9_goOrders_123 ?_
            rw [show ((nI (194 + (10 * k_1))) + 8 : Int32) = nI ((194 + (10 * k_1)) + 8) from nI_add _ 8]
            obtain ⟨h_13, hok⟩ := hok
            refine gm_iald hx hb hK.1 (MR.mk1 hR (c := 1) (by decide) bM_1) h_13 dX9_goOrders_124 ?_
            refine lv_aload_n hx hb dX9_goOrders_125 rfl (lv_at hl 1 rfl) ?_
            refine va_get (D := D) (ci := 9) (v := .ref (μ + 1)) (C := RX9) (T := TX9) (N := 15) hx hb hts inX9 hown hK.1 (MR.mk0 hR) 0 rfl rfl 0 (by decide) lk7 (fun _ h9 => h9) rfl dX9_goOrders_126 ?_
            refine lv_iload_n hx hb dX9_goOrders_129 rfl (lv_at hl 0 rfl) ?_
            refine lv_bipush (v := 9) hx hb dX9_goOrders_130 (by decide) ?_
            refine lv_iadd hx hb dX9_goOrders_132 ?_
            rw [show ((nI (194 + (10 * k_1))) + 9 : Int32) = nI ((194 + (10 * k_1)) + 9) from nI_add _ 9]
            obtain ⟨h_14, hok⟩ := hok
            refine gm_iald hx hb hK.1 (MR.mk1 hR (c := 1) (by decide) bM_1) h_14 dX9_goOrders_133 ?_
            obtain ⟨h_15, hok⟩ := hok
            refine gm_ci (gm_call (As := [.int (Z 1 ((nI ((194 + (10 * k_1)) + 5)).toNatClampNeg)), .int (Z 1 ((nI ((194 + (10 * k_1)) + 7)).toNatClampNeg)), .int (Z 1 ((nI ((194 + (10 * k_1)) + 6)).toNatClampNeg)), .int (Z 1 ((nI ((194 + (10 * k_1)) + 8)).toNatClampNeg)), .int (Z 1 ((nI ((194 + (10 * k_1)) + 9)).toNatClampNeg))]) (rest := []) (ci := 9) (q := (RX9, TX9, 15)) ⟨hx, hb, hml, hown, hts⟩ hK (c_X9_comes l D cy μ Z (Z 1 ((nI ((194 + (10 * k_1)) + 5)).toNatClampNeg)) (Z 1 ((nI ((194 + (10 * k_1)) + 7)).toNatClampNeg)) (Z 1 ((nI ((194 + (10 * k_1)) + 6)).toNatClampNeg)) (Z 1 ((nI ((194 + (10 * k_1)) + 8)).toNatClampNeg)) (Z 1 ((nI ((194 + (10 * k_1)) + 9)).toNatClampNeg)) h_15) (cwV 5 hts gX9_goOrders_X9_comes rfl rfl rfl (by decide +kernel) ⟨Nat.le_of_ble_eq_true rfl, Nat.le_of_ble_eq_true rfl⟩) (MR.mk0 hR) rfl hR rfl hl.1 rfl (Nat.le_of_ble_eq_true rfl) dX9_goOrders_134 (Nat.zero_le _) (Nat.zero_le _)) hS (fun _ h => h) (fun H locs hR _ _ hS => ?_)
            obtain ⟨X1, eX1⟩ : ∃ Y : gM, Y = (p_X9_comes Z (Z 1 ((nI ((194 + (10 * k_1)) + 5)).toNatClampNeg)) (Z 1 ((nI ((194 + (10 * k_1)) + 7)).toNatClampNeg)) (Z 1 ((nI ((194 + (10 * k_1)) + 6)).toNatClampNeg)) (Z 1 ((nI ((194 + (10 * k_1)) + 8)).toNatClampNeg)) (Z 1 ((nI ((194 + (10 * k_1)) + 9)).toNatClampNeg))).2 := ⟨_, rfl⟩
            rw [← eX1] at hR
            try replace hok := hok X1 eX1
            refine lv_istore_n (lv' := [(3, .int ((p_X9_comes Z (Z 1 ((nI ((194 + (10 * k_1)) + 5)).toNatClampNeg)) (Z 1 ((nI ((194 + (10 * k_1)) + 7)).toNatClampNeg)) (Z 1 ((nI ((194 + (10 * k_1)) + 6)).toNatClampNeg)) (Z 1 ((nI ((194 + (10 * k_1)) + 8)).toNatClampNeg)) (Z 1 ((nI ((194 + (10 * k_1)) + 9)).toNatClampNeg))).1)), (2, .int (nI (194 + (10 * k_1)))), (0, .ref μ), (1, .int (nI k_1))]) hx hb dX9_goOrders_137 rfl hl (by decide) rfl (fun ls hl => ?_)
            refine lv_aload_n hx hb dX9_goOrders_138 rfl (lv_at hl 2 rfl) ?_
            refine va_get (D := D) (ci := 9) (v := .ref (μ + 1)) (C := RX9) (T := TX9) (N := 15) hx hb hts inX9 hown hK.1 (MR.mk0 hR) 0 rfl rfl 0 (by decide) lk7 (fun _ h9 => h9) rfl dX9_goOrders_139 ?_
            refine lv_iload_n hx hb dX9_goOrders_142 rfl (lv_at hl 1 rfl) ?_
            refine lv_iconst (v := 2) hx hb dX9_goOrders_143 (by decide) ?_
            refine lv_iadd hx hb dX9_goOrders_144 ?_
            rw [show ((nI (194 + (10 * k_1))) + 2 : Int32) = nI ((194 + (10 * k_1)) + 2) from nI_add _ 2]
            refine lv_dup2_11 hx hb dX9_goOrders_145 rfl rfl ?_
            obtain ⟨h_16, hok⟩ := hok
            refine gm_iald hx hb hK.1 (MR.mk1 hR (c := 1) (by decide) bM_1) h_16 dX9_goOrders_146 ?_
            refine lv_iload_n hx hb dX9_goOrders_147 rfl (lv_at hl 0 rfl) ?_
            refine lv_if_ge (tgt := 155) hx hb dX9_goOrders_148 (by decide) (fun c_17 => ?_) (fun c_17 => ?_)
            · try rw [if_pos c_17] at hok
              refine lv_iconst (v := 1) hx hb dX9_goOrders_155 (by decide) ?_
              refine lv_iadd hx hb dX9_goOrders_156 ?_
              obtain ⟨h_18, hok⟩ := hok
              refine gm_iast hx hb hK.1 hR injM hS (a := 1) (by decide) rfl (fun r => bM_1) h_18 dX9_goOrders_157 (fun H locs hR hS => ?_)
              obtain ⟨X2, eX2⟩ : ∃ Y : gM, Y = updM X1 1 ((nI ((194 + (10 * k_1)) + 2)).toNatClampNeg) ((X1 1 ((nI ((194 + (10 * k_1)) + 2)).toNatClampNeg)) + 1) := ⟨_, rfl⟩
              rw [← eX2] at hR
              try replace hok := hok X2 eX2
              refine lv_iinc (v := nI (k_1 + 1)) (lv' := [(1, .int (nI (k_1 + 1))), (3, .int ((p_X9_comes Z (Z 1 ((nI ((194 + (10 * k_1)) + 5)).toNatClampNeg)) (Z 1 ((nI ((194 + (10 * k_1)) + 7)).toNatClampNeg)) (Z 1 ((nI ((194 + (10 * k_1)) + 6)).toNatClampNeg)) (Z 1 ((nI ((194 + (10 * k_1)) + 8)).toNatClampNeg)) (Z 1 ((nI ((194 + (10 * k_1)) + 9)).toNatClampNeg))).1)), (2, .int (nI (194 + (10 * k_1)))), (0, .ref μ)]) hx hb dX9_goOrders_158 hl (k := 3) rfl (nI_1 _) (by decide) rfl (fun ls hl => ?_)
              refine lv_goto (tgt := 2) hx hb dX9_goOrders_161 (by decide) ?_
              refine gm_q (Q2 := MQ below (gQv (MR D cy μ (lf_X9_goOrders_2 K n X2 (k_1 + 1))) (MA μ)) args s 0 0 (MA μ)) (by simp only [lf_X9_goOrders_2, ↓if_neg c_1, ↓if_neg c_4, ↓if_pos c_8, ↓if_neg c_9, ↓if_pos c_17, ← eX1, ← eX2]) ?_
              exact ih X2 (k_1 + 1) lt_2 hok (by omega) _ _ _ hR hS (lv_sub hl [3, 0] rfl)
            · try rw [if_neg c_17] at hok
              refine lv_iconst (v := 0) hx hb dX9_goOrders_151 (by decide) ?_
              refine lv_goto (tgt := 156) hx hb dX9_goOrders_152 (by decide) ?_
              refine lv_iadd hx hb dX9_goOrders_156 ?_
              obtain ⟨h_19, hok⟩ := hok
              refine gm_iast hx hb hK.1 hR injM hS (a := 1) (by decide) rfl (fun r => bM_1) h_19 dX9_goOrders_157 (fun H locs hR hS => ?_)
              obtain ⟨X3, eX3⟩ : ∃ Y : gM, Y = updM X1 1 ((nI ((194 + (10 * k_1)) + 2)).toNatClampNeg) ((X1 1 ((nI ((194 + (10 * k_1)) + 2)).toNatClampNeg)) + 0) := ⟨_, rfl⟩
              rw [← eX3] at hR
              try replace hok := hok X3 eX3
              refine lv_iinc (v := nI (k_1 + 1)) (lv' := [(1, .int (nI (k_1 + 1))), (3, .int ((p_X9_comes Z (Z 1 ((nI ((194 + (10 * k_1)) + 5)).toNatClampNeg)) (Z 1 ((nI ((194 + (10 * k_1)) + 7)).toNatClampNeg)) (Z 1 ((nI ((194 + (10 * k_1)) + 6)).toNatClampNeg)) (Z 1 ((nI ((194 + (10 * k_1)) + 8)).toNatClampNeg)) (Z 1 ((nI ((194 + (10 * k_1)) + 9)).toNatClampNeg))).1)), (2, .int (nI (194 + (10 * k_1)))), (0, .ref μ)]) hx hb dX9_goOrders_158 hl (k := 3) rfl (nI_1 _) (by decide) rfl (fun ls hl => ?_)
              refine lv_goto (tgt := 2) hx hb dX9_goOrders_161 (by decide) ?_
              refine gm_q (Q2 := MQ below (gQv (MR D cy μ (lf_X9_goOrders_2 K n X3 (k_1 + 1))) (MA μ)) args s 0 0 (MA μ)) (by simp only [lf_X9_goOrders_2, ↓if_neg c_1, ↓if_neg c_4, ↓if_pos c_8, ↓if_neg c_9, ↓if_neg c_17, ← eX1, ← eX3]) ?_
              exact ih X3 (k_1 + 1) lt_2 hok (by omega) _ _ _ hR hS (lv_sub hl [3, 0] rfl)
          · try rw [if_pos c_9] at hok
            refine lv_aload_n hx hb dX9_goOrders_74 rfl (lv_at hl 1 rfl) ?_
            refine va_get (D := D) (ci := 9) (v := .ref (μ + 1)) (C := RX9) (T := TX9) (N := 15) hx hb hts inX9 hown hK.1 (MR.mk0 hR) 0 rfl rfl 0 (by decide) lk7 (fun _ h9 => h9) rfl dX9_goOrders_75 ?_
            refine lv_iload_n hx hb dX9_goOrders_78 rfl (lv_at hl 0 rfl) ?_
            refine lv_iconst (v := 3) hx hb dX9_goOrders_79 (by decide) ?_
            refine lv_iadd hx hb dX9_goOrders_80 ?_
            rw [show ((nI (194 + (10 * k_1))) + 3 : Int32) = nI ((194 + (10 * k_1)) + 3) from nI_add _ 3]
            refine lv_dup2_11 hx hb dX9_goOrders_81 rfl rfl ?_
            obtain ⟨h_20, hok⟩ := hok
            refine gm_iald hx hb hK.1 (MR.mk1 hR (c := 1) (by decide) bM_1) h_20 dX9_goOrders_82 ?_
            refine lv_iconst (v := 1) hx hb dX9_goOrders_83 (by decide) ?_
            refine lv_iadd hx hb dX9_goOrders_84 ?_
            obtain ⟨h_21, hok⟩ := hok
            refine gm_iast hx hb hK.1 hR injM hS (a := 1) (by decide) rfl (fun r => bM_1) h_21 dX9_goOrders_85 (fun H locs hR hS => ?_)
            obtain ⟨X4, eX4⟩ : ∃ Y : gM, Y = updM Z 1 ((nI ((194 + (10 * k_1)) + 3)).toNatClampNeg) ((Z 1 ((nI ((194 + (10 * k_1)) + 3)).toNatClampNeg)) + 1) := ⟨_, rfl⟩
            rw [← eX4] at hR
            try replace hok := hok X4 eX4
            refine lv_goto (tgt := 158) hx hb dX9_goOrders_86 (by decide) ?_
            refine lv_iinc (v := nI (k_1 + 1)) (lv' := [(1, .int (nI (k_1 + 1))), (2, .int (nI (194 + (10 * k_1)))), (0, .ref μ)]) hx hb dX9_goOrders_158 hl (k := 2) rfl (nI_1 _) (by decide) rfl (fun ls hl => ?_)
            refine lv_goto (tgt := 2) hx hb dX9_goOrders_161 (by decide) ?_
            refine gm_q (Q2 := MQ below (gQv (MR D cy μ (lf_X9_goOrders_2 K n X4 (k_1 + 1))) (MA μ)) args s 0 0 (MA μ)) (by simp only [lf_X9_goOrders_2, ↓if_neg c_1, ↓if_neg c_4, ↓if_pos c_8, ↓if_pos c_9, ← eX4]) ?_
            exact ih X4 (k_1 + 1) lt_2 hok (by omega) _ _ _ hR hS (lv_sub hl [2, 0] rfl)
        · try rw [if_neg c_8] at hok
          refine lv_goto (tgt := 158) hx hb dX9_goOrders_60 (by decide) ?_
          refine lv_iinc (v := nI (k_1 + 1)) (lv' := [(1, .int (nI (k_1 + 1))), (2, .int (nI (194 + (10 * k_1)))), (0, .ref μ)]) hx hb dX9_goOrders_158 hl (k := 2) rfl (nI_1 _) (by decide) rfl (fun ls hl => ?_)
          refine lv_goto (tgt := 2) hx hb dX9_goOrders_161 (by decide) ?_
          refine gm_q (Q2 := MQ below (gQv (MR D cy μ (lf_X9_goOrders_2 K n Z (k_1 + 1))) (MA μ)) args s 0 0 (MA μ)) (by simp only [lf_X9_goOrders_2, ↓if_neg c_1, ↓if_neg c_4, ↓if_neg c_8]) ?_
          exact ih Z (k_1 + 1) lt_2 hok (by omega) _ _ _ hR hS (lv_sub hl [2, 0] rfl)
set_option maxHeartbeats 4000000 in
set_option maxRecDepth 100000 in
theorem c_X9_goOrders (l : Launch) (D : va_G) (cy : Nat → ClassId) (μ : Nat) (X : gM)  (hok : ok_X9_goOrders X) : Met l yX9_goOrders wsX9_goOrders ({ frames := 2, cells := 0, slots := 0, locals := 50 }) (gP [.ref μ] D cy (MR D cy μ X)) (gQv (MR D cy μ (p_X9_goOrders X)) (MA μ)) 0 0 (MA μ) := by
  refine gm_met (cc := cX9_goOrders) (maxL := 4) (ret := none) [.ref μ] (by decide) rfl (Nat.le_of_ble_eq_true rfl) ?_
  intro p e s m args below meth c0 ls C hR hl
  obtain ⟨hx, hb, hr, hts, hown, hlocks, hml, hK⟩ := C
  have hl : lv_has ls 4 [(0, .ref μ)] := hl
  have hS : va_S (MA μ) s.heap s.heap [] := va_S.rf
  unfold ok_X9_goOrders at hok
  refine lv_iconst (v := 0) hx hb dX9_goOrders_0 (by decide) ?_
  refine lv_istore_n (lv' := [(1, .int 0), (0, .ref μ)]) hx hb dX9_goOrders_1 rfl hl (by decide) rfl (fun ls hl => ?_)
  refine gm_q (Q2 := MQ below (gQv (MR D cy μ (lf_X9_goOrders_2  (fun X1 k_1w1 =>
        X1) 2147483648 X 0)) (MA μ)) args s 0 0 (MA μ)) (by simp only [p_X9_goOrders]) ?_
  refine lp_X9_goOrders_2 ⟨hx, hb, hr, hts, hown, hlocks, hml, hK⟩ μ  _ _ (fun X1 k_1w1 hbk_1w1 hok H locs ls hR hS hl => ?_) 2147483648 X 0 (by decide) hok (by omega) _ _ _ hR hS (lv_sub hl [1, 0] rfl)
  exact gm_vret hx hb hr hlocks hS (by (try simp only [p_X9_goOrders]); exact hR) dX9_goOrders_164
