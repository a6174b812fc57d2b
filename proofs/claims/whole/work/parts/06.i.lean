def lf_X9_undo_22  (K : (gM) → (Nat) → (Int32 × gM)) : Nat → (gM) → (Nat) → (Int32 × gM)
  | 0, Z, k_1 => K Z k_1
  | n + 1, Z, k_1 =>
    if 974 ≤ nI k_1 then
      K Z k_1
    else
      let X1 := updM Z 1 k_1 (Z 2 (((974 * (Z 0 2)) + (nI k_1)).toNatClampNeg))
      lf_X9_undo_22 K n X1 (k_1 + 1)
def lok_X9_undo_22  (KO : (gM) → (Nat) → Prop) : Nat → (gM) → (Nat) → Prop
  | 0, Z, k_1 => True
  | n + 1, Z, k_1 =>
    (if 974 ≤ nI k_1 then
      KO Z k_1
    else
      (vp_in ((974 * (Z 0 2)) + (nI k_1)) 3896) ∧
      ∀ X1 : gM, X1 = updM Z 1 k_1 (Z 2 (((974 * (Z 0 2)) + (nI k_1)).toNatClampNeg)) →
      lok_X9_undo_22 KO n X1 (k_1 + 1))
def p_X9_undo (X : gM) : Int32 × gM :=
  if X 0 2 = 0 then
    ((-5), X)
  else
    let X1 := updM X 0 2 ((X 0 2) - 1)
    lf_X9_undo_22  (fun X2 k_1w2 =>
          (X2 0 2, X2)) 2147483648 X1 0
def ok_X9_undo (X : gM) : Prop :=
  (if X 0 2 = 0 then
    True
  else
    ∀ X1 : gM, X1 = updM X 0 2 ((X 0 2) - 1) →
    lok_X9_undo_22  (fun X2 k_1w2 =>
          True) 2147483648 X1 0)
set_option maxHeartbeats 4000000 in
set_option maxRecDepth 100000 in
theorem lp_X9_undo_22 {p : Program} {l : Launch} {e : Env} {s : State} {m : MethodId} {args : Array Value} {below : List Frame} {meth : Method} {c0 : Code} {D : va_G} {cy : Nat → ClassId} (C : gCtx cX9_undo 2 (some .int) RX9 wsX9_undo D cy p s m args meth c0) (μ : Nat) 
    (KO : (gM) → (Nat) → Prop) (K : (gM) → (Nat) → (Int32 × gM)) (hexit : ∀ (Z : gM) (k_1 : Nat), k_1 ≤ 2147483647 → KO Z k_1 → ∀ (H : Heap) (locs : List Loc) (ls : Array Slot), MR D cy μ Z H → va_S (MA μ) s.heap H locs → lv_has ls 2 [(0, .ref μ), (1, .int (nI k_1))] → W p l e { frames := 0, cells := 0, slots := 0, locals := 0 } s m args below meth c0 H locs 0 0 (MQ below (gQi (K Z k_1).1 (MR D cy μ (K Z k_1).2) (MA μ)) args s 0 0 (MA μ)) (F0 m 56 ls [])) :
    ∀ (n : Nat) (Z : gM) (k_1 : Nat), k_1 ≤ 2147483647 → lok_X9_undo_22 KO n Z k_1 → 2147483647 < k_1 + n → ∀ (H : Heap) (locs : List Loc) (ls : Array Slot), MR D cy μ Z H → va_S (MA μ) s.heap H locs → lv_has ls 2 [(0, .ref μ), (1, .int (nI k_1))] → W p l e { frames := 0, cells := 0, slots := 0, locals := 0 } s m args below meth c0 H locs 0 0 (MQ below (gQi (lf_X9_undo_22 K n Z k_1).1 (MR D cy μ (lf_X9_undo_22 K n Z k_1).2) (MA μ)) args s 0 0 (MA μ)) (F0 m 22 ls []) := by
  obtain ⟨hx, hb, hr, hts, hown, hlocks, hml, hK⟩ := C
  have lk7 := hts (.fieldLink RX9 7 "MercuryLineModel" "s" "[I") (by decide +kernel)
  have inX9 : ∀ w ∈ u_ws RX9 TX9 15, w ∈ wsX9_undo := by decide +kernel
  have lk13 := hts (.fieldLink RX9 13 "MercuryLineModel" "past" "[I") (by decide +kernel)
  have lk29 := hts (.fieldLink RX9 29 "MercuryLineModel" "kept" "I") (by decide +kernel)
  intro n
  induction n with
  | zero =>
    intro Z k_1 hb_1 hok hme
    exact absurd hme (by omega)
  | succ n ih =>
    intro Z k_1 hb_1 hok hme H locs ls hR hS hl
    unfold lok_X9_undo_22 at hok
    refine lv_iload_n hx hb dX9_undo_22 rfl (lv_at hl 1 rfl) ?_
    refine lv_sipush (v := 974) hx hb dX9_undo_23 (by decide) ?_
    refine lv_icmp_ge (tgt := 56) hx hb dX9_undo_26 (by decide) (fun c_1 => ?_) (fun c_1 => ?_)
    · try rw [if_pos c_1] at hok
      have ge_2 : 974 ≤ k_1 := g_ge2 (Nat.lt_of_le_of_lt hb_1 (by decide)) (by decide) c_1
      refine gm_q (Q2 := MQ below (gQi (K Z k_1).1 (MR D cy μ (K Z k_1).2) (MA μ)) args s 0 0 (MA μ)) (by simp only [lf_X9_undo_22, ↓if_pos c_1]) ?_
      exact hexit Z k_1 hb_1 hok _ _ _ hR hS (lv_sub hl [0, 1] rfl)
    · try rw [if_neg c_1] at hok
      have lt_3 : k_1 < 974 := g_lt (Nat.lt_of_le_of_lt hb_1 (by decide)) (by decide) c_1
      refine lv_aload_n hx hb dX9_undo_29 rfl (lv_at hl 0 rfl) ?_
      refine va_get (D := D) (ci := 9) (v := .ref (μ + 1)) (C := RX9) (T := TX9) (N := 15) hx hb hts inX9 hown hK.1 (MR.mk0 hR) 0 rfl rfl 0 (by decide) lk7 (fun _ h9 => h9) rfl dX9_undo_30 ?_
      refine lv_iload_n hx hb dX9_undo_33 rfl (lv_at hl 1 rfl) ?_
      refine lv_aload_n hx hb dX9_undo_34 rfl (lv_at hl 0 rfl) ?_
      refine va_get (D := D) (ci := 9) (v := .ref (μ + 2)) (C := RX9) (T := TX9) (N := 15) hx hb hts inX9 hown hK.1 (MR.mk0 hR) 0 rfl rfl 1 (by decide) lk13 (fun _ h9 => h9) rfl dX9_undo_35 ?_
      refine lv_sipush (v := 974) hx hb dX9_undo_38 (by decide) ?_
      refine lv_aload_n hx hb dX9_undo_41 rfl (lv_at hl 0 rfl) ?_
      refine va_get (D := D) (ci := 9) (v := .int (Z 0 2)) (C := RX9) (T := TX9) (N := 15) hx hb hts inX9 hown hK.1 (MR.mk0 hR) 0 rfl rfl 2 (by decide) lk29 (fun _ h9 => h9) rfl dX9_undo_42 ?_
      refine lv_imul hx hb dX9_undo_45 ?_
      refine lv_iload_n hx hb dX9_undo_46 rfl (lv_at hl 1 rfl) ?_
      refine lv_iadd hx hb dX9_undo_47 ?_
      obtain ⟨h_4, hok⟩ := hok
      refine gm_iald hx hb hK.1 (MR.mk1 hR (c := 2) (by decide) bM_2) h_4 dX9_undo_48 ?_
      refine gm_iast hx hb hK.1 hR injM hS (a := 1) (by decide) rfl (fun r => bM_1) (vp_in_nI lt_3 (by decide)) dX9_undo_49 (fun H locs hR hS => ?_)
      rw [nI_clamp (n := k_1) (by omega)] at hR
      obtain ⟨X1, eX1⟩ : ∃ Y : gM, Y = updM Z 1 k_1 (Z 2 (((974 * (Z 0 2)) + (nI k_1)).toNatClampNeg)) := ⟨_, rfl⟩
      rw [← eX1] at hR
      try replace hok := hok X1 eX1
      refine lv_iinc (v := nI (k_1 + 1)) (lv' := [(1, .int (nI (k_1 + 1))), (0, .ref μ)]) hx hb dX9_undo_50 hl (k := 1) rfl (nI_1 _) (by decide) rfl (fun ls hl => ?_)
      refine lv_goto (tgt := 22) hx hb dX9_undo_53 (by decide) ?_
      refine gm_q (Q2 := MQ below (gQi (lf_X9_undo_22 K n X1 (k_1 + 1)).1 (MR D cy μ (lf_X9_undo_22 K n X1 (k_1 + 1)).2) (MA μ)) args s 0 0 (MA μ)) (by simp only [lf_X9_undo_22, ↓if_neg c_1, ← eX1]) ?_
      exact ih X1 (k_1 + 1) (Nat.lt_of_lt_of_le lt_3 (by decide)) hok (by omega) _ _ _ hR hS (lv_sub hl [1, 0] rfl)
set_option maxHeartbeats 4000000 in
set_option maxRecDepth 100000 in
theorem c_X9_undo (l : Launch) (D : va_G) (cy : Nat → ClassId) (μ : Nat) (X : gM)  (hok : ok_X9_undo X) : Met l yX9_undo wsX9_undo ({ frames := 0, cells := 0, slots := 0, locals := 0 }) (gP [.ref μ] D cy (MR D cy μ X)) (gQi (p_X9_undo X).1 (MR D cy μ (p_X9_undo X).2) (MA μ)) 0 0 (MA μ) := by
  refine gm_met (cc := cX9_undo) (maxL := 2) (ret := (some .int)) [.ref μ] (by decide) rfl (Nat.le_of_ble_eq_true rfl) ?_
  intro p e s m args below meth c0 ls C hR hl
  obtain ⟨hx, hb, hr, hts, hown, hlocks, hml, hK⟩ := C
  have hl : lv_has ls 2 [(0, .ref μ)] := hl
  have hS : va_S (MA μ) s.heap s.heap [] := va_S.rf
  have lk29 := hts (.fieldLink RX9 29 "MercuryLineModel" "kept" "I") (by decide +kernel)
  have inX9 : ∀ w ∈ u_ws RX9 TX9 15, w ∈ wsX9_undo := by decide +kernel
  unfold ok_X9_undo at hok
  refine lv_aload_n hx hb dX9_undo_0 rfl (lv_at hl 0 rfl) ?_
  refine va_get (D := D) (ci := 9) (v := .int (X 0 2)) (C := RX9) (T := TX9) (N := 15) hx hb hts inX9 hown hK.1 (MR.mk0 hR) 0 rfl rfl 2 (by decide) lk29 (fun _ h9 => h9) rfl dX9_undo_1 ?_
  refine lv_if_ne (tgt := 10) hx hb dX9_undo_4 (by decide) (fun c_1 => ?_) (fun c_1 => ?_)
  · try rw [if_neg c_1] at hok
    refine lv_aload_n hx hb dX9_undo_10 rfl (lv_at hl 0 rfl) ?_
    refine lv_dup hx hb dX9_undo_11 rfl ?_
    refine va_get (D := D) (ci := 9) (v := .int (X 0 2)) (C := RX9) (T := TX9) (N := 15) hx hb hts inX9 hown hK.1 (MR.mk0 hR) 0 rfl rfl 2 (by decide) lk29 (fun _ h9 => h9) rfl dX9_undo_12 ?_
    refine lv_iconst (v := 1) hx hb dX9_undo_15 (by decide) ?_
    refine lv_isub hx hb dX9_undo_16 ?_
    refine gm_put (v := .int ((X 0 2) - 1)) (ty := .int) (ci := 9) (C := RX9) (T := TX9) (N := 15) hx hb hts inX9 tyX9 tyX9_ok nmX9 hown hK.1 hR injM hS (a := 0) (by decide) rfl bM_0 rfl 2 (by decide) lk29 (fun _ h9 => h9) rfl (by decide +kernel) rfl rfl (Nat.le_of_ble_eq_true rfl) (j := 2) (x := (X 0 2) - 1) (by rw [bM_0]; rfl) dX9_undo_17 (fun H locs hR hS => ?_)
    obtain ⟨X1, eX1⟩ : ∃ Y : gM, Y = updM X 0 2 ((X 0 2) - 1) := ⟨_, rfl⟩
    rw [← eX1] at hR
    try replace hok := hok X1 eX1
    refine lv_iconst (v := 0) hx hb dX9_undo_20 (by decide) ?_
    refine lv_istore_n (lv' := [(1, .int 0), (0, .ref μ)]) hx hb dX9_undo_21 rfl hl (by decide) rfl (fun ls hl => ?_)
    refine gm_q (Q2 := MQ below (gQi (lf_X9_undo_22  (fun X2 k_1w2 =>
          (X2 0 2, X2)) 2147483648 X1 0).1 (MR D cy μ (lf_X9_undo_22  (fun X2 k_1w2 =>
          (X2 0 2, X2)) 2147483648 X1 0).2) (MA μ)) args s 0 0 (MA μ)) (by simp only [p_X9_undo, ↓if_neg c_1, ← eX1]) ?_
    refine lp_X9_undo_22 ⟨hx, hb, hr, hts, hown, hlocks, hml, hK⟩ μ  _ _ (fun X2 k_1w2 hbk_1w2 hok H locs ls hR hS hl => ?_) 2147483648 X1 0 (by decide) hok (by omega) _ _ _ hR hS (lv_sub hl [1, 0] rfl)
    refine lv_aload_n hx hb dX9_undo_56 rfl (lv_at hl 0 rfl) ?_
    refine va_get (D := D) (ci := 9) (v := .int (X2 0 2)) (C := RX9) (T := TX9) (N := 15) hx hb hts inX9 hown hK.1 (MR.mk0 hR) 0 rfl rfl 2 (by decide) lk29 (fun _ h9 => h9) rfl dX9_undo_57 ?_
    exact gm_iret hx hb hr hlocks hS (by (try simp only [p_X9_undo, ↓if_neg c_1, ← eX1]); (try rfl)) (by (try simp only [p_X9_undo, ↓if_neg c_1, ← eX1]); exact hR) dX9_undo_60
  · try rw [if_pos c_1] at hok
    refine lv_bipush (v := (-5)) hx hb dX9_undo_7 (by decide) ?_
    exact gm_iret hx hb hr hlocks hS (by (try simp only [p_X9_undo, ↓if_pos c_1]); (try rfl)) (by (try simp only [p_X9_undo, ↓if_pos c_1]); exact hR) dX9_undo_9
def lf_X9_keep_2  (K : (gM) → (Nat) → (Int32 × gM)) : Nat → (gM) → (Nat) → (Int32 × gM)
  | 0, Z, k_1 => K Z k_1
  | n + 1, Z, k_1 =>
    if 974 ≤ nI k_1 then
      K Z k_1
    else
      let X1 := updM Z 3 k_1 (Z 1 k_1)
      lf_X9_keep_2 K n X1 (k_1 + 1)
def lok_X9_keep_2  (KO : (gM) → (Nat) → Prop) : Nat → (gM) → (Nat) → Prop
  | 0, Z, k_1 => True
  | n + 1, Z, k_1 =>
    (if 974 ≤ nI k_1 then
      KO Z k_1
    else
      ∀ X1 : gM, X1 = updM Z 3 k_1 (Z 1 k_1) →
      lok_X9_keep_2 KO n X1 (k_1 + 1))
def p_X9_keep (X : gM) : Int32 × gM :=
  lf_X9_keep_2  (fun X1 k_1w1 =>
        let X2 := updM X1 0 4 1
        (X2 1 0, X2)) 2147483648 X 0
def ok_X9_keep (X : gM) : Prop :=
  lok_X9_keep_2  (fun X1 k_1w1 =>
        True) 2147483648 X 0
set_option maxHeartbeats 4000000 in
set_option maxRecDepth 100000 in
theorem lp_X9_keep_2 {p : Program} {l : Launch} {e : Env} {s : State} {m : MethodId} {args : Array Value} {below : List Frame} {meth : Method} {c0 : Code} {D : va_G} {cy : Nat → ClassId} (C : gCtx cX9_keep 2 (some .int) RX9 wsX9_keep D cy p s m args meth c0) (μ : Nat) 
    (KO : (gM) → (Nat) → Prop) (K : (gM) → (Nat) → (Int32 × gM)) (hexit : ∀ (Z : gM) (k_1 : Nat), k_1 ≤ 2147483647 → KO Z k_1 → ∀ (H : Heap) (locs : List Loc) (ls : Array Slot), MR D cy μ Z H → va_S (MA μ) s.heap H locs → lv_has ls 2 [(0, .ref μ), (1, .int (nI k_1))] → W p l e { frames := 0, cells := 0, slots := 0, locals := 0 } s m args below meth c0 H locs 0 0 (MQ below (gQi (K Z k_1).1 (MR D cy μ (K Z k_1).2) (MA μ)) args s 0 0 (MA μ)) (F0 m 27 ls [])) :
    ∀ (n : Nat) (Z : gM) (k_1 : Nat), k_1 ≤ 2147483647 → lok_X9_keep_2 KO n Z k_1 → 2147483647 < k_1 + n → ∀ (H : Heap) (locs : List Loc) (ls : Array Slot), MR D cy μ Z H → va_S (MA μ) s.heap H locs → lv_has ls 2 [(0, .ref μ), (1, .int (nI k_1))] → W p l e { frames := 0, cells := 0, slots := 0, locals := 0 } s m args below meth c0 H locs 0 0 (MQ below (gQi (lf_X9_keep_2 K n Z k_1).1 (MR D cy μ (lf_X9_keep_2 K n Z k_1).2) (MA μ)) args s 0 0 (MA μ)) (F0 m 2 ls []) := by
  obtain ⟨hx, hb, hr, hts, hown, hlocks, hml, hK⟩ := C
  have lk16 := hts (.fieldLink RX9 16 "MercuryLineModel" "shot" "[I") (by decide +kernel)
  have inX9 : ∀ w ∈ u_ws RX9 TX9 15, w ∈ wsX9_keep := by decide +kernel
  have lk7 := hts (.fieldLink RX9 7 "MercuryLineModel" "s" "[I") (by decide +kernel)
  intro n
  induction n with
  | zero =>
    intro Z k_1 hb_1 hok hme
    exact absurd hme (by omega)
  | succ n ih =>
    intro Z k_1 hb_1 hok hme H locs ls hR hS hl
    unfold lok_X9_keep_2 at hok
    refine lv_iload_n hx hb dX9_keep_2 rfl (lv_at hl 1 rfl) ?_
    refine lv_sipush (v := 974) hx hb dX9_keep_3 (by decide) ?_
    refine lv_icmp_ge (tgt := 27) hx hb dX9_keep_6 (by decide) (fun c_1 => ?_) (fun c_1 => ?_)
    · try rw [if_pos c_1] at hok
      have ge_2 : 974 ≤ k_1 := g_ge2 (Nat.lt_of_le_of_lt hb_1 (by decide)) (by decide) c_1
      refine gm_q (Q2 := MQ below (gQi (K Z k_1).1 (MR D cy μ (K Z k_1).2) (MA μ)) args s 0 0 (MA μ)) (by simp only [lf_X9_keep_2, ↓if_pos c_1]) ?_
      exact hexit Z k_1 hb_1 hok _ _ _ hR hS (lv_sub hl [0, 1] rfl)
    · try rw [if_neg c_1] at hok
      have lt_3 : k_1 < 974 := g_lt (Nat.lt_of_le_of_lt hb_1 (by decide)) (by decide) c_1
      refine lv_aload_n hx hb dX9_keep_9 rfl (lv_at hl 0 rfl) ?_
      refine va_get (D := D) (ci := 9) (v := .ref (μ + 3)) (C := RX9) (T := TX9) (N := 15) hx hb hts inX9 hown hK.1 (MR.mk0 hR) 0 rfl rfl 3 (by decide) lk16 (fun _ h9 => h9) rfl dX9_keep_10 ?_
      refine lv_iload_n hx hb dX9_keep_13 rfl (lv_at hl 1 rfl) ?_
      refine lv_aload_n hx hb dX9_keep_14 rfl (lv_at hl 0 rfl) ?_
      refine va_get (D := D) (ci := 9) (v := .ref (μ + 1)) (C := RX9) (T := TX9) (N := 15) hx hb hts inX9 hown hK.1 (MR.mk0 hR) 0 rfl rfl 0 (by decide) lk7 (fun _ h9 => h9) rfl dX9_keep_15 ?_
      refine lv_iload_n hx hb dX9_keep_18 rfl (lv_at hl 1 rfl) ?_
      refine gm_iald hx hb hK.1 (MR.mk1 hR (c := 1) (by decide) bM_1) (vp_in_nI lt_3 (by decide)) dX9_keep_19 ?_
      rw [nI_clamp (n := k_1) (by omega)]
      refine gm_iast hx hb hK.1 hR injM hS (a := 3) (by decide) rfl (fun r => bM_3) (vp_in_nI lt_3 (by decide)) dX9_keep_20 (fun H locs hR hS => ?_)
      rw [nI_clamp (n := k_1) (by omega)] at hR
      obtain ⟨X1, eX1⟩ : ∃ Y : gM, Y = updM Z 3 k_1 (Z 1 k_1) := ⟨_, rfl⟩
      rw [← eX1] at hR
      try replace hok := hok X1 eX1
      refine lv_iinc (v := nI (k_1 + 1)) (lv' := [(1, .int (nI (k_1 + 1))), (0, .ref μ)]) hx hb dX9_keep_21 hl (k := 1) rfl (nI_1 _) (by decide) rfl (fun ls hl => ?_)
      refine lv_goto (tgt := 2) hx hb dX9_keep_24 (by decide) ?_
      refine gm_q (Q2 := MQ below (gQi (lf_X9_keep_2 K n X1 (k_1 + 1)).1 (MR D cy μ (lf_X9_keep_2 K n X1 (k_1 + 1)).2) (MA μ)) args s 0 0 (MA μ)) (by simp only [lf_X9_keep_2, ↓if_neg c_1, ← eX1]) ?_
      exact ih X1 (k_1 + 1) (Nat.lt_of_lt_of_le lt_3 (by decide)) hok (by omega) _ _ _ hR hS (lv_sub hl [1, 0] rfl)
set_option maxHeartbeats 4000000 in
set_option maxRecDepth 100000 in
theorem c_X9_keep (l : Launch) (D : va_G) (cy : Nat → ClassId) (μ : Nat) (X : gM)  (hok : ok_X9_keep X) : Met l yX9_keep wsX9_keep ({ frames := 0, cells := 0, slots := 0, locals := 0 }) (gP [.ref μ] D cy (MR D cy μ X)) (gQi (p_X9_keep X).1 (MR D cy μ (p_X9_keep X).2) (MA μ)) 0 0 (MA μ) := by
  refine gm_met (cc := cX9_keep) (maxL := 2) (ret := (some .int)) [.ref μ] (by decide) rfl (Nat.le_of_ble_eq_true rfl) ?_
  intro p e s m args below meth c0 ls C hR hl
  obtain ⟨hx, hb, hr, hts, hown, hlocks, hml, hK⟩ := C
  have hl : lv_has ls 2 [(0, .ref μ)] := hl
  have hS : va_S (MA μ) s.heap s.heap [] := va_S.rf
  have lk182 := hts (.fieldLink RX9 182 "MercuryLineModel" "isShot" "Z") (by decide +kernel)
  have inX9 : ∀ w ∈ u_ws RX9 TX9 15, w ∈ wsX9_keep := by decide +kernel
  have lk7 := hts (.fieldLink RX9 7 "MercuryLineModel" "s" "[I") (by decide +kernel)
  unfold ok_X9_keep at hok
  refine lv_iconst (v := 0) hx hb dX9_keep_0 (by decide) ?_
  refine lv_istore_n (lv' := [(1, .int 0), (0, .ref μ)]) hx hb dX9_keep_1 rfl hl (by decide) rfl (fun ls hl => ?_)
  refine gm_q (Q2 := MQ below (gQi (lf_X9_keep_2  (fun X1 k_1w1 =>
        let X2 := updM X1 0 4 1
        (X2 1 0, X2)) 2147483648 X 0).1 (MR D cy μ (lf_X9_keep_2  (fun X1 k_1w1 =>
        let X2 := updM X1 0 4 1
        (X2 1 0, X2)) 2147483648 X 0).2) (MA μ)) args s 0 0 (MA μ)) (by simp only [p_X9_keep]) ?_
  refine lp_X9_keep_2 ⟨hx, hb, hr, hts, hown, hlocks, hml, hK⟩ μ  _ _ (fun X1 k_1w1 hbk_1w1 hok H locs ls hR hS hl => ?_) 2147483648 X 0 (by decide) hok (by omega) _ _ _ hR hS (lv_sub hl [1, 0] rfl)
  refine lv_aload_n hx hb dX9_keep_27 rfl (lv_at hl 0 rfl) ?_
  refine lv_iconst (v := 1) hx hb dX9_keep_28 (by decide) ?_
  refine gm_put (v := .int 1) (ty := .boolean) (ci := 9) (C := RX9) (T := TX9) (N := 15) hx hb hts inX9 tyX9 tyX9_ok nmX9 hown hK.1 hR injM hS (a := 0) (by decide) rfl bM_0 rfl 4 (by decide) lk182 (fun _ h9 => h9) rfl (by decide +kernel) rfl rfl (Nat.le_of_ble_eq_true rfl) (j := 4) (x := 1) (by rw [bM_0]; rfl) dX9_keep_29 (fun H locs hR hS => ?_)
  obtain ⟨X2, eX2⟩ : ∃ Y : gM, Y = updM X1 0 4 1 := ⟨_, rfl⟩
  rw [← eX2] at hR
  try replace hok := hok X2 eX2
  refine lv_aload_n hx hb dX9_keep_32 rfl (lv_at hl 0 rfl) ?_
  refine va_get (D := D) (ci := 9) (v := .ref (μ + 1)) (C := RX9) (T := TX9) (N := 15) hx hb hts inX9 hown hK.1 (MR.mk0 hR) 0 rfl rfl 0 (by decide) lk7 (fun _ h9 => h9) rfl dX9_keep_33 ?_
  refine lv_iconst (v := 0) hx hb dX9_keep_36 (by decide) ?_
  refine gm_iald hx hb hK.1 (MR.mk1 hR (c := 1) (by decide) bM_1) (vp_in_iff.mpr (by decide)) dX9_keep_37 ?_
  rw [show (0 : Int32).toNatClampNeg = 0 from by decide]
  exact gm_iret hx hb hr hlocks hS (by (try simp only [p_X9_keep, ← eX2]); (try rfl)) (by (try simp only [p_X9_keep, ← eX2]); exact hR) dX9_keep_38
def lf_X9_restore_16  (K : (gM) → (Nat) → (Int32 × gM)) : Nat → (gM) → (Nat) → (Int32 × gM)
  | 0, Z, k_1 => K Z k_1
  | n + 1, Z, k_1 =>
    if 974 ≤ nI k_1 then
      K Z k_1
    else
      let X1 := updM Z 1 k_1 (Z 3 k_1)
      lf_X9_restore_16 K n X1 (k_1 + 1)
def lok_X9_restore_16  (KO : (gM) → (Nat) → Prop) : Nat → (gM) → (Nat) → Prop
  | 0, Z, k_1 => True
  | n + 1, Z, k_1 =>
    (if 974 ≤ nI k_1 then
      KO Z k_1
    else
      ∀ X1 : gM, X1 = updM Z 1 k_1 (Z 3 k_1) →
      lok_X9_restore_16 KO n X1 (k_1 + 1))
def p_X9_restore (X : gM) : Int32 × gM :=
  if X 0 4 = 0 then
    ((-5), X)
  else
    let X1 := p_X9_records X
    lf_X9_restore_16  (fun X2 k_1w3 =>
          (X2 1 0, X2)) 2147483648 X1 0
def ok_X9_restore (X : gM) : Prop :=
  (if X 0 4 = 0 then
    True
  else
    (ok_X9_records X) ∧
    ∀ X1 : gM, X1 = p_X9_records X →
    lok_X9_restore_16  (fun X2 k_1w3 =>
          True) 2147483648 X1 0)
set_option maxHeartbeats 4000000 in
set_option maxRecDepth 100000 in
theorem lp_X9_restore_16 {p : Program} {l : Launch} {e : Env} {s : State} {m : MethodId} {args : Array Value} {below : List Frame} {meth : Method} {c0 : Code} {D : va_G} {cy : Nat → ClassId} (C : gCtx cX9_restore 2 (some .int) RX9 wsX9_restore D cy p s m args meth c0) (μ : Nat) 
    (KO : (gM) → (Nat) → Prop) (K : (gM) → (Nat) → (Int32 × gM)) (hexit : ∀ (Z : gM) (k_1 : Nat), k_1 ≤ 2147483647 → KO Z k_1 → ∀ (H : Heap) (locs : List Loc) (ls : Array Slot), MR D cy μ Z H → va_S (MA μ) s.heap H locs → lv_has ls 2 [(0, .ref μ), (1, .int (nI k_1))] → W p l e { frames := 1, cells := 0, slots := 0, locals := 21 } s m args below meth c0 H locs 0 0 (MQ below (gQi (K Z k_1).1 (MR D cy μ (K Z k_1).2) (MA μ)) args s 0 0 (MA μ)) (F0 m 41 ls [])) :
    ∀ (n : Nat) (Z : gM) (k_1 : Nat), k_1 ≤ 2147483647 → lok_X9_restore_16 KO n Z k_1 → 2147483647 < k_1 + n → ∀ (H : Heap) (locs : List Loc) (ls : Array Slot), MR D cy μ Z H → va_S (MA μ) s.heap H locs → lv_has ls 2 [(0, .ref μ), (1, .int (nI k_1))] → W p l e { frames := 1, cells := 0, slots := 0, locals := 21 } s m args below meth c0 H locs 0 0 (MQ below (gQi (lf_X9_restore_16 K n Z k_1).1 (MR D cy μ (lf_X9_restore_16 K n Z k_1).2) (MA μ)) args s 0 0 (MA μ)) (F0 m 16 ls []) := by
  obtain ⟨hx, hb, hr, hts, hown, hlocks, hml, hK⟩ := C
  have lk7 := hts (.fieldLink RX9 7 "MercuryLineModel" "s" "[I") (by decide +kernel)
  have inX9 : ∀ w ∈ u_ws RX9 TX9 15, w ∈ wsX9_restore := by decide +kernel
  have lk16 := hts (.fieldLink RX9 16 "MercuryLineModel" "shot" "[I") (by decide +kernel)
  intro n
  induction n with
  | zero =>
    intro Z k_1 hb_1 hok hme
    exact absurd hme (by omega)
  | succ n ih =>
    intro Z k_1 hb_1 hok hme H locs ls hR hS hl
    unfold lok_X9_restore_16 at hok
    refine lv_iload_n hx hb dX9_restore_16 rfl (lv_at hl 1 rfl) ?_
    refine lv_sipush (v := 974) hx hb dX9_restore_17 (by decide) ?_
    refine lv_icmp_ge (tgt := 41) hx hb dX9_restore_20 (by decide) (fun c_1 => ?_) (fun c_1 => ?_)
    · try rw [if_pos c_1] at hok
      have ge_2 : 974 ≤ k_1 := g_ge2 (Nat.lt_of_le_of_lt hb_1 (by decide)) (by decide) c_1
      refine gm_q (Q2 := MQ below (gQi (K Z k_1).1 (MR D cy μ (K Z k_1).2) (MA μ)) args s 0 0 (MA μ)) (by simp only [lf_X9_restore_16, ↓if_pos c_1]) ?_
      exact hexit Z k_1 hb_1 hok _ _ _ hR hS (lv_sub hl [0, 1] rfl)
    · try rw [if_neg c_1] at hok
      have lt_3 : k_1 < 974 := g_lt (Nat.lt_of_le_of_lt hb_1 (by decide)) (by decide) c_1
      refine lv_aload_n hx hb dX9_restore_23 rfl (lv_at hl 0 rfl) ?_
      refine va_get (D := D) (ci := 9) (v := .ref (μ + 1)) (C := RX9) (T := TX9) (N := 15) hx hb hts inX9 hown hK.1 (MR.mk0 hR) 0 rfl rfl 0 (by decide) lk7 (fun _ h9 => h9) rfl dX9_restore_24 ?_
      refine lv_iload_n hx hb dX9_restore_27 rfl (lv_at hl 1 rfl) ?_
      refine lv_aload_n hx hb dX9_restore_28 rfl (lv_at hl 0 rfl) ?_
      refine va_get (D := D) (ci := 9) (v := .ref (μ + 3)) (C := RX9) (T := TX9) (N := 15) hx hb hts inX9 hown hK.1 (MR.mk0 hR) 0 rfl rfl 3 (by decide) lk16 (fun _ h9 => h9) rfl dX9_restore_29 ?_
      refine lv_iload_n hx hb dX9_restore_32 rfl (lv_at hl 1 rfl) ?_
      refine gm_iald hx hb hK.1 (MR.mk1 hR (c := 3) (by decide) bM_3) (vp_in_nI lt_3 (by decide)) dX9_restore_33 ?_
      rw [nI_clamp (n := k_1) (by omega)]
      refine gm_iast hx hb hK.1 hR injM hS (a := 1) (by decide) rfl (fun r => bM_1) (vp_in_nI lt_3 (by decide)) dX9_restore_34 (fun H locs hR hS => ?_)
      rw [nI_clamp (n := k_1) (by omega)] at hR
      obtain ⟨X1, eX1⟩ : ∃ Y : gM, Y = updM Z 1 k_1 (Z 3 k_1) := ⟨_, rfl⟩
      rw [← eX1] at hR
      try replace hok := hok X1 eX1
      refine lv_iinc (v := nI (k_1 + 1)) (lv' := [(1, .int (nI (k_1 + 1))), (0, .ref μ)]) hx hb dX9_restore_35 hl (k := 1) rfl (nI_1 _) (by decide) rfl (fun ls hl => ?_)
      refine lv_goto (tgt := 16) hx hb dX9_restore_38 (by decide) ?_
      refine gm_q (Q2 := MQ below (gQi (lf_X9_restore_16 K n X1 (k_1 + 1)).1 (MR D cy μ (lf_X9_restore_16 K n X1 (k_1 + 1)).2) (MA μ)) args s 0 0 (MA μ)) (by simp only [lf_X9_restore_16, ↓if_neg c_1, ← eX1]) ?_
      exact ih X1 (k_1 + 1) (Nat.lt_of_lt_of_le lt_3 (by decide)) hok (by omega) _ _ _ hR hS (lv_sub hl [1, 0] rfl)
set_option maxHeartbeats 4000000 in
set_option maxRecDepth 100000 in
theorem c_X9_restore (l : Launch) (D : va_G) (cy : Nat → ClassId) (μ : Nat) (X : gM)  (hok : ok_X9_restore X) : Met l yX9_restore wsX9_restore ({ frames := 1, cells := 0, slots := 0, locals := 21 }) (gP [.ref μ] D cy (MR D cy μ X)) (gQi (p_X9_restore X).1 (MR D cy μ (p_X9_restore X).2) (MA μ)) 0 0 (MA μ) := by
  refine gm_met (cc := cX9_restore) (maxL := 2) (ret := (some .int)) [.ref μ] (by decide) rfl (Nat.le_of_ble_eq_true rfl) ?_
  intro p e s m args below meth c0 ls C hR hl
  obtain ⟨hx, hb, hr, hts, hown, hlocks, hml, hK⟩ := C
  have hl : lv_has ls 2 [(0, .ref μ)] := hl
  have hS : va_S (MA μ) s.heap s.heap [] := va_S.rf
  have lk182 := hts (.fieldLink RX9 182 "MercuryLineModel" "isShot" "Z") (by decide +kernel)
  have inX9 : ∀ w ∈ u_ws RX9 TX9 15, w ∈ wsX9_restore := by decide +kernel
  have lk7 := hts (.fieldLink RX9 7 "MercuryLineModel" "s" "[I") (by decide +kernel)
  unfold ok_X9_restore at hok
  refine lv_aload_n hx hb dX9_restore_0 rfl (lv_at hl 0 rfl) ?_
  refine va_get (D := D) (ci := 9) (v := .int (X 0 4)) (C := RX9) (T := TX9) (N := 15) hx hb hts inX9 hown hK.1 (MR.mk0 hR) 0 rfl rfl 4 (by decide) lk182 (fun _ h9 => h9) rfl dX9_restore_1 ?_
  refine lv_if_ne (tgt := 10) hx hb dX9_restore_4 (by decide) (fun c_1 => ?_) (fun c_1 => ?_)
  · try rw [if_neg c_1] at hok
    refine lv_aload_n hx hb dX9_restore_10 rfl (lv_at hl 0 rfl) ?_
    obtain ⟨h_2, hok⟩ := hok
    refine gm_cv (gm_call (As := []) (rest := []) (ci := 9) (q := (RX9, TX9, 15)) ⟨hx, hb, hml, hown, hts⟩ hK (c_X9_records l D cy μ X h_2) (cwV 0 hts gX9_restore_X9_records rfl rfl rfl (by decide +kernel) ⟨Nat.le_of_ble_eq_true rfl, Nat.le_of_ble_eq_true rfl⟩) (MR.mk0 hR) rfl hR rfl hl.1 rfl (Nat.le_of_ble_eq_true rfl) dX9_restore_11 (Nat.zero_le _) (Nat.zero_le _)) hS (fun _ h => h) (fun H locs hR _ _ hS => ?_)
    obtain ⟨X1, eX1⟩ : ∃ Y : gM, Y = p_X9_records X := ⟨_, rfl⟩
    rw [← eX1] at hR
    try replace hok := hok X1 eX1
    refine lv_iconst (v := 0) hx hb dX9_restore_14 (by decide) ?_
    refine lv_istore_n (lv' := [(1, .int 0), (0, .ref μ)]) hx hb dX9_restore_15 rfl hl (by decide) rfl (fun ls hl => ?_)
    refine gm_q (Q2 := MQ below (gQi (lf_X9_restore_16  (fun X2 k_1w3 =>
          (X2 1 0, X2)) 2147483648 X1 0).1 (MR D cy μ (lf_X9_restore_16  (fun X2 k_1w3 =>
          (X2 1 0, X2)) 2147483648 X1 0).2) (MA μ)) args s 0 0 (MA μ)) (by simp only [p_X9_restore, ↓if_neg c_1, ← eX1]) ?_
    refine lp_X9_restore_16 ⟨hx, hb, hr, hts, hown, hlocks, hml, hK⟩ μ  _ _ (fun X2 k_1w3 hbk_1w3 hok H locs ls hR hS hl => ?_) 2147483648 X1 0 (by decide) hok (by omega) _ _ _ hR hS (lv_sub hl [1, 0] rfl)
    refine lv_aload_n hx hb dX9_restore_41 rfl (lv_at hl 0 rfl) ?_
    refine va_get (D := D) (ci := 9) (v := .ref (μ + 1)) (C := RX9) (T := TX9) (N := 15) hx hb hts inX9 hown hK.1 (MR.mk0 hR) 0 rfl rfl 0 (by decide) lk7 (fun _ h9 => h9) rfl dX9_restore_42 ?_
    refine lv_iconst (v := 0) hx hb dX9_restore_45 (by decide) ?_
    refine gm_iald hx hb hK.1 (MR.mk1 hR (c := 1) (by decide) bM_1) (vp_in_iff.mpr (by decide)) dX9_restore_46 ?_
    rw [show (0 : Int32).toNatClampNeg = 0 from by decide]
    exact gm_iret hx hb hr hlocks hS (by (try simp only [p_X9_restore, ↓if_neg c_1, ← eX1]); (try rfl)) (by (try simp only [p_X9_restore, ↓if_neg c_1, ← eX1]); exact hR) dX9_restore_47
  · try rw [if_pos c_1] at hok
    refine lv_bipush (v := (-5)) hx hb dX9_restore_7 (by decide) ?_
    exact gm_iret hx hb hr hlocks hS (by (try simp only [p_X9_restore, ↓if_pos c_1]); (try rfl)) (by (try simp only [p_X9_restore, ↓if_pos c_1]); exact hR) dX9_restore_9
def f_X9_line (X : gM) (a1 : Int32) (a2 : Int32) : Int32 :=
  if f_X9_isLine a1 = 0 then
    (-1)
  else
    if a2 = 0 then
      f_X9_ofLine X a1 a2
    else
      if a2 = 1 then
        f_X9_ofLine X a1 a2
      else
        if a2 = 2 then
          (f_X9_ofLine X a1 a2) + 100
        else
          if a2 = 3 then
            (f_X9_ofLine X a1 a2) + 100
          else
            if a2 = 4 then
              f_X9_ofLine X a1 a2
            else
              if a2 = 5 then
                f_X9_on X a1 1
              else
                if a2 = 6 then
                  f_X9_on X a1 2
                else
                  if a2 = 7 then
                    f_X9_ofLine X a1 5
                  else
                    if a2 = 8 then
                      f_X9_ofLine X a1 6
                    else
                      (-2)
def ok_X9_line (X : gM) (a1 : Int32) (a2 : Int32) : Prop :=
  (if f_X9_isLine a1 = 0 then
    True
  else
    (if a2 = 0 then
      (ok_X9_ofLine X a1 a2) ∧
      True
    else
      (if a2 = 1 then
        (ok_X9_ofLine X a1 a2) ∧
        True
      else
        (if a2 = 2 then
          (ok_X9_ofLine X a1 a2) ∧
          True
        else
          (if a2 = 3 then
            (ok_X9_ofLine X a1 a2) ∧
            True
          else
            (if a2 = 4 then
              (ok_X9_ofLine X a1 a2) ∧
              True
            else
              (if a2 = 5 then
                (ok_X9_on X a1 1) ∧
                True
              else
                (if a2 = 6 then
                  (ok_X9_on X a1 2) ∧
                  True
                else
                  (if a2 = 7 then
                    (ok_X9_ofLine X a1 5) ∧
                    True
                  else
                    (if a2 = 8 then
                      (ok_X9_ofLine X a1 6) ∧
                      True
                    else
                      True))))))))))
set_option maxHeartbeats 4000000 in
set_option maxRecDepth 100000 in
theorem c_X9_line (l : Launch) (D : va_G) (cy : Nat → ClassId) (μ : Nat) (X : gM) (a1 : Int32) (a2 : Int32)  (hok : ok_X9_line X a1 a2) : Met l yX9_line wsX9_line ({ frames := 2, cells := 0, slots := 0, locals := 46 }) (gP [.ref μ, .int a1, .int a2] D cy (MR D cy μ X)) (gQi (f_X9_line X a1 a2) (fun _ => True) gNo) 0 0 gNo := by
  refine gm_met (cc := cX9_line) (maxL := 3) (ret := (some .int)) [.ref μ, .int a1, .int a2] (by decide) rfl (Nat.le_of_ble_eq_true rfl) ?_
  intro p e s m args below meth c0 ls C hR hl
  obtain ⟨hx, hb, hr, hts, hown, hlocks, hml, hK⟩ := C
  have hl : lv_has ls 3 [(0, .ref μ), (1, .int a1), (2, .int a2)] := hl
  have hS : va_S gNo s.heap s.heap [] := va_S.rf
  unfold ok_X9_line at hok
  refine lv_iload_n hx hb dX9_line_0 rfl (lv_at hl 1 rfl) ?_
  refine gm_ci (gm_callS (As := [.int a1]) (rest := []) ⟨hx, hb, hml, hown, hts⟩ hK (c_X9_isLine l D cy a1) (va_cwS 1 hts gX9_line_X9_isLine rfl rfl rfl (by decide +kernel) ⟨Nat.le_of_ble_eq_true rfl, Nat.le_of_ble_eq_true rfl⟩) trivial rfl hl.1 rfl (Nat.le_of_ble_eq_true rfl) dX9_line_1 (Nat.zero_le _) (Nat.zero_le _)) hS (fun _ h => h.elim) (fun H locs _ _ hfr hS => ?_)
  have hR := gRep.keep hR hfr (fun _ _ h => h)
  refine lv_if_ne (tgt := 9) hx hb dX9_line_4 (by decide) (fun c_1 => ?_) (fun c_1 => ?_)
  · try rw [if_neg c_1] at hok
    refine lv_iload_n hx hb dX9_line_9 rfl (lv_at hl 2 rfl) ?_
    rcases Decidable.em (a2 = 0) with c_2 | c_2
    · try rw [if_pos c_2] at hok
      refine lv_tableIn (tgt := 60) hx hb dX9_line_10 (by rw [c_2]; decide) (by rw [c_2]; decide) (by rw [c_2]; rfl) (by decide) ?_
      refine lv_aload_n hx hb dX9_line_60 rfl (lv_at hl 0 rfl) ?_
      refine lv_iload_n hx hb dX9_line_61 rfl (lv_at hl 1 rfl) ?_
      refine lv_iload_n hx hb dX9_line_62 rfl (lv_at hl 2 rfl) ?_
      obtain ⟨h_3, hok⟩ := hok
      refine gm_ci (gm_call (As := [.int a1, .int a2]) (rest := []) (ci := 9) (q := (RX9, TX9, 15)) ⟨hx, hb, hml, hown, hts⟩ hK (c_X9_ofLine l D cy μ X a1 a2 h_3) (cwV 2 hts gX9_line_X9_ofLine rfl rfl rfl (by decide +kernel) ⟨Nat.le_of_ble_eq_true rfl, Nat.le_of_ble_eq_true rfl⟩) (MR.mk0 hR) rfl hR rfl hl.1 rfl (Nat.le_of_ble_eq_true rfl) dX9_line_63 (Nat.zero_le _) (Nat.zero_le _)) hS (fun _ h => h.elim) (fun H locs _ _ hfr hS => ?_)
      have hR := gRep.keep hR hfr (fun _ _ h => h)
      exact gm_iret hx hb hr hlocks hS (by (try simp only [f_X9_line, ↓if_neg c_1, ↓if_pos c_2]); (try rfl)) trivial dX9_line_66
    · skip
      try rw [if_neg c_2] at hok
      rcases Decidable.em (a2 = 1) with c_4 | c_4
      · try rw [if_pos c_4] at hok
        refine lv_tableIn (tgt := 60) hx hb dX9_line_10 (by rw [c_4]; decide) (by rw [c_4]; decide) (by rw [c_4]; rfl) (by decide) ?_
        refine lv_aload_n hx hb dX9_line_60 rfl (lv_at hl 0 rfl) ?_
        refine lv_iload_n hx hb dX9_line_61 rfl (lv_at hl 1 rfl) ?_
        refine lv_iload_n hx hb dX9_line_62 rfl (lv_at hl 2 rfl) ?_
        obtain ⟨h_5, hok⟩ := hok
        refine gm_ci (gm_call (As := [.int a1, .int a2]) (rest := []) (ci := 9) (q := (RX9, TX9, 15)) ⟨hx, hb, hml, hown, hts⟩ hK (c_X9_ofLine l D cy μ X a1 a2 h_5) (cwV 2 hts gX9_line_X9_ofLine rfl rfl rfl (by decide +kernel) ⟨Nat.le_of_ble_eq_true rfl, Nat.le_of_ble_eq_true rfl⟩) (MR.mk0 hR) rfl hR rfl hl.1 rfl (Nat.le_of_ble_eq_true rfl) dX9_line_63 (Nat.zero_le _) (Nat.zero_le _)) hS (fun _ h => h.elim) (fun H locs _ _ hfr hS => ?_)
        have hR := gRep.keep hR hfr (fun _ _ h => h)
        exact gm_iret hx hb hr hlocks hS (by (try simp only [f_X9_line, ↓if_neg c_1, ↓if_neg c_2, ↓if_pos c_4]); (try rfl)) trivial dX9_line_66
      · skip
        try rw [if_neg c_4] at hok
        rcases Decidable.em (a2 = 2) with c_6 | c_6
        · try rw [if_pos c_6] at hok
          refine lv_tableIn (tgt := 67) hx hb dX9_line_10 (by rw [c_6]; decide) (by rw [c_6]; decide) (by rw [c_6]; rfl) (by decide) ?_
          refine lv_aload_n hx hb dX9_line_67 rfl (lv_at hl 0 rfl) ?_
          refine lv_iload_n hx hb dX9_line_68 rfl (lv_at hl 1 rfl) ?_
          refine lv_iload_n hx hb dX9_line_69 rfl (lv_at hl 2 rfl) ?_
          obtain ⟨h_7, hok⟩ := hok
          refine gm_ci (gm_call (As := [.int a1, .int a2]) (rest := []) (ci := 9) (q := (RX9, TX9, 15)) ⟨hx, hb, hml, hown, hts⟩ hK (c_X9_ofLine l D cy μ X a1 a2 h_7) (cwV 2 hts gX9_line_X9_ofLine rfl rfl rfl (by decide +kernel) ⟨Nat.le_of_ble_eq_true rfl, Nat.le_of_ble_eq_true rfl⟩) (MR.mk0 hR) rfl hR rfl hl.1 rfl (Nat.le_of_ble_eq_true rfl) dX9_line_70 (Nat.zero_le _) (Nat.zero_le _)) hS (fun _ h => h.elim) (fun H locs _ _ hfr hS => ?_)
          have hR := gRep.keep hR hfr (fun _ _ h => h)
          refine lv_bipush (v := 100) hx hb dX9_line_73 (by decide) ?_
          refine lv_iadd hx hb dX9_line_75 ?_
          exact gm_iret hx hb hr hlocks hS (by (try simp only [f_X9_line, ↓if_neg c_1, ↓if_neg c_2, ↓if_neg c_4, ↓if_pos c_6]); (try rfl)) trivial dX9_line_76
        · skip
          try rw [if_neg c_6] at hok
          rcases Decidable.em (a2 = 3) with c_8 | c_8
          · try rw [if_pos c_8] at hok
            refine lv_tableIn (tgt := 67) hx hb dX9_line_10 (by rw [c_8]; decide) (by rw [c_8]; decide) (by rw [c_8]; rfl) (by decide) ?_
            refine lv_aload_n hx hb dX9_line_67 rfl (lv_at hl 0 rfl) ?_
            refine lv_iload_n hx hb dX9_line_68 rfl (lv_at hl 1 rfl) ?_
            refine lv_iload_n hx hb dX9_line_69 rfl (lv_at hl 2 rfl) ?_
            obtain ⟨h_9, hok⟩ := hok
            refine gm_ci (gm_call (As := [.int a1, .int a2]) (rest := []) (ci := 9) (q := (RX9, TX9, 15)) ⟨hx, hb, hml, hown, hts⟩ hK (c_X9_ofLine l D cy μ X a1 a2 h_9) (cwV 2 hts gX9_line_X9_ofLine rfl rfl rfl (by decide +kernel) ⟨Nat.le_of_ble_eq_true rfl, Nat.le_of_ble_eq_true rfl⟩) (MR.mk0 hR) rfl hR rfl hl.1 rfl (Nat.le_of_ble_eq_true rfl) dX9_line_70 (Nat.zero_le _) (Nat.zero_le _)) hS (fun _ h => h.elim) (fun H locs _ _ hfr hS => ?_)
            have hR := gRep.keep hR hfr (fun _ _ h => h)
            refine lv_bipush (v := 100) hx hb dX9_line_73 (by decide) ?_
            refine lv_iadd hx hb dX9_line_75 ?_
            exact gm_iret hx hb hr hlocks hS (by (try simp only [f_X9_line, ↓if_neg c_1, ↓if_neg c_2, ↓if_neg c_4, ↓if_neg c_6, ↓if_pos c_8]); (try rfl)) trivial dX9_line_76
          · skip
            try rw [if_neg c_8] at hok
            rcases Decidable.em (a2 = 4) with c_10 | c_10
            · try rw [if_pos c_10] at hok
              refine lv_tableIn (tgt := 60) hx hb dX9_line_10 (by rw [c_10]; decide) (by rw [c_10]; decide) (by rw [c_10]; rfl) (by decide) ?_
              refine lv_aload_n hx hb dX9_line_60 rfl (lv_at hl 0 rfl) ?_
              refine lv_iload_n hx hb dX9_line_61 rfl (lv_at hl 1 rfl) ?_
              refine lv_iload_n hx hb dX9_line_62 rfl (lv_at hl 2 rfl) ?_
              obtain ⟨h_11, hok⟩ := hok
              refine gm_ci (gm_call (As := [.int a1, .int a2]) (rest := []) (ci := 9) (q := (RX9, TX9, 15)) ⟨hx, hb, hml, hown, hts⟩ hK (c_X9_ofLine l D cy μ X a1 a2 h_11) (cwV 2 hts gX9_line_X9_ofLine rfl rfl rfl (by decide +kernel) ⟨Nat.le_of_ble_eq_true rfl, Nat.le_of_ble_eq_true rfl⟩) (MR.mk0 hR) rfl hR rfl hl.1 rfl (Nat.le_of_ble_eq_true rfl) dX9_line_63 (Nat.zero_le _) (Nat.zero_le _)) hS (fun _ h => h.elim) (fun H locs _ _ hfr hS => ?_)
              have hR := gRep.keep hR hfr (fun _ _ h => h)
              exact gm_iret hx hb hr hlocks hS (by (try simp only [f_X9_line, ↓if_neg c_1, ↓if_neg c_2, ↓if_neg c_4, ↓if_neg c_6, ↓if_neg c_8, ↓if_pos c_10]); (try rfl)) trivial dX9_line_66
            · skip
              try rw [if_neg c_10] at hok
              rcases Decidable.em (a2 = 5) with c_12 | c_12
              · try rw [if_pos c_12] at hok
                refine lv_tableIn (tgt := 77) hx hb dX9_line_10 (by rw [c_12]; decide) (by rw [c_12]; decide) (by rw [c_12]; rfl) (by decide) ?_
                refine lv_aload_n hx hb dX9_line_77 rfl (lv_at hl 0 rfl) ?_
                refine lv_iload_n hx hb dX9_line_78 rfl (lv_at hl 1 rfl) ?_
                refine lv_iconst (v := 1) hx hb dX9_line_79 (by decide) ?_
                obtain ⟨h_13, hok⟩ := hok
                refine gm_ci (gm_call (As := [.int a1, .int 1]) (rest := []) (ci := 9) (q := (RX9, TX9, 15)) ⟨hx, hb, hml, hown, hts⟩ hK (c_X9_on l D cy μ X a1 1 h_13) (cwV 2 hts gX9_line_X9_on rfl rfl rfl (by decide +kernel) ⟨Nat.le_of_ble_eq_true rfl, Nat.le_of_ble_eq_true rfl⟩) (MR.mk0 hR) rfl hR rfl hl.1 rfl (Nat.le_of_ble_eq_true rfl) dX9_line_80 (Nat.zero_le _) (Nat.zero_le _)) hS (fun _ h => h.elim) (fun H locs _ _ hfr hS => ?_)
                have hR := gRep.keep hR hfr (fun _ _ h => h)
                exact gm_iret hx hb hr hlocks hS (by (try simp only [f_X9_line, ↓if_neg c_1, ↓if_neg c_2, ↓if_neg c_4, ↓if_neg c_6, ↓if_neg c_8, ↓if_neg c_10, ↓if_pos c_12]); (try rfl)) trivial dX9_line_83
              · skip
                try rw [if_neg c_12] at hok
                rcases Decidable.em (a2 = 6) with c_14 | c_14
                · try rw [if_pos c_14] at hok
                  refine lv_tableIn (tgt := 84) hx hb dX9_line_10 (by rw [c_14]; decide) (by rw [c_14]; decide) (by rw [c_14]; rfl) (by decide) ?_
                  refine lv_aload_n hx hb dX9_line_84 rfl (lv_at hl 0 rfl) ?_
                  refine lv_iload_n hx hb dX9_line_85 rfl (lv_at hl 1 rfl) ?_
                  refine lv_iconst (v := 2) hx hb dX9_line_86 (by decide) ?_
                  obtain ⟨h_15, hok⟩ := hok
                  refine gm_ci (gm_call (As := [.int a1, .int 2]) (rest := []) (ci := 9) (q := (RX9, TX9, 15)) ⟨hx, hb, hml, hown, hts⟩ hK (c_X9_on l D cy μ X a1 2 h_15) (cwV 2 hts gX9_line_X9_on rfl rfl rfl (by decide +kernel) ⟨Nat.le_of_ble_eq_true rfl, Nat.le_of_ble_eq_true rfl⟩) (MR.mk0 hR) rfl hR rfl hl.1 rfl (Nat.le_of_ble_eq_true rfl) dX9_line_87 (Nat.zero_le _) (Nat.zero_le _)) hS (fun _ h => h.elim) (fun H locs _ _ hfr hS => ?_)
                  have hR := gRep.keep hR hfr (fun _ _ h => h)
                  exact gm_iret hx hb hr hlocks hS (by (try simp only [f_X9_line, ↓if_neg c_1, ↓if_neg c_2, ↓if_neg c_4, ↓if_neg c_6, ↓if_neg c_8, ↓if_neg c_10, ↓if_neg c_12, ↓if_pos c_14]); (try rfl)) trivial dX9_line_90
                · skip
                  try rw [if_neg c_14] at hok
                  rcases Decidable.em (a2 = 7) with c_16 | c_16
                  · try rw [if_pos c_16] at hok
                    refine lv_tableIn (tgt := 91) hx hb dX9_line_10 (by rw [c_16]; decide) (by rw [c_16]; decide) (by rw [c_16]; rfl) (by decide) ?_
                    refine lv_aload_n hx hb dX9_line_91 rfl (lv_at hl 0 rfl) ?_
                    refine lv_iload_n hx hb dX9_line_92 rfl (lv_at hl 1 rfl) ?_
                    refine lv_iconst (v := 5) hx hb dX9_line_93 (by decide) ?_
                    obtain ⟨h_17, hok⟩ := hok
                    refine gm_ci (gm_call (As := [.int a1, .int 5]) (rest := []) (ci := 9) (q := (RX9, TX9, 15)) ⟨hx, hb, hml, hown, hts⟩ hK (c_X9_ofLine l D cy μ X a1 5 h_17) (cwV 2 hts gX9_line_X9_ofLine rfl rfl rfl (by decide +kernel) ⟨Nat.le_of_ble_eq_true rfl, Nat.le_of_ble_eq_true rfl⟩) (MR.mk0 hR) rfl hR rfl hl.1 rfl (Nat.le_of_ble_eq_true rfl) dX9_line_94 (Nat.zero_le _) (Nat.zero_le _)) hS (fun _ h => h.elim) (fun H locs _ _ hfr hS => ?_)
                    have hR := gRep.keep hR hfr (fun _ _ h => h)
                    exact gm_iret hx hb hr hlocks hS (by (try simp only [f_X9_line, ↓if_neg c_1, ↓if_neg c_2, ↓if_neg c_4, ↓if_neg c_6, ↓if_neg c_8, ↓if_neg c_10, ↓if_neg c_12, ↓if_neg c_14, ↓if_pos c_16]); (try rfl)) trivial dX9_line_97
                  · skip
                    try rw [if_neg c_16] at hok
                    rcases Decidable.em (a2 = 8) with c_18 | c_18
                    · try rw [if_pos c_18] at hok
                      refine lv_tableIn (tgt := 98) hx hb dX9_line_10 (by rw [c_18]; decide) (by rw [c_18]; decide) (by rw [c_18]; rfl) (by decide) ?_
                      refine lv_aload_n hx hb dX9_line_98 rfl (lv_at hl 0 rfl) ?_
                      refine lv_iload_n hx hb dX9_line_99 rfl (lv_at hl 1 rfl) ?_
                      refine lv_bipush (v := 6) hx hb dX9_line_100 (by decide) ?_
                      obtain ⟨h_19, hok⟩ := hok
                      refine gm_ci (gm_call (As := [.int a1, .int 6]) (rest := []) (ci := 9) (q := (RX9, TX9, 15)) ⟨hx, hb, hml, hown, hts⟩ hK (c_X9_ofLine l D cy μ X a1 6 h_19) (cwV 2 hts gX9_line_X9_ofLine rfl rfl rfl (by decide +kernel) ⟨Nat.le_of_ble_eq_true rfl, Nat.le_of_ble_eq_true rfl⟩) (MR.mk0 hR) rfl hR rfl hl.1 rfl (Nat.le_of_ble_eq_true rfl) dX9_line_102 (Nat.zero_le _) (Nat.zero_le _)) hS (fun _ h => h.elim) (fun H locs _ _ hfr hS => ?_)
                      have hR := gRep.keep hR hfr (fun _ _ h => h)
                      exact gm_iret hx hb hr hlocks hS (by (try simp only [f_X9_line, ↓if_neg c_1, ↓if_neg c_2, ↓if_neg c_4, ↓if_neg c_6, ↓if_neg c_8, ↓if_neg c_10, ↓if_neg c_12, ↓if_neg c_14, ↓if_neg c_16, ↓if_pos c_18]); (try rfl)) trivial dX9_line_105
                    · skip
                      try rw [if_neg c_18] at hok
                      refine lv_tableOut (tgt := 106) hx hb dX9_line_10 (g_sw0_8 c_2 c_4 c_6 c_8 c_10 c_12 c_14 c_16 c_18) (by decide) ?_
                      refine lv_bipush (v := (-2)) hx hb dX9_line_106 (by decide) ?_
                      exact gm_iret hx hb hr hlocks hS (by (try simp only [f_X9_line, ↓if_neg c_1, ↓if_neg c_2, ↓if_neg c_4, ↓if_neg c_6, ↓if_neg c_8, ↓if_neg c_10, ↓if_neg c_12, ↓if_neg c_14, ↓if_neg c_16, ↓if_neg c_18]); (try rfl)) trivial dX9_line_108
  · try rw [if_pos c_1] at hok
    refine lv_iconst (v := (-1)) hx hb dX9_line_7 (by decide) ?_
    exact gm_iret hx hb hr hlocks hS (by (try simp only [f_X9_line, ↓if_pos c_1]); (try rfl)) trivial dX9_line_8
def f_X9_slot (X : gM) (a1 : Int32) (a2 : Int32) : Int32 :=
  if f_X9_isLine a1 = 0 then
    (-1)
  else
    if f_X9_in a2 0 ((f_X9_ofLine X a1 0) - 1) = 0 then
      (-2)
    else
      f_X9_seat X a1 a2
def ok_X9_slot (X : gM) (a1 : Int32) (a2 : Int32) : Prop :=
  (if f_X9_isLine a1 = 0 then
    True
  else
    (ok_X9_ofLine X a1 0) ∧
    (if f_X9_in a2 0 ((f_X9_ofLine X a1 0) - 1) = 0 then
      True
    else
      (ok_X9_seat X a1 a2) ∧
      True))
set_option maxHeartbeats 4000000 in
set_option maxRecDepth 100000 in
theorem c_X9_slot (l : Launch) (D : va_G) (cy : Nat → ClassId) (μ : Nat) (X : gM) (a1 : Int32) (a2 : Int32)  (hok : ok_X9_slot X a1 a2) : Met l yX9_slot wsX9_slot ({ frames := 2, cells := 0, slots := 0, locals := 42 }) (gP [.ref μ, .int a1, .int a2] D cy (MR D cy μ X)) (gQi (f_X9_slot X a1 a2) (fun _ => True) gNo) 0 0 gNo := by
  refine gm_met (cc := cX9_slot) (maxL := 3) (ret := (some .int)) [.ref μ, .int a1, .int a2] (by decide) rfl (Nat.le_of_ble_eq_true rfl) ?_
  intro p e s m args below meth c0 ls C hR hl
  obtain ⟨hx, hb, hr, hts, hown, hlocks, hml, hK⟩ := C
  have hl : lv_has ls 3 [(0, .ref μ), (1, .int a1), (2, .int a2)] := hl
  have hS : va_S gNo s.heap s.heap [] := va_S.rf
  unfold ok_X9_slot at hok
  refine lv_iload_n hx hb dX9_slot_0 rfl (lv_at hl 1 rfl) ?_
  refine gm_ci (gm_callS (As := [.int a1]) (rest := []) ⟨hx, hb, hml, hown, hts⟩ hK (c_X9_isLine l D cy a1) (va_cwS 1 hts gX9_slot_X9_isLine rfl rfl rfl (by decide +kernel) ⟨Nat.le_of_ble_eq_true rfl, Nat.le_of_ble_eq_true rfl⟩) trivial rfl hl.1 rfl (Nat.le_of_ble_eq_true rfl) dX9_slot_1 (Nat.zero_le _) (Nat.zero_le _)) hS (fun _ h => h.elim) (fun H locs _ _ hfr hS => ?_)
  have hR := gRep.keep hR hfr (fun _ _ h => h)
  refine lv_if_ne (tgt := 9) hx hb dX9_slot_4 (by decide) (fun c_1 => ?_) (fun c_1 => ?_)
  · try rw [if_neg c_1] at hok
    refine lv_iload_n hx hb dX9_slot_9 rfl (lv_at hl 2 rfl) ?_
    refine lv_iconst (v := 0) hx hb dX9_slot_10 (by decide) ?_
    refine lv_aload_n hx hb dX9_slot_11 rfl (lv_at hl 0 rfl) ?_
    refine lv_iload_n hx hb dX9_slot_12 rfl (lv_at hl 1 rfl) ?_
    refine lv_iconst (v := 0) hx hb dX9_slot_13 (by decide) ?_
    obtain ⟨h_2, hok⟩ := hok
    refine gm_ci (gm_call (As := [.int a1, .int 0]) (rest := [.int 0, .int a2]) (ci := 9) (q := (RX9, TX9, 15)) ⟨hx, hb, hml, hown, hts⟩ hK (c_X9_ofLine l D cy μ X a1 0 h_2) (cwV 2 hts gX9_slot_X9_ofLine rfl rfl rfl (by decide +kernel) ⟨Nat.le_of_ble_eq_true rfl, Nat.le_of_ble_eq_true rfl⟩) (MR.mk0 hR) rfl hR rfl hl.1 rfl (Nat.le_of_ble_eq_true rfl) dX9_slot_14 (Nat.zero_le _) (Nat.zero_le _)) hS (fun _ h => h.elim) (fun H locs _ _ hfr hS => ?_)
    have hR := gRep.keep hR hfr (fun _ _ h => h)
    refine lv_iconst (v := 1) hx hb dX9_slot_17 (by decide) ?_
    refine lv_isub hx hb dX9_slot_18 ?_
    refine gm_ci (gm_callS (As := [.int a2, .int 0, .int ((f_X9_ofLine X a1 0) - 1)]) (rest := []) ⟨hx, hb, hml, hown, hts⟩ hK (c_X9_in l D cy a2 0 ((f_X9_ofLine X a1 0) - 1)) (va_cwS 3 hts gX9_slot_X9_in rfl rfl rfl (by decide +kernel) ⟨Nat.le_of_ble_eq_true rfl, Nat.le_of_ble_eq_true rfl⟩) trivial rfl hl.1 rfl (Nat.le_of_ble_eq_true rfl) dX9_slot_19 (Nat.zero_le _) (Nat.zero_le _)) hS (fun _ h => h.elim) (fun H locs _ _ hfr hS => ?_)
    have hR := gRep.keep hR hfr (fun _ _ h => h)
    refine lv_if_eq (tgt := 34) hx hb dX9_slot_22 (by decide) (fun c_3 => ?_) (fun c_3 => ?_)
    · try rw [if_pos c_3] at hok
      refine lv_bipush (v := (-2)) hx hb dX9_slot_34 (by decide) ?_
      exact gm_iret hx hb hr hlocks hS (by (try simp only [f_X9_slot, ↓if_neg c_1, ↓if_pos c_3]); (try rfl)) trivial dX9_slot_36
    · try rw [if_neg c_3] at hok
      refine lv_aload_n hx hb dX9_slot_25 rfl (lv_at hl 0 rfl) ?_
      refine lv_iload_n hx hb dX9_slot_26 rfl (lv_at hl 1 rfl) ?_
      refine lv_iload_n hx hb dX9_slot_27 rfl (lv_at hl 2 rfl) ?_
      obtain ⟨h_4, hok⟩ := hok
      refine gm_ci (gm_call (As := [.int a1, .int a2]) (rest := []) (ci := 9) (q := (RX9, TX9, 15)) ⟨hx, hb, hml, hown, hts⟩ hK (c_X9_seat l D cy μ X a1 a2 h_4) (cwV 2 hts gX9_slot_X9_seat rfl rfl rfl (by decide +kernel) ⟨Nat.le_of_ble_eq_true rfl, Nat.le_of_ble_eq_true rfl⟩) (MR.mk0 hR) rfl hR rfl hl.1 rfl (Nat.le_of_ble_eq_true rfl) dX9_slot_28 (Nat.zero_le _) (Nat.zero_le _)) hS (fun _ h => h.elim) (fun H locs _ _ hfr hS => ?_)
      have hR := gRep.keep hR hfr (fun _ _ h => h)
      refine lv_goto (tgt := 36) hx hb dX9_slot_31 (by decide) ?_
      exact gm_iret hx hb hr hlocks hS (by (try simp only [f_X9_slot, ↓if_neg c_1, ↓if_neg c_3]); (try rfl)) trivial dX9_slot_36
  · try rw [if_pos c_1] at hok
    refine lv_iconst (v := (-1)) hx hb dX9_slot_7 (by decide) ?_
    exact gm_iret hx hb hr hlocks hS (by (try simp only [f_X9_slot, ↓if_pos c_1]); (try rfl)) trivial dX9_slot_8
def lf_X9_waitMany_4 (X : gM) (a1 : Int32) (K : (Int32) → (Nat) → (Int32)) : Nat → (Int32) → (Nat) → (Int32)
  | 0, x_2, k_3 => K x_2 k_3
  | n + 1, x_2, k_3 =>
    if X 1 1 ≤ nI k_3 then
      K x_2 k_3
    else
      if f_X9_isWaiting X (nI k_3) a1 = 0 then
        lf_X9_waitMany_4 X a1 K n (x_2 + 0) (k_3 + 1)
      else
        lf_X9_waitMany_4 X a1 K n (x_2 + 1) (k_3 + 1)
def lok_X9_waitMany_4 (X : gM) (a1 : Int32) (KO : (Int32) → (Nat) → Prop) : Nat → (Int32) → (Nat) → Prop
  | 0, x_2, k_3 => True
  | n + 1, x_2, k_3 =>
    (if X 1 1 ≤ nI k_3 then
      KO x_2 k_3
    else
      (ok_X9_isWaiting X (nI k_3) a1) ∧
      (if f_X9_isWaiting X (nI k_3) a1 = 0 then
        lok_X9_waitMany_4 X a1 KO n (x_2 + 0) (k_3 + 1)
      else
        lok_X9_waitMany_4 X a1 KO n (x_2 + 1) (k_3 + 1)))
def f_X9_waitMany (X : gM) (a1 : Int32) : Int32 :=
  lf_X9_waitMany_4 X a1 (fun x_2w1 k_3w1 =>
        x_2w1) 2147483648 0 0
def ok_X9_waitMany (X : gM) (a1 : Int32) : Prop :=
  lok_X9_waitMany_4 X a1 (fun x_2w1 k_3w1 =>
        True) 2147483648 0 0
set_option maxHeartbeats 4000000 in
set_option maxRecDepth 100000 in
theorem lp_X9_waitMany_4 {p : Program} {l : Launch} {e : Env} {s : State} {m : MethodId} {args : Array Value} {below : List Frame} {meth : Method} {c0 : Code} {D : va_G} {cy : Nat → ClassId} (C : gCtx cX9_waitMany 4 (some .int) RX9 wsX9_waitMany D cy p s m args meth c0) (μ : Nat) (X : gM) (a1 : Int32) 
    (KO : (Int32) → (Nat) → Prop) (K : (Int32) → (Nat) → (Int32)) (hexit : ∀ (x_2 : Int32) (k_3 : Nat), k_3 ≤ 2147483647 → KO x_2 k_3 → ∀ (H : Heap) (locs : List Loc) (ls : Array Slot), MR D cy μ X H → va_S gNo s.heap H locs → lv_has ls 4 [(0, .ref μ), (1, .int a1), (2, .int x_2), (3, .int (nI k_3))] → W p l e { frames := 2, cells := 0, slots := 0, locals := 44 } s m args below meth c0 H locs 0 0 (MQ below (gQi (K x_2 k_3) (fun _ => True) gNo) args s 0 0 gNo) (F0 m 37 ls [])) :
    ∀ (n : Nat) (x_2 : Int32) (k_3 : Nat), k_3 ≤ 2147483647 → lok_X9_waitMany_4 X a1 KO n x_2 k_3 → 2147483647 < k_3 + n → ∀ (H : Heap) (locs : List Loc) (ls : Array Slot), MR D cy μ X H → va_S gNo s.heap H locs → lv_has ls 4 [(0, .ref μ), (1, .int a1), (2, .int x_2), (3, .int (nI k_3))] → W p l e { frames := 2, cells := 0, slots := 0, locals := 44 } s m args below meth c0 H locs 0 0 (MQ below (gQi (lf_X9_waitMany_4 X a1 K n x_2 k_3) (fun _ => True) gNo) args s 0 0 gNo) (F0 m 4 ls []) := by
  obtain ⟨hx, hb, hr, hts, hown, hlocks, hml, hK⟩ := C
  have lk7 := hts (.fieldLink RX9 7 "MercuryLineModel" "s" "[I") (by decide +kernel)
  have inX9 : ∀ w ∈ u_ws RX9 TX9 15, w ∈ wsX9_waitMany := by decide +kernel
  intro n
  induction n with
  | zero =>
    intro x_2 k_3 hb_3 hok hme
    exact absurd hme (by omega)
  | succ n ih =>
    intro x_2 k_3 hb_3 hok hme H locs ls hR hS hl
    unfold lok_X9_waitMany_4 at hok
    refine lv_iload_n hx hb dX9_waitMany_4 rfl (lv_at hl 3 rfl) ?_
    refine lv_aload_n hx hb dX9_waitMany_5 rfl (lv_at hl 0 rfl) ?_
    refine va_get (D := D) (ci := 9) (v := .ref (μ + 1)) (C := RX9) (T := TX9) (N := 15) hx hb hts inX9 hown hK.1 (MR.mk0 hR) 0 rfl rfl 0 (by decide) lk7 (fun _ h9 => h9) rfl dX9_waitMany_6 ?_
    refine lv_iconst (v := 1) hx hb dX9_waitMany_9 (by decide) ?_
    refine gm_iald hx hb hK.1 (MR.mk1 hR (c := 1) (by decide) bM_1) (vp_in_iff.mpr (by decide)) dX9_waitMany_10 ?_
    rw [show (1 : Int32).toNatClampNeg = 1 from by decide]
    refine lv_icmp_ge (tgt := 37) hx hb dX9_waitMany_11 (by decide) (fun c_1 => ?_) (fun c_1 => ?_)
    · try rw [if_pos c_1] at hok
      refine gm_q (Q2 := MQ below (gQi (K x_2 k_3) (fun _ => True) gNo) args s 0 0 gNo) (by simp only [lf_X9_waitMany_4, ↓if_pos c_1]) ?_
      exact hexit x_2 k_3 hb_3 hok _ _ _ hR hS (lv_sub hl [0, 1, 2, 3] rfl)
    · try rw [if_neg c_1] at hok
      have lt_2 : k_3 < 2147483647 := g_big (Nat.lt_of_le_of_lt hb_3 (by decide)) c_1
      refine lv_iload_n hx hb dX9_waitMany_14 rfl (lv_at hl 2 rfl) ?_
      refine lv_aload_n hx hb dX9_waitMany_15 rfl (lv_at hl 0 rfl) ?_
      refine lv_iload_n hx hb dX9_waitMany_16 rfl (lv_at hl 3 rfl) ?_
      refine lv_iload_n hx hb dX9_waitMany_17 rfl (lv_at hl 1 rfl) ?_
      obtain ⟨h_3, hok⟩ := hok
      refine gm_ci (gm_call (As := [.int (nI k_3), .int a1]) (rest := [.int x_2]) (ci := 9) (q := (RX9, TX9, 15)) ⟨hx, hb, hml, hown, hts⟩ hK (c_X9_isWaiting l D cy μ X (nI k_3) a1 h_3) (cwV 2 hts gX9_waitMany_X9_isWaiting rfl rfl rfl (by decide +kernel) ⟨Nat.le_of_ble_eq_true rfl, Nat.le_of_ble_eq_true rfl⟩) (MR.mk0 hR) rfl hR rfl hl.1 rfl (Nat.le_of_ble_eq_true rfl) dX9_waitMany_18 (Nat.zero_le _) (Nat.zero_le _)) hS (fun _ h => h.elim) (fun H locs _ _ hfr hS => ?_)
      have hR := gRep.keep hR hfr (fun _ _ h => h)
      refine lv_if_eq (tgt := 28) hx hb dX9_waitMany_21 (by decide) (fun c_4 => ?_) (fun c_4 => ?_)
      · try rw [if_pos c_4] at hok
        refine lv_iconst (v := 0) hx hb dX9_waitMany_28 (by decide) ?_
        refine lv_iadd hx hb dX9_waitMany_29 ?_
        refine lv_istore_n (lv' := [(2, .int (x_2 + 0)), (0, .ref μ), (1, .int a1), (3, .int (nI k_3))]) hx hb dX9_waitMany_30 rfl hl (by decide) rfl (fun ls hl => ?_)
        refine lv_iinc (v := nI (k_3 + 1)) (lv' := [(3, .int (nI (k_3 + 1))), (2, .int (x_2 + 0)), (0, .ref μ), (1, .int a1)]) hx hb dX9_waitMany_31 hl (k := 3) rfl (nI_1 _) (by decide) rfl (fun ls hl => ?_)
        refine lv_goto (tgt := 4) hx hb dX9_waitMany_34 (by decide) ?_
        refine gm_q (Q2 := MQ below (gQi (lf_X9_waitMany_4 X a1 K n (x_2 + 0) (k_3 + 1)) (fun _ => True) gNo) args s 0 0 gNo) (by simp only [lf_X9_waitMany_4, ↓if_neg c_1, ↓if_pos c_4]) ?_
        exact ih (x_2 + 0) (k_3 + 1) lt_2 hok (by omega) _ _ _ hR hS (lv_sub hl [2, 3, 1, 0] rfl)
      · try rw [if_neg c_4] at hok
        refine lv_iconst (v := 1) hx hb dX9_waitMany_24 (by decide) ?_
        refine lv_goto (tgt := 29) hx hb dX9_waitMany_25 (by decide) ?_
        refine lv_iadd hx hb dX9_waitMany_29 ?_
        refine lv_istore_n (lv' := [(2, .int (x_2 + 1)), (0, .ref μ), (1, .int a1), (3, .int (nI k_3))]) hx hb dX9_waitMany_30 rfl hl (by decide) rfl (fun ls hl => ?_)
        refine lv_iinc (v := nI (k_3 + 1)) (lv' := [(3, .int (nI (k_3 + 1))), (2, .int (x_2 + 1)), (0, .ref μ), (1, .int a1)]) hx hb dX9_waitMany_31 hl (k := 3) rfl (nI_1 _) (by decide) rfl (fun ls hl => ?_)
        refine lv_goto (tgt := 4) hx hb dX9_waitMany_34 (by decide) ?_
        refine gm_q (Q2 := MQ below (gQi (lf_X9_waitMany_4 X a1 K n (x_2 + 1) (k_3 + 1)) (fun _ => True) gNo) args s 0 0 gNo) (by simp only [lf_X9_waitMany_4, ↓if_neg c_1, ↓if_neg c_4]) ?_
        exact ih (x_2 + 1) (k_3 + 1) lt_2 hok (by omega) _ _ _ hR hS (lv_sub hl [2, 3, 1, 0] rfl)
set_option maxHeartbeats 4000000 in
set_option maxRecDepth 100000 in
theorem c_X9_waitMany (l : Launch) (D : va_G) (cy : Nat → ClassId) (μ : Nat) (X : gM) (a1 : Int32)  (hok : ok_X9_waitMany X a1) : Met l yX9_waitMany wsX9_waitMany ({ frames := 2, cells := 0, slots := 0, locals := 44 }) (gP [.ref μ, .int a1] D cy (MR D cy μ X)) (gQi (f_X9_waitMany X a1) (fun _ => True) gNo) 0 0 gNo := by
  refine gm_met (cc := cX9_waitMany) (maxL := 4) (ret := (some .int)) [.ref μ, .int a1] (by decide) rfl (Nat.le_of_ble_eq_true rfl) ?_
  intro p e s m args below meth c0 ls C hR hl
  obtain ⟨hx, hb, hr, hts, hown, hlocks, hml, hK⟩ := C
  have hl : lv_has ls 4 [(0, .ref μ), (1, .int a1)] := hl
  have hS : va_S gNo s.heap s.heap [] := va_S.rf
  unfold ok_X9_waitMany at hok
  refine lv_iconst (v := 0) hx hb dX9_waitMany_0 (by decide) ?_
  refine lv_istore_n (lv' := [(2, .int 0), (0, .ref μ), (1, .int a1)]) hx hb dX9_waitMany_1 rfl hl (by decide) rfl (fun ls hl => ?_)
  refine lv_iconst (v := 0) hx hb dX9_waitMany_2 (by decide) ?_
  refine lv_istore_n (lv' := [(3, .int 0), (2, .int 0), (0, .ref μ), (1, .int a1)]) hx hb dX9_waitMany_3 rfl hl (by decide) rfl (fun ls hl => ?_)
  refine gm_q (Q2 := MQ below (gQi (lf_X9_waitMany_4 X a1 (fun x_2w1 k_3w1 =>
        x_2w1) 2147483648 0 0) (fun _ => True) gNo) args s 0 0 gNo) (by simp only [f_X9_waitMany]) ?_
  refine lp_X9_waitMany_4 ⟨hx, hb, hr, hts, hown, hlocks, hml, hK⟩ μ X a1  _ _ (fun x_2w1 k_3w1 hbk_3w1 hok H locs ls hR hS hl => ?_) 2147483648 0 0 (by decide) hok (by omega) _ _ _ hR hS (lv_sub hl [2, 3, 1, 0] rfl)
  refine lv_iload_n hx hb dX9_waitMany_37 rfl (lv_at hl 2 rfl) ?_
  exact gm_iret hx hb hr hlocks hS (by (try simp only [f_X9_waitMany]); (try rfl)) trivial dX9_waitMany_38
def f_X9_station (X : gM) (a1 : Int32) (a2 : Int32) : Int32 :=
  if f_X9_isStation X a1 = 0 then
    (-1)
  else
    if a2 = 0 then
      X 1 (((f_X9_stationAt a1) + 0).toNatClampNeg)
    else
      if a2 = 1 then
        f_X9_slotAt X a1
      else
        if a2 = 2 then
          f_X9_waitMany X a1
        else
          if a2 = 3 then
            X 1 ((((f_X9_stationAt a1) + a2) - 2).toNatClampNeg)
          else
            if a2 = 4 then
              X 1 ((((f_X9_stationAt a1) + a2) - 2).toNatClampNeg)
            else
              if a2 = 5 then
                X 1 ((((f_X9_stationAt a1) + a2) - 2).toNatClampNeg)
              else
                if a2 = 6 then
                  X 1 ((((f_X9_stationAt a1) + a2) - 2).toNatClampNeg)
                else
                  if a2 = 7 then
                    X 1 ((((f_X9_stationAt a1) + a2) - 2).toNatClampNeg)
                  else
                    if a2 = 8 then
                      f_X9_nextAt X a1
                    else
                      (-2)
def ok_X9_station (X : gM) (a1 : Int32) (a2 : Int32) : Prop :=
  (ok_X9_isStation X a1) ∧
  (if f_X9_isStation X a1 = 0 then
    True
  else
    (if a2 = 0 then
      (vp_in ((f_X9_stationAt a1) + 0) 974) ∧
      True
    else
      (if a2 = 1 then
        (ok_X9_slotAt X a1) ∧
        True
      else
        (if a2 = 2 then
          (ok_X9_waitMany X a1) ∧
          True
        else
          (if a2 = 3 then
            (vp_in (((f_X9_stationAt a1) + a2) - 2) 974) ∧
            True
          else
            (if a2 = 4 then
              (vp_in (((f_X9_stationAt a1) + a2) - 2) 974) ∧
              True
            else
              (if a2 = 5 then
                (vp_in (((f_X9_stationAt a1) + a2) - 2) 974) ∧
                True
              else
                (if a2 = 6 then
                  (vp_in (((f_X9_stationAt a1) + a2) - 2) 974) ∧
                  True
                else
                  (if a2 = 7 then
                    (vp_in (((f_X9_stationAt a1) + a2) - 2) 974) ∧
                    True
                  else
                    (if a2 = 8 then
                      (ok_X9_nextAt X a1) ∧
                      True
                    else
                      True))))))))))
set_option maxHeartbeats 4000000 in
set_option maxRecDepth 100000 in
theorem c_X9_station (l : Launch) (D : va_G) (cy : Nat → ClassId) (μ : Nat) (X : gM) (a1 : Int32) (a2 : Int32)  (hok : ok_X9_station X a1 a2) : Met l yX9_station wsX9_station ({ frames := 4, cells := 0, slots := 0, locals := 89 }) (gP [.ref μ, .int a1, .int a2] D cy (MR D cy μ X)) (gQi (f_X9_station X a1 a2) (fun _ => True) gNo) 0 0 gNo := by
  refine gm_met (cc := cX9_station) (maxL := 3) (ret := (some .int)) [.ref μ, .int a1, .int a2] (by decide) rfl (Nat.le_of_ble_eq_true rfl) ?_
  intro p e s m args below meth c0 ls C hR hl
  obtain ⟨hx, hb, hr, hts, hown, hlocks, hml, hK⟩ := C
  have hl : lv_has ls 3 [(0, .ref μ), (1, .int a1), (2, .int a2)] := hl
  have hS : va_S gNo s.heap s.heap [] := va_S.rf
  have lk7 := hts (.fieldLink RX9 7 "MercuryLineModel" "s" "[I") (by decide +kernel)
  have inX9 : ∀ w ∈ u_ws RX9 TX9 15, w ∈ wsX9_station := by decide +kernel
  unfold ok_X9_station at hok
  refine lv_aload_n hx hb dX9_station_0 rfl (lv_at hl 0 rfl) ?_
  refine lv_iload_n hx hb dX9_station_1 rfl (lv_at hl 1 rfl) ?_
  obtain ⟨h_1, hok⟩ := hok
  refine gm_ci (gm_call (As := [.int a1]) (rest := []) (ci := 9) (q := (RX9, TX9, 15)) ⟨hx, hb, hml, hown, hts⟩ hK (c_X9_isStation l D cy μ X a1 h_1) (cwV 1 hts gX9_station_X9_isStation rfl rfl rfl (by decide +kernel) ⟨Nat.le_of_ble_eq_true rfl, Nat.le_of_ble_eq_true rfl⟩) (MR.mk0 hR) rfl hR rfl hl.1 rfl (Nat.le_of_ble_eq_true rfl) dX9_station_2 (Nat.zero_le _) (Nat.zero_le _)) hS (fun _ h => h.elim) (fun H locs _ _ hfr hS => ?_)
  have hR := gRep.keep hR hfr (fun _ _ h => h)
  refine lv_if_ne (tgt := 10) hx hb dX9_station_5 (by decide) (fun c_2 => ?_) (fun c_2 => ?_)
  · try rw [if_neg c_2] at hok
    refine lv_iload_n hx hb dX9_station_10 rfl (lv_at hl 2 rfl) ?_
    rcases Decidable.em (a2 = 0) with c_3 | c_3
    · try rw [if_pos c_3] at hok
      refine lv_tableIn (tgt := 60) hx hb dX9_station_11 (by rw [c_3]; decide) (by rw [c_3]; decide) (by rw [c_3]; rfl) (by decide) ?_
      refine lv_aload_n hx hb dX9_station_60 rfl (lv_at hl 0 rfl) ?_
      refine va_get (D := D) (ci := 9) (v := .ref (μ + 1)) (C := RX9) (T := TX9) (N := 15) hx hb hts inX9 hown hK.1 (MR.mk0 hR) 0 rfl rfl 0 (by decide) lk7 (fun _ h9 => h9) rfl dX9_station_61 ?_
      refine lv_iload_n hx hb dX9_station_64 rfl (lv_at hl 1 rfl) ?_
      refine gm_ci (gm_callS (As := [.int a1]) (rest := [.ref (μ + 1)]) ⟨hx, hb, hml, hown, hts⟩ hK (c_X9_stationAt l D cy a1) (va_cwS 1 hts gX9_station_X9_stationAt rfl rfl rfl (by decide +kernel) ⟨Nat.le_of_ble_eq_true rfl, Nat.le_of_ble_eq_true rfl⟩) trivial rfl hl.1 rfl (Nat.le_of_ble_eq_true rfl) dX9_station_65 (Nat.zero_le _) (Nat.zero_le _)) hS (fun _ h => h.elim) (fun H locs _ _ hfr hS => ?_)
      have hR := gRep.keep hR hfr (fun _ _ h => h)
      refine lv_iconst (v := 0) hx hb dX9_station_68 (by decide) ?_
      refine lv_iadd hx hb dX9_station_69 ?_
      obtain ⟨h_4, hok⟩ := hok
      refine gm_iald hx hb hK.1 (MR.mk1 hR (c := 1) (by decide) bM_1) h_4 dX9_station_70 ?_
      exact gm_iret hx hb hr hlocks hS (by (try simp only [f_X9_station, ↓if_neg c_2, ↓if_pos c_3]); (try rfl)) trivial dX9_station_71
    · skip
      try rw [if_neg c_3] at hok
      rcases Decidable.em (a2 = 1) with c_5 | c_5
      · try rw [if_pos c_5] at hok
        refine lv_tableIn (tgt := 72) hx hb dX9_station_11 (by rw [c_5]; decide) (by rw [c_5]; decide) (by rw [c_5]; rfl) (by decide) ?_
        refine lv_aload_n hx hb dX9_station_72 rfl (lv_at hl 0 rfl) ?_
        refine lv_iload_n hx hb dX9_station_73 rfl (lv_at hl 1 rfl) ?_
        obtain ⟨h_6, hok⟩ := hok
        refine gm_ci (gm_call (As := [.int a1]) (rest := []) (ci := 9) (q := (RX9, TX9, 15)) ⟨hx, hb, hml, hown, hts⟩ hK (c_X9_slotAt l D cy μ X a1 h_6) (cwV 1 hts gX9_station_X9_slotAt rfl rfl rfl (by decide +kernel) ⟨Nat.le_of_ble_eq_true rfl, Nat.le_of_ble_eq_true rfl⟩) (MR.mk0 hR) rfl hR rfl hl.1 rfl (Nat.le_of_ble_eq_true rfl) dX9_station_74 (Nat.zero_le _) (Nat.zero_le _)) hS (fun _ h => h.elim) (fun H locs _ _ hfr hS => ?_)
        have hR := gRep.keep hR hfr (fun _ _ h => h)
        exact gm_iret hx hb hr hlocks hS (by (try simp only [f_X9_station, ↓if_neg c_2, ↓if_neg c_3, ↓if_pos c_5]); (try rfl)) trivial dX9_station_77
      · skip
        try rw [if_neg c_5] at hok
        rcases Decidable.em (a2 = 2) with c_7 | c_7
        · try rw [if_pos c_7] at hok
          refine lv_tableIn (tgt := 78) hx hb dX9_station_11 (by rw [c_7]; decide) (by rw [c_7]; decide) (by rw [c_7]; rfl) (by decide) ?_
          refine lv_aload_n hx hb dX9_station_78 rfl (lv_at hl 0 rfl) ?_
          refine lv_iload_n hx hb dX9_station_79 rfl (lv_at hl 1 rfl) ?_
          obtain ⟨h_8, hok⟩ := hok
          refine gm_ci (gm_call (As := [.int a1]) (rest := []) (ci := 9) (q := (RX9, TX9, 15)) ⟨hx, hb, hml, hown, hts⟩ hK (c_X9_waitMany l D cy μ X a1 h_8) (cwV 1 hts gX9_station_X9_waitMany rfl rfl rfl (by decide +kernel) ⟨Nat.le_of_ble_eq_true rfl, Nat.le_of_ble_eq_true rfl⟩) (MR.mk0 hR) rfl hR rfl hl.1 rfl (Nat.le_of_ble_eq_true rfl) dX9_station_80 (Nat.zero_le _) (Nat.zero_le _)) hS (fun _ h => h.elim) (fun H locs _ _ hfr hS => ?_)
          have hR := gRep.keep hR hfr (fun _ _ h => h)
          exact gm_iret hx hb hr hlocks hS (by (try simp only [f_X9_station, ↓if_neg c_2, ↓if_neg c_3, ↓if_neg c_5, ↓if_pos c_7]); (try rfl)) trivial dX9_station_83
        · skip
          try rw [if_neg c_7] at hok
          rcases Decidable.em (a2 = 3) with c_9 | c_9
          · try rw [if_pos c_9] at hok
            refine lv_tableIn (tgt := 84) hx hb dX9_station_11 (by rw [c_9]; decide) (by rw [c_9]; decide) (by rw [c_9]; rfl) (by decide) ?_
            refine lv_aload_n hx hb dX9_station_84 rfl (lv_at hl 0 rfl) ?_
            refine va_get (D := D) (ci := 9) (v := .ref (μ + 1)) (C := RX9) (T := TX9) (N := 15) hx hb hts inX9 hown hK.1 (MR.mk0 hR) 0 rfl rfl 0 (by decide) lk7 (fun _ h9 => h9) rfl dX9_station_85 ?_
            refine lv_iload_n hx hb dX9_station_88 rfl (lv_at hl 1 rfl) ?_
            refine gm_ci (gm_callS (As := [.int a1]) (rest := [.ref (μ + 1)]) ⟨hx, hb, hml, hown, hts⟩ hK (c_X9_stationAt l D cy a1) (va_cwS 1 hts gX9_station_X9_stationAt rfl rfl rfl (by decide +kernel) ⟨Nat.le_of_ble_eq_true rfl, Nat.le_of_ble_eq_true rfl⟩) trivial rfl hl.1 rfl (Nat.le_of_ble_eq_true rfl) dX9_station_89 (Nat.zero_le _) (Nat.zero_le _)) hS (fun _ h => h.elim) (fun H locs _ _ hfr hS => ?_)
            have hR := gRep.keep hR hfr (fun _ _ h => h)
            refine lv_iload_n hx hb dX9_station_92 rfl (lv_at hl 2 rfl) ?_
            refine lv_iadd hx hb dX9_station_93 ?_
            refine lv_iconst (v := 2) hx hb dX9_station_94 (by decide) ?_
            refine lv_isub hx hb dX9_station_95 ?_
            obtain ⟨h_10, hok⟩ := hok
            refine gm_iald hx hb hK.1 (MR.mk1 hR (c := 1) (by decide) bM_1) h_10 dX9_station_96 ?_
            exact gm_iret hx hb hr hlocks hS (by (try simp only [f_X9_station, ↓if_neg c_2, ↓if_neg c_3, ↓if_neg c_5, ↓if_neg c_7, ↓if_pos c_9]); (try rfl)) trivial dX9_station_97
          · skip
            try rw [if_neg c_9] at hok
            rcases Decidable.em (a2 = 4) with c_11 | c_11
            · try rw [if_pos c_11] at hok
              refine lv_tableIn (tgt := 84) hx hb dX9_station_11 (by rw [c_11]; decide) (by rw [c_11]; decide) (by rw [c_11]; rfl) (by decide) ?_
              refine lv_aload_n hx hb dX9_station_84 rfl (lv_at hl 0 rfl) ?_
              refine va_get (D := D) (ci := 9) (v := .ref (μ + 1)) (C := RX9) (T := TX9) (N := 15) hx hb hts inX9 hown hK.1 (MR.mk0 hR) 0 rfl rfl 0 (by decide) lk7 (fun _ h9 => h9) rfl dX9_station_85 ?_
              refine lv_iload_n hx hb dX9_station_88 rfl (lv_at hl 1 rfl) ?_
              refine gm_ci (gm_callS (As := [.int a1]) (rest := [.ref (μ + 1)]) ⟨hx, hb, hml, hown, hts⟩ hK (c_X9_stationAt l D cy a1) (va_cwS 1 hts gX9_station_X9_stationAt rfl rfl rfl (by decide +kernel) ⟨Nat.le_of_ble_eq_true rfl, Nat.le_of_ble_eq_true rfl⟩) trivial rfl hl.1 rfl (Nat.le_of_ble_eq_true rfl) dX9_station_89 (Nat.zero_le _) (Nat.zero_le _)) hS (fun _ h => h.elim) (fun H locs _ _ hfr hS => ?_)
              have hR := gRep.keep hR hfr (fun _ _ h => h)
              refine lv_iload_n hx hb dX9_station_92 rfl (lv_at hl 2 rfl) ?_
              refine lv_iadd hx hb dX9_station_93 ?_
              refine lv_iconst (v := 2) hx hb dX9_station_94 (by decide) ?_
              refine lv_isub hx hb dX9_station_95 ?_
              obtain ⟨h_12, hok⟩ := hok
              refine gm_iald hx hb hK.1 (MR.mk1 hR (c := 1) (by decide) bM_1) h_12 dX9_station_96 ?_
              exact gm_iret hx hb hr hlocks hS (by (try simp only [f_X9_station, ↓if_neg c_2, ↓if_neg c_3, ↓if_neg c_5, ↓if_neg c_7, ↓if_neg c_9, ↓if_pos c_11]); (try rfl)) trivial dX9_station_97
            · skip
              try rw [if_neg c_11] at hok
              rcases Decidable.em (a2 = 5) with c_13 | c_13
              · try rw [if_pos c_13] at hok
                refine lv_tableIn (tgt := 84) hx hb dX9_station_11 (by rw [c_13]; decide) (by rw [c_13]; decide) (by rw [c_13]; rfl) (by decide) ?_
                refine lv_aload_n hx hb dX9_station_84 rfl (lv_at hl 0 rfl) ?_
                refine va_get (D := D) (ci := 9) (v := .ref (μ + 1)) (C := RX9) (T := TX9) (N := 15) hx hb hts inX9 hown hK.1 (MR.mk0 hR) 0 rfl rfl 0 (by decide) lk7 (fun _ h9 => h9) rfl dX9_station_85 ?_
                refine lv_iload_n hx hb dX9_station_88 rfl (lv_at hl 1 rfl) ?_
                refine gm_ci (gm_callS (As := [.int a1]) (rest := [.ref (μ + 1)]) ⟨hx, hb, hml, hown, hts⟩ hK (c_X9_stationAt l D cy a1) (va_cwS 1 hts gX9_station_X9_stationAt rfl rfl rfl (by decide +kernel) ⟨Nat.le_of_ble_eq_true rfl, Nat.le_of_ble_eq_true rfl⟩) trivial rfl hl.1 rfl (Nat.le_of_ble_eq_true rfl) dX9_station_89 (Nat.zero_le _) (Nat.zero_le _)) hS (fun _ h => h.elim) (fun H locs _ _ hfr hS => ?_)
                have hR := gRep.keep hR hfr (fun _ _ h => h)
                refine lv_iload_n hx hb dX9_station_92 rfl (lv_at hl 2 rfl) ?_
                refine lv_iadd hx hb dX9_station_93 ?_
                refine lv_iconst (v := 2) hx hb dX9_station_94 (by decide) ?_
                refine lv_isub hx hb dX9_station_95 ?_
                obtain ⟨h_14, hok⟩ := hok
                refine gm_iald hx hb hK.1 (MR.mk1 hR (c := 1) (by decide) bM_1) h_14 dX9_station_96 ?_
                exact gm_iret hx hb hr hlocks hS (by (try simp only [f_X9_station, ↓if_neg c_2, ↓if_neg c_3, ↓if_neg c_5, ↓if_neg c_7, ↓if_neg c_9, ↓if_neg c_11, ↓if_pos c_13]); (try rfl)) trivial dX9_station_97
              · skip
                try rw [if_neg c_13] at hok
                rcases Decidable.em (a2 = 6) with c_15 | c_15
                · try rw [if_pos c_15] at hok
                  refine lv_tableIn (tgt := 84) hx hb dX9_station_11 (by rw [c_15]; decide) (by rw [c_15]; decide) (by rw [c_15]; rfl) (by decide) ?_
                  refine lv_aload_n hx hb dX9_station_84 rfl (lv_at hl 0 rfl) ?_
                  refine va_get (D := D) (ci := 9) (v := .ref (μ + 1)) (C := RX9) (T := TX9) (N := 15) hx hb hts inX9 hown hK.1 (MR.mk0 hR) 0 rfl rfl 0 (by decide) lk7 (fun _ h9 => h9) rfl dX9_station_85 ?_
                  refine lv_iload_n hx hb dX9_station_88 rfl (lv_at hl 1 rfl) ?_
                  refine gm_ci (gm_callS (As := [.int a1]) (rest := [.ref (μ + 1)]) ⟨hx, hb, hml, hown, hts⟩ hK (c_X9_stationAt l D cy a1) (va_cwS 1 hts gX9_station_X9_stationAt rfl rfl rfl (by decide +kernel) ⟨Nat.le_of_ble_eq_true rfl, Nat.le_of_ble_eq_true rfl⟩) trivial rfl hl.1 rfl (Nat.le_of_ble_eq_true rfl) dX9_station_89 (Nat.zero_le _) (Nat.zero_le _)) hS (fun _ h => h.elim) (fun H locs _ _ hfr hS => ?_)
                  have hR := gRep.keep hR hfr (fun _ _ h => h)
                  refine lv_iload_n hx hb dX9_station_92 rfl (lv_at hl 2 rfl) ?_
                  refine lv_iadd hx hb dX9_station_93 ?_
                  refine lv_iconst (v := 2) hx hb dX9_station_94 (by decide) ?_
                  refine lv_isub hx hb dX9_station_95 ?_
                  obtain ⟨h_16, hok⟩ := hok
                  refine gm_iald hx hb hK.1 (MR.mk1 hR (c := 1) (by decide) bM_1) h_16 dX9_station_96 ?_
                  exact gm_iret hx hb hr hlocks hS (by (try simp only [f_X9_station, ↓if_neg c_2, ↓if_neg c_3, ↓if_neg c_5, ↓if_neg c_7, ↓if_neg c_9, ↓if_neg c_11, ↓if_neg c_13, ↓if_pos c_15]); (try rfl)) trivial dX9_station_97
                · skip
                  try rw [if_neg c_15] at hok
                  rcases Decidable.em (a2 = 7) with c_17 | c_17
                  · try rw [if_pos c_17] at hok
                    refine lv_tableIn (tgt := 84) hx hb dX9_station_11 (by rw [c_17]; decide) (by rw [c_17]; decide) (by rw [c_17]; rfl) (by decide) ?_
                    refine lv_aload_n hx hb dX9_station_84 rfl (lv_at hl 0 rfl) ?_
                    refine va_get (D := D) (ci := 9) (v := .ref (μ + 1)) (C := RX9) (T := TX9) (N := 15) hx hb hts inX9 hown hK.1 (MR.mk0 hR) 0 rfl rfl 0 (by decide) lk7 (fun _ h9 => h9) rfl dX9_station_85 ?_
                    refine lv_iload_n hx hb dX9_station_88 rfl (lv_at hl 1 rfl) ?_
                    refine gm_ci (gm_callS (As := [.int a1]) (rest := [.ref (μ + 1)]) ⟨hx, hb, hml, hown, hts⟩ hK (c_X9_stationAt l D cy a1) (va_cwS 1 hts gX9_station_X9_stationAt rfl rfl rfl (by decide +kernel) ⟨Nat.le_of_ble_eq_true rfl, Nat.le_of_ble_eq_true rfl⟩) trivial rfl hl.1 rfl (Nat.le_of_ble_eq_true rfl) dX9_station_89 (Nat.zero_le _) (Nat.zero_le _)) hS (fun _ h => h.elim) (fun H locs _ _ hfr hS => ?_)
                    have hR := gRep.keep hR hfr (fun _ _ h => h)
                    refine lv_iload_n hx hb dX9_station_92 rfl (lv_at hl 2 rfl) ?_
                    refine lv_iadd hx hb dX9_station_93 ?_
                    refine lv_iconst (v := 2) hx hb dX9_station_94 (by decide) ?_
                    refine lv_isub hx hb dX9_station_95 ?_
                    obtain ⟨h_18, hok⟩ := hok
                    refine gm_iald hx hb hK.1 (MR.mk1 hR (c := 1) (by decide) bM_1) h_18 dX9_station_96 ?_
                    exact gm_iret hx hb hr hlocks hS (by (try simp only [f_X9_station, ↓if_neg c_2, ↓if_neg c_3, ↓if_neg c_5, ↓if_neg c_7, ↓if_neg c_9, ↓if_neg c_11, ↓if_neg c_13, ↓if_neg c_15, ↓if_pos c_17]); (try rfl)) trivial dX9_station_97
                  · skip
                    try rw [if_neg c_17] at hok
                    rcases Decidable.em (a2 = 8) with c_19 | c_19
                    · try rw [if_pos c_19] at hok
                      refine lv_tableIn (tgt := 98) hx hb dX9_station_11 (by rw [c_19]; decide) (by rw [c_19]; decide) (by rw [c_19]; rfl) (by decide) ?_
                      refine lv_aload_n hx hb dX9_station_98 rfl (lv_at hl 0 rfl) ?_
                      refine lv_iload_n hx hb dX9_station_99 rfl (lv_at hl 1 rfl) ?_
                      obtain ⟨h_20, hok⟩ := hok
                      refine gm_ci (gm_call (As := [.int a1]) (rest := []) (ci := 9) (q := (RX9, TX9, 15)) ⟨hx, hb, hml, hown, hts⟩ hK (c_X9_nextAt l D cy μ X a1 h_20) (cwV 1 hts gX9_station_X9_nextAt rfl rfl rfl (by decide +kernel) ⟨Nat.le_of_ble_eq_true rfl, Nat.le_of_ble_eq_true rfl⟩) (MR.mk0 hR) rfl hR rfl hl.1 rfl (Nat.le_of_ble_eq_true rfl) dX9_station_100 (Nat.zero_le _) (Nat.zero_le _)) hS (fun _ h => h.elim) (fun H locs _ _ hfr hS => ?_)
                      have hR := gRep.keep hR hfr (fun _ _ h => h)
                      exact gm_iret hx hb hr hlocks hS (by (try simp only [f_X9_station, ↓if_neg c_2, ↓if_neg c_3, ↓if_neg c_5, ↓if_neg c_7, ↓if_neg c_9, ↓if_neg c_11, ↓if_neg c_13, ↓if_neg c_15, ↓if_neg c_17, ↓if_pos c_19]); (try rfl)) trivial dX9_station_103
                    · skip
                      try rw [if_neg c_19] at hok
                      refine lv_tableOut (tgt := 104) hx hb dX9_station_11 (g_sw0_8 c_3 c_5 c_7 c_9 c_11 c_13 c_15 c_17 c_19) (by decide) ?_
                      refine lv_bipush (v := (-2)) hx hb dX9_station_104 (by decide) ?_
                      exact gm_iret hx hb hr hlocks hS (by (try simp only [f_X9_station, ↓if_neg c_2, ↓if_neg c_3, ↓if_neg c_5, ↓if_neg c_7, ↓if_neg c_9, ↓if_neg c_11, ↓if_neg c_13, ↓if_neg c_15, ↓if_neg c_17, ↓if_neg c_19]); (try rfl)) trivial dX9_station_106
  · try rw [if_pos c_2] at hok
    refine lv_iconst (v := (-1)) hx hb dX9_station_8 (by decide) ?_
    exact gm_iret hx hb hr hlocks hS (by (try simp only [f_X9_station, ↓if_pos c_2]); (try rfl)) trivial dX9_station_9
def lf_X9_waiting_19 (X : gM) (a1 : Int32) (a2 : Int32) (K : (Nat) → (Int32)) : Nat → (Nat) → (Int32)
  | 0, k_3 => K k_3
  | n + 1, k_3 =>
    if X 1 1 ≤ nI k_3 then
      K k_3
    else
      if f_X9_isWaiting X (nI k_3) a1 = 0 then
        lf_X9_waiting_19 X a1 a2 K n (k_3 + 1)
      else
        if f_X9_ahead X (nI k_3) a1 = a2 then
          nI k_3
        else
          lf_X9_waiting_19 X a1 a2 K n (k_3 + 1)
def lok_X9_waiting_19 (X : gM) (a1 : Int32) (a2 : Int32) (KO : (Nat) → Prop) : Nat → (Nat) → Prop
  | 0, k_3 => True
  | n + 1, k_3 =>
    (if X 1 1 ≤ nI k_3 then
      KO k_3
    else
      (ok_X9_isWaiting X (nI k_3) a1) ∧
      (if f_X9_isWaiting X (nI k_3) a1 = 0 then
        lok_X9_waiting_19 X a1 a2 KO n (k_3 + 1)
      else
        (ok_X9_ahead X (nI k_3) a1) ∧
        (if f_X9_ahead X (nI k_3) a1 = a2 then
          True
        else
          lok_X9_waiting_19 X a1 a2 KO n (k_3 + 1))))
def f_X9_waiting (X : gM) (a1 : Int32) (a2 : Int32) : Int32 :=
  if f_X9_isStation X a1 = 0 then
    (-1)
  else
    if 0 ≤ a2 then
      lf_X9_waiting_19 X a1 a2 (fun k_3w4 =>
            (-5)) 2147483648 0
    else
      (-2)
def ok_X9_waiting (X : gM) (a1 : Int32) (a2 : Int32) : Prop :=
  (ok_X9_isStation X a1) ∧
  (if f_X9_isStation X a1 = 0 then
    True
  else
    (if 0 ≤ a2 then
      lok_X9_waiting_19 X a1 a2 (fun k_3w4 =>
            True) 2147483648 0
    else
      True))
set_option maxHeartbeats 4000000 in
set_option maxRecDepth 100000 in
theorem lp_X9_waiting_19 {p : Program} {l : Launch} {e : Env} {s : State} {m : MethodId} {args : Array Value} {below : List Frame} {meth : Method} {c0 : Code} {D : va_G} {cy : Nat → ClassId} (C : gCtx cX9_waiting 4 (some .int) RX9 wsX9_waiting D cy p s m args meth c0) (μ : Nat) (X : gM) (a1 : Int32) (a2 : Int32) 
    (KO : (Nat) → Prop) (K : (Nat) → (Int32)) (hexit : ∀ (k_3 : Nat), k_3 ≤ 2147483647 → KO k_3 → ∀ (H : Heap) (locs : List Loc) (ls : Array Slot), MR D cy μ X H → va_S gNo s.heap H locs → lv_has ls 4 [(0, .ref μ), (1, .int a1), (2, .int a2), (3, .int (nI k_3))] → W p l e { frames := 3, cells := 0, slots := 0, locals := 69 } s m args below meth c0 H locs 0 0 (MQ below (gQi (K k_3) (fun _ => True) gNo) args s 0 0 gNo) (F0 m 56 ls [])) :
    ∀ (n : Nat) (k_3 : Nat), k_3 ≤ 2147483647 → lok_X9_waiting_19 X a1 a2 KO n k_3 → 2147483647 < k_3 + n → ∀ (H : Heap) (locs : List Loc) (ls : Array Slot), MR D cy μ X H → va_S gNo s.heap H locs → lv_has ls 4 [(0, .ref μ), (1, .int a1), (2, .int a2), (3, .int (nI k_3))] → W p l e { frames := 3, cells := 0, slots := 0, locals := 69 } s m args below meth c0 H locs 0 0 (MQ below (gQi (lf_X9_waiting_19 X a1 a2 K n k_3) (fun _ => True) gNo) args s 0 0 gNo) (F0 m 19 ls []) := by
  obtain ⟨hx, hb, hr, hts, hown, hlocks, hml, hK⟩ := C
  have lk7 := hts (.fieldLink RX9 7 "MercuryLineModel" "s" "[I") (by decide +kernel)
  have inX9 : ∀ w ∈ u_ws RX9 TX9 15, w ∈ wsX9_waiting := by decide +kernel
  intro n
  induction n with
  | zero =>
    intro k_3 hb_3 hok hme
    exact absurd hme (by omega)
  | succ n ih =>
    intro k_3 hb_3 hok hme H locs ls hR hS hl
    unfold lok_X9_waiting_19 at hok
    refine lv_iload_n hx hb dX9_waiting_19 rfl (lv_at hl 3 rfl) ?_
    refine lv_aload_n hx hb dX9_waiting_20 rfl (lv_at hl 0 rfl) ?_
    refine va_get (D := D) (ci := 9) (v := .ref (μ + 1)) (C := RX9) (T := TX9) (N := 15) hx hb hts inX9 hown hK.1 (MR.mk0 hR) 0 rfl rfl 0 (by decide) lk7 (fun _ h9 => h9) rfl dX9_waiting_21 ?_
    refine lv_iconst (v := 1) hx hb dX9_waiting_24 (by decide) ?_
    refine gm_iald hx hb hK.1 (MR.mk1 hR (c := 1) (by decide) bM_1) (vp_in_iff.mpr (by decide)) dX9_waiting_25 ?_
    rw [show (1 : Int32).toNatClampNeg = 1 from by decide]
    refine lv_icmp_ge (tgt := 56) hx hb dX9_waiting_26 (by decide) (fun c_1 => ?_) (fun c_1 => ?_)
    · try rw [if_pos c_1] at hok
      refine gm_q (Q2 := MQ below (gQi (K k_3) (fun _ => True) gNo) args s 0 0 gNo) (by simp only [lf_X9_waiting_19, ↓if_pos c_1]) ?_
      exact hexit k_3 hb_3 hok _ _ _ hR hS (lv_sub hl [0, 1, 2, 3] rfl)
    · try rw [if_neg c_1] at hok
      have lt_2 : k_3 < 2147483647 := g_big (Nat.lt_of_le_of_lt hb_3 (by decide)) c_1
      refine lv_aload_n hx hb dX9_waiting_29 rfl (lv_at hl 0 rfl) ?_
      refine lv_iload_n hx hb dX9_waiting_30 rfl (lv_at hl 3 rfl) ?_
      refine lv_iload_n hx hb dX9_waiting_31 rfl (lv_at hl 1 rfl) ?_
      obtain ⟨h_3, hok⟩ := hok
      refine gm_ci (gm_call (As := [.int (nI k_3), .int a1]) (rest := []) (ci := 9) (q := (RX9, TX9, 15)) ⟨hx, hb, hml, hown, hts⟩ hK (c_X9_isWaiting l D cy μ X (nI k_3) a1 h_3) (cwV 2 hts gX9_waiting_X9_isWaiting rfl rfl rfl (by decide +kernel) ⟨Nat.le_of_ble_eq_true rfl, Nat.le_of_ble_eq_true rfl⟩) (MR.mk0 hR) rfl hR rfl hl.1 rfl (Nat.le_of_ble_eq_true rfl) dX9_waiting_32 (Nat.zero_le _) (Nat.zero_le _)) hS (fun _ h => h.elim) (fun H locs _ _ hfr hS => ?_)
      have hR := gRep.keep hR hfr (fun _ _ h => h)
      refine lv_if_eq (tgt := 50) hx hb dX9_waiting_35 (by decide) (fun c_4 => ?_) (fun c_4 => ?_)
      · try rw [if_pos c_4] at hok
        refine lv_iinc (v := nI (k_3 + 1)) (lv' := [(3, .int (nI (k_3 + 1))), (0, .ref μ), (1, .int a1), (2, .int a2)]) hx hb dX9_waiting_50 hl (k := 3) rfl (nI_1 _) (by decide) rfl (fun ls hl => ?_)
        refine lv_goto (tgt := 19) hx hb dX9_waiting_53 (by decide) ?_
        refine gm_q (Q2 := MQ below (gQi (lf_X9_waiting_19 X a1 a2 K n (k_3 + 1)) (fun _ => True) gNo) args s 0 0 gNo) (by simp only [lf_X9_waiting_19, ↓if_neg c_1, ↓if_pos c_4]) ?_
        exact ih (k_3 + 1) lt_2 hok (by omega) _ _ _ hR hS (lv_sub hl [1, 2, 3, 0] rfl)
      · try rw [if_neg c_4] at hok
        refine lv_aload_n hx hb dX9_waiting_38 rfl (lv_at hl 0 rfl) ?_
        refine lv_iload_n hx hb dX9_waiting_39 rfl (lv_at hl 3 rfl) ?_
        refine lv_iload_n hx hb dX9_waiting_40 rfl (lv_at hl 1 rfl) ?_
        obtain ⟨h_5, hok⟩ := hok
        refine gm_ci (gm_call (As := [.int (nI k_3), .int a1]) (rest := []) (ci := 9) (q := (RX9, TX9, 15)) ⟨hx, hb, hml, hown, hts⟩ hK (c_X9_ahead l D cy μ X (nI k_3) a1 h_5) (cwV 2 hts gX9_waiting_X9_ahead rfl rfl rfl (by decide +kernel) ⟨Nat.le_of_ble_eq_true rfl, Nat.le_of_ble_eq_true rfl⟩) (MR.mk0 hR) rfl hR rfl hl.1 rfl (Nat.le_of_ble_eq_true rfl) dX9_waiting_41 (Nat.zero_le _) (Nat.zero_le _)) hS (fun _ h => h.elim) (fun H locs _ _ hfr hS => ?_)
        have hR := gRep.keep hR hfr (fun _ _ h => h)
        refine lv_iload_n hx hb dX9_waiting_44 rfl (lv_at hl 2 rfl) ?_
        refine lv_icmp_ne (tgt := 50) hx hb dX9_waiting_45 (by decide) (fun c_6 => ?_) (fun c_6 => ?_)
        · try rw [if_neg c_6] at hok
          refine lv_iinc (v := nI (k_3 + 1)) (lv' := [(3, .int (nI (k_3 + 1))), (0, .ref μ), (1, .int a1), (2, .int a2)]) hx hb dX9_waiting_50 hl (k := 3) rfl (nI_1 _) (by decide) rfl (fun ls hl => ?_)
          refine lv_goto (tgt := 19) hx hb dX9_waiting_53 (by decide) ?_
          refine gm_q (Q2 := MQ below (gQi (lf_X9_waiting_19 X a1 a2 K n (k_3 + 1)) (fun _ => True) gNo) args s 0 0 gNo) (by simp only [lf_X9_waiting_19, ↓if_neg c_1, ↓if_neg c_4, ↓if_neg c_6]) ?_
          exact ih (k_3 + 1) lt_2 hok (by omega) _ _ _ hR hS (lv_sub hl [1, 2, 3, 0] rfl)
        · try rw [if_pos c_6] at hok
          refine lv_iload_n hx hb dX9_waiting_48 rfl (lv_at hl 3 rfl) ?_
          exact gm_iret hx hb hr hlocks hS (by (try simp only [lf_X9_waiting_19, ↓if_neg c_1, ↓if_neg c_4, ↓if_pos c_6]); (try rfl)) trivial dX9_waiting_49
set_option maxHeartbeats 4000000 in
set_option maxRecDepth 100000 in
theorem c_X9_waiting (l : Launch) (D : va_G) (cy : Nat → ClassId) (μ : Nat) (X : gM) (a1 : Int32) (a2 : Int32)  (hok : ok_X9_waiting X a1 a2) : Met l yX9_waiting wsX9_waiting ({ frames := 3, cells := 0, slots := 0, locals := 69 }) (gP [.ref μ, .int a1, .int a2] D cy (MR D cy μ X)) (gQi (f_X9_waiting X a1 a2) (fun _ => True) gNo) 0 0 gNo := by
  refine gm_met (cc := cX9_waiting) (maxL := 4) (ret := (some .int)) [.ref μ, .int a1, .int a2] (by decide) rfl (Nat.le_of_ble_eq_true rfl) ?_
  intro p e s m args below meth c0 ls C hR hl
  obtain ⟨hx, hb, hr, hts, hown, hlocks, hml, hK⟩ := C
  have hl : lv_has ls 4 [(0, .ref μ), (1, .int a1), (2, .int a2)] := hl
  have hS : va_S gNo s.heap s.heap [] := va_S.rf
  unfold ok_X9_waiting at hok
  refine lv_aload_n hx hb dX9_waiting_0 rfl (lv_at hl 0 rfl) ?_
  refine lv_iload_n hx hb dX9_waiting_1 rfl (lv_at hl 1 rfl) ?_
  obtain ⟨h_1, hok⟩ := hok
  refine gm_ci (gm_call (As := [.int a1]) (rest := []) (ci := 9) (q := (RX9, TX9, 15)) ⟨hx, hb, hml, hown, hts⟩ hK (c_X9_isStation l D cy μ X a1 h_1) (cwV 1 hts gX9_waiting_X9_isStation rfl rfl rfl (by decide +kernel) ⟨Nat.le_of_ble_eq_true rfl, Nat.le_of_ble_eq_true rfl⟩) (MR.mk0 hR) rfl hR rfl hl.1 rfl (Nat.le_of_ble_eq_true rfl) dX9_waiting_2 (Nat.zero_le _) (Nat.zero_le _)) hS (fun _ h => h.elim) (fun H locs _ _ hfr hS => ?_)
  have hR := gRep.keep hR hfr (fun _ _ h => h)
  refine lv_if_ne (tgt := 10) hx hb dX9_waiting_5 (by decide) (fun c_2 => ?_) (fun c_2 => ?_)
  · try rw [if_neg c_2] at hok
    refine lv_iload_n hx hb dX9_waiting_10 rfl (lv_at hl 2 rfl) ?_
    refine lv_if_ge (tgt := 17) hx hb dX9_waiting_11 (by decide) (fun c_3 => ?_) (fun c_3 => ?_)
    · try rw [if_pos c_3] at hok
      refine lv_iconst (v := 0) hx hb dX9_waiting_17 (by decide) ?_
      refine lv_istore_n (lv' := [(3, .int 0), (0, .ref μ), (1, .int a1), (2, .int a2)]) hx hb dX9_waiting_18 rfl hl (by decide) rfl (fun ls hl => ?_)
      refine gm_q (Q2 := MQ below (gQi (lf_X9_waiting_19 X a1 a2 (fun k_3w4 =>
            (-5)) 2147483648 0) (fun _ => True) gNo) args s 0 0 gNo) (by simp only [f_X9_waiting, ↓if_neg c_2, ↓if_pos c_3]) ?_
      refine lp_X9_waiting_19 ⟨hx, hb, hr, hts, hown, hlocks, hml, hK⟩ μ X a1 a2  _ _ (fun k_3w4 hbk_3w4 hok H locs ls hR hS hl => ?_) 2147483648 0 (by decide) hok (by omega) _ _ _ hR hS (lv_sub hl [1, 2, 3, 0] rfl)
      refine lv_bipush (v := (-5)) hx hb dX9_waiting_56 (by decide) ?_
      exact gm_iret hx hb hr hlocks hS (by (try simp only [f_X9_waiting, ↓if_neg c_2, ↓if_pos c_3]); (try rfl)) trivial dX9_waiting_58
    · try rw [if_neg c_3] at hok
      refine lv_bipush (v := (-2)) hx hb dX9_waiting_14 (by decide) ?_
      exact gm_iret hx hb hr hlocks hS (by (try simp only [f_X9_waiting, ↓if_neg c_2, ↓if_neg c_3]); (try rfl)) trivial dX9_waiting_16
  · try rw [if_pos c_2] at hok
    refine lv_iconst (v := (-1)) hx hb dX9_waiting_8 (by decide) ?_
    exact gm_iret hx hb hr hlocks hS (by (try simp only [f_X9_waiting, ↓if_pos c_2]); (try rfl)) trivial dX9_waiting_9
def f_X9_calls (X : gM) (a1 : Int32) (a2 : Int32) : Int32 :=
  if f_X9_isStation X a1 = 0 then
    (-1)
  else
    if 0 ≤ a2 then
      if X 1 (((f_X9_stationAt a1) + 5).toNatClampNeg) ≤ a2 then
        (-5)
      else
        X 1 ((((f_X9_stationAt a1) + 6) + a2).toNatClampNeg)
    else
      (-2)
def ok_X9_calls (X : gM) (a1 : Int32) (a2 : Int32) : Prop :=
  (ok_X9_isStation X a1) ∧
  (if f_X9_isStation X a1 = 0 then
    True
  else
    (if 0 ≤ a2 then
      (vp_in ((f_X9_stationAt a1) + 5) 974) ∧
      (if X 1 (((f_X9_stationAt a1) + 5).toNatClampNeg) ≤ a2 then
        True
      else
        (vp_in (((f_X9_stationAt a1) + 6) + a2) 974) ∧
        True)
    else
      True))
set_option maxHeartbeats 4000000 in
set_option maxRecDepth 100000 in
theorem c_X9_calls (l : Launch) (D : va_G) (cy : Nat → ClassId) (μ : Nat) (X : gM) (a1 : Int32) (a2 : Int32)  (hok : ok_X9_calls X a1 a2) : Met l yX9_calls wsX9_calls ({ frames := 2, cells := 0, slots := 0, locals := 43 }) (gP [.ref μ, .int a1, .int a2] D cy (MR D cy μ X)) (gQi (f_X9_calls X a1 a2) (fun _ => True) gNo) 0 0 gNo := by
  refine gm_met (cc := cX9_calls) (maxL := 4) (ret := (some .int)) [.ref μ, .int a1, .int a2] (by decide) rfl (Nat.le_of_ble_eq_true rfl) ?_
  intro p e s m args below meth c0 ls C hR hl
  obtain ⟨hx, hb, hr, hts, hown, hlocks, hml, hK⟩ := C
  have hl : lv_has ls 4 [(0, .ref μ), (1, .int a1), (2, .int a2)] := hl
  have hS : va_S gNo s.heap s.heap [] := va_S.rf
  have lk7 := hts (.fieldLink RX9 7 "MercuryLineModel" "s" "[I") (by decide +kernel)
  have inX9 : ∀ w ∈ u_ws RX9 TX9 15, w ∈ wsX9_calls := by decide +kernel
  unfold ok_X9_calls at hok
  refine lv_aload_n hx hb dX9_calls_0 rfl (lv_at hl 0 rfl) ?_
  refine lv_iload_n hx hb dX9_calls_1 rfl (lv_at hl 1 rfl) ?_
  obtain ⟨h_1, hok⟩ := hok
  refine gm_ci (gm_call (As := [.int a1]) (rest := []) (ci := 9) (q := (RX9, TX9, 15)) ⟨hx, hb, hml, hown, hts⟩ hK (c_X9_isStation l D cy μ X a1 h_1) (cwV 1 hts gX9_calls_X9_isStation rfl rfl rfl (by decide +kernel) ⟨Nat.le_of_ble_eq_true rfl, Nat.le_of_ble_eq_true rfl⟩) (MR.mk0 hR) rfl hR rfl hl.1 rfl (Nat.le_of_ble_eq_true rfl) dX9_calls_2 (Nat.zero_le _) (Nat.zero_le _)) hS (fun _ h => h.elim) (fun H locs _ _ hfr hS => ?_)
  have hR := gRep.keep hR hfr (fun _ _ h => h)
  refine lv_if_ne (tgt := 10) hx hb dX9_calls_5 (by decide) (fun c_2 => ?_) (fun c_2 => ?_)
  · try rw [if_neg c_2] at hok
    refine lv_iload_n hx hb dX9_calls_10 rfl (lv_at hl 2 rfl) ?_
    refine lv_if_ge (tgt := 17) hx hb dX9_calls_11 (by decide) (fun c_3 => ?_) (fun c_3 => ?_)
    · try rw [if_pos c_3] at hok
      refine lv_iload_n hx hb dX9_calls_17 rfl (lv_at hl 1 rfl) ?_
      refine gm_ci (gm_callS (As := [.int a1]) (rest := []) ⟨hx, hb, hml, hown, hts⟩ hK (c_X9_stationAt l D cy a1) (va_cwS 1 hts gX9_calls_X9_stationAt rfl rfl rfl (by decide +kernel) ⟨Nat.le_of_ble_eq_true rfl, Nat.le_of_ble_eq_true rfl⟩) trivial rfl hl.1 rfl (Nat.le_of_ble_eq_true rfl) dX9_calls_18 (Nat.zero_le _) (Nat.zero_le _)) hS (fun _ h => h.elim) (fun H locs _ _ hfr hS => ?_)
      have hR := gRep.keep hR hfr (fun _ _ h => h)
      refine lv_istore_n (lv' := [(3, .int (f_X9_stationAt a1)), (0, .ref μ), (1, .int a1), (2, .int a2)]) hx hb dX9_calls_21 rfl hl (by decide) rfl (fun ls hl => ?_)
      refine lv_iload_n hx hb dX9_calls_22 rfl (lv_at hl 3 rfl) ?_
      refine lv_aload_n hx hb dX9_calls_23 rfl (lv_at hl 1 rfl) ?_
      refine va_get (D := D) (ci := 9) (v := .ref (μ + 1)) (C := RX9) (T := TX9) (N := 15) hx hb hts inX9 hown hK.1 (MR.mk0 hR) 0 rfl rfl 0 (by decide) lk7 (fun _ h9 => h9) rfl dX9_calls_24 ?_
      refine lv_iload_n hx hb dX9_calls_27 rfl (lv_at hl 0 rfl) ?_
      refine lv_iconst (v := 5) hx hb dX9_calls_28 (by decide) ?_
      refine lv_iadd hx hb dX9_calls_29 ?_
      obtain ⟨h_4, hok⟩ := hok
      refine gm_iald hx hb hK.1 (MR.mk1 hR (c := 1) (by decide) bM_1) h_4 dX9_calls_30 ?_
      refine lv_icmp_ge (tgt := 48) hx hb dX9_calls_31 (by decide) (fun c_5 => ?_) (fun c_5 => ?_)
      · try rw [if_pos c_5] at hok
        refine lv_bipush (v := (-5)) hx hb dX9_calls_48 (by decide) ?_
        exact gm_iret hx hb hr hlocks hS (by (try simp only [f_X9_calls, ↓if_neg c_2, ↓if_pos c_3, ↓if_pos c_5]); (try rfl)) trivial dX9_calls_50
      · try rw [if_neg c_5] at hok
        refine lv_aload_n hx hb dX9_calls_34 rfl (lv_at hl 1 rfl) ?_
        refine va_get (D := D) (ci := 9) (v := .ref (μ + 1)) (C := RX9) (T := TX9) (N := 15) hx hb hts inX9 hown hK.1 (MR.mk0 hR) 0 rfl rfl 0 (by decide) lk7 (fun _ h9 => h9) rfl dX9_calls_35 ?_
        refine lv_iload_n hx hb dX9_calls_38 rfl (lv_at hl 0 rfl) ?_
        refine lv_bipush (v := 6) hx hb dX9_calls_39 (by decide) ?_
        refine lv_iadd hx hb dX9_calls_41 ?_
        refine lv_iload_n hx hb dX9_calls_42 rfl (lv_at hl 3 rfl) ?_
        refine lv_iadd hx hb dX9_calls_43 ?_
        obtain ⟨h_6, hok⟩ := hok
        refine gm_iald hx hb hK.1 (MR.mk1 hR (c := 1) (by decide) bM_1) h_6 dX9_calls_44 ?_
        refine lv_goto (tgt := 50) hx hb dX9_calls_45 (by decide) ?_
        exact gm_iret hx hb hr hlocks hS (by (try simp only [f_X9_calls, ↓if_neg c_2, ↓if_pos c_3, ↓if_neg c_5]); (try rfl)) trivial dX9_calls_50
    · try rw [if_neg c_3] at hok
      refine lv_bipush (v := (-2)) hx hb dX9_calls_14 (by decide) ?_
      exact gm_iret hx hb hr hlocks hS (by (try simp only [f_X9_calls, ↓if_neg c_2, ↓if_neg c_3]); (try rfl)) trivial dX9_calls_16
  · try rw [if_pos c_2] at hok
    refine lv_iconst (v := (-1)) hx hb dX9_calls_8 (by decide) ?_
    exact gm_iret hx hb hr hlocks hS (by (try simp only [f_X9_calls, ↓if_pos c_2]); (try rfl)) trivial dX9_calls_9
def f_X9_ticket (X : gM) (a1 : Int32) (a2 : Int32) : Int32 :=
  if f_X9_isTicket X a1 = 0 then
    (-1)
  else
    if f_X9_in a2 0 13 = 0 then
      (-2)
    else
      f_X9_of X a1 a2
def ok_X9_ticket (X : gM) (a1 : Int32) (a2 : Int32) : Prop :=
  (if f_X9_isTicket X a1 = 0 then
    True
  else
    (if f_X9_in a2 0 13 = 0 then
      True
    else
      (ok_X9_of X a1 a2) ∧
      True))
set_option maxHeartbeats 4000000 in
set_option maxRecDepth 100000 in
theorem c_X9_ticket (l : Launch) (D : va_G) (cy : Nat → ClassId) (μ : Nat) (X : gM) (a1 : Int32) (a2 : Int32)  (hok : ok_X9_ticket X a1 a2) : Met l yX9_ticket wsX9_ticket ({ frames := 2, cells := 0, slots := 0, locals := 43 }) (gP [.ref μ, .int a1, .int a2] D cy (MR D cy μ X)) (gQi (f_X9_ticket X a1 a2) (fun _ => True) gNo) 0 0 gNo := by
  refine gm_met (cc := cX9_ticket) (maxL := 3) (ret := (some .int)) [.ref μ, .int a1, .int a2] (by decide) rfl (Nat.le_of_ble_eq_true rfl) ?_
  intro p e s m args below meth c0 ls C hR hl
  obtain ⟨hx, hb, hr, hts, hown, hlocks, hml, hK⟩ := C
  have hl : lv_has ls 3 [(0, .ref μ), (1, .int a1), (2, .int a2)] := hl
  have hS : va_S gNo s.heap s.heap [] := va_S.rf
  unfold ok_X9_ticket at hok
  refine lv_aload_n hx hb dX9_ticket_0 rfl (lv_at hl 0 rfl) ?_
  refine lv_iload_n hx hb dX9_ticket_1 rfl (lv_at hl 1 rfl) ?_
  refine gm_ci (gm_call (As := [.int a1]) (rest := []) (ci := 9) (q := (RX9, TX9, 15)) ⟨hx, hb, hml, hown, hts⟩ hK (c_X9_isTicket l D cy μ X a1) (cwV 1 hts gX9_ticket_X9_isTicket rfl rfl rfl (by decide +kernel) ⟨Nat.le_of_ble_eq_true rfl, Nat.le_of_ble_eq_true rfl⟩) (MR.mk0 hR) rfl hR rfl hl.1 rfl (Nat.le_of_ble_eq_true rfl) dX9_ticket_2 (Nat.zero_le _) (Nat.zero_le _)) hS (fun _ h => h.elim) (fun H locs _ _ hfr hS => ?_)
  have hR := gRep.keep hR hfr (fun _ _ h => h)
  refine lv_if_ne (tgt := 10) hx hb dX9_ticket_5 (by decide) (fun c_1 => ?_) (fun c_1 => ?_)
  · try rw [if_neg c_1] at hok
    refine lv_iload_n hx hb dX9_ticket_10 rfl (lv_at hl 2 rfl) ?_
    refine lv_iconst (v := 0) hx hb dX9_ticket_11 (by decide) ?_
    refine lv_bipush (v := 13) hx hb dX9_ticket_12 (by decide) ?_
    refine gm_ci (gm_callS (As := [.int a2, .int 0, .int 13]) (rest := []) ⟨hx, hb, hml, hown, hts⟩ hK (c_X9_in l D cy a2 0 13) (va_cwS 3 hts gX9_ticket_X9_in rfl rfl rfl (by decide +kernel) ⟨Nat.le_of_ble_eq_true rfl, Nat.le_of_ble_eq_true rfl⟩) trivial rfl hl.1 rfl (Nat.le_of_ble_eq_true rfl) dX9_ticket_14 (Nat.zero_le _) (Nat.zero_le _)) hS (fun _ h => h.elim) (fun H locs _ _ hfr hS => ?_)
    have hR := gRep.keep hR hfr (fun _ _ h => h)
    refine lv_if_eq (tgt := 29) hx hb dX9_ticket_17 (by decide) (fun c_2 => ?_) (fun c_2 => ?_)
    · try rw [if_pos c_2] at hok
      refine lv_bipush (v := (-2)) hx hb dX9_ticket_29 (by decide) ?_
      exact gm_iret hx hb hr hlocks hS (by (try simp only [f_X9_ticket, ↓if_neg c_1, ↓if_pos c_2]); (try rfl)) trivial dX9_ticket_31
    · try rw [if_neg c_2] at hok
      refine lv_aload_n hx hb dX9_ticket_20 rfl (lv_at hl 0 rfl) ?_
      refine lv_iload_n hx hb dX9_ticket_21 rfl (lv_at hl 1 rfl) ?_
      refine lv_iload_n hx hb dX9_ticket_22 rfl (lv_at hl 2 rfl) ?_
      obtain ⟨h_3, hok⟩ := hok
      refine gm_ci (gm_call (As := [.int a1, .int a2]) (rest := []) (ci := 9) (q := (RX9, TX9, 15)) ⟨hx, hb, hml, hown, hts⟩ hK (c_X9_of l D cy μ X a1 a2 h_3) (cwV 2 hts gX9_ticket_X9_of rfl rfl rfl (by decide +kernel) ⟨Nat.le_of_ble_eq_true rfl, Nat.le_of_ble_eq_true rfl⟩) (MR.mk0 hR) rfl hR rfl hl.1 rfl (Nat.le_of_ble_eq_true rfl) dX9_ticket_23 (Nat.zero_le _) (Nat.zero_le _)) hS (fun _ h => h.elim) (fun H locs _ _ hfr hS => ?_)
      have hR := gRep.keep hR hfr (fun _ _ h => h)
      refine lv_goto (tgt := 31) hx hb dX9_ticket_26 (by decide) ?_
      exact gm_iret hx hb hr hlocks hS (by (try simp only [f_X9_ticket, ↓if_neg c_1, ↓if_neg c_2]); (try rfl)) trivial dX9_ticket_31
  · try rw [if_pos c_1] at hok
    refine lv_iconst (v := (-1)) hx hb dX9_ticket_8 (by decide) ?_
    exact gm_iret hx hb hr hlocks hS (by (try simp only [f_X9_ticket, ↓if_pos c_1]); (try rfl)) trivial dX9_ticket_9
def f_X9_ordered (X : gM) (a1 : Int32) (a2 : Int32) : Int32 :=
  if f_X9_isOrder X a1 = 0 then
    (-1)
  else
    if f_X9_in a2 0 6 = 0 then
      (-2)
    else
      X 1 (((194 + (10 * a1)) + a2).toNatClampNeg)
def ok_X9_ordered (X : gM) (a1 : Int32) (a2 : Int32) : Prop :=
  (if f_X9_isOrder X a1 = 0 then
    True
  else
    (if f_X9_in a2 0 6 = 0 then
      True
    else
      (vp_in ((194 + (10 * a1)) + a2) 974) ∧
      True))
set_option maxHeartbeats 4000000 in
set_option maxRecDepth 100000 in
theorem c_X9_ordered (l : Launch) (D : va_G) (cy : Nat → ClassId) (μ : Nat) (X : gM) (a1 : Int32) (a2 : Int32)  (hok : ok_X9_ordered X a1 a2) : Met l yX9_ordered wsX9_ordered ({ frames := 2, cells := 0, slots := 0, locals := 43 }) (gP [.ref μ, .int a1, .int a2] D cy (MR D cy μ X)) (gQi (f_X9_ordered X a1 a2) (fun _ => True) gNo) 0 0 gNo := by
  refine gm_met (cc := cX9_ordered) (maxL := 3) (ret := (some .int)) [.ref μ, .int a1, .int a2] (by decide) rfl (Nat.le_of_ble_eq_true rfl) ?_
  intro p e s m args below meth c0 ls C hR hl
  obtain ⟨hx, hb, hr, hts, hown, hlocks, hml, hK⟩ := C
  have hl : lv_has ls 3 [(0, .ref μ), (1, .int a1), (2, .int a2)] := hl
  have hS : va_S gNo s.heap s.heap [] := va_S.rf
  have lk7 := hts (.fieldLink RX9 7 "MercuryLineModel" "s" "[I") (by decide +kernel)
  have inX9 : ∀ w ∈ u_ws RX9 TX9 15, w ∈ wsX9_ordered := by decide +kernel
  unfold ok_X9_ordered at hok
  refine lv_aload_n hx hb dX9_ordered_0 rfl (lv_at hl 0 rfl) ?_
  refine lv_iload_n hx hb dX9_ordered_1 rfl (lv_at hl 1 rfl) ?_
  refine gm_ci (gm_call (As := [.int a1]) (rest := []) (ci := 9) (q := (RX9, TX9, 15)) ⟨hx, hb, hml, hown, hts⟩ hK (c_X9_isOrder l D cy μ X a1) (cwV 1 hts gX9_ordered_X9_isOrder rfl rfl rfl (by decide +kernel) ⟨Nat.le_of_ble_eq_true rfl, Nat.le_of_ble_eq_true rfl⟩) (MR.mk0 hR) rfl hR rfl hl.1 rfl (Nat.le_of_ble_eq_true rfl) dX9_ordered_2 (Nat.zero_le _) (Nat.zero_le _)) hS (fun _ h => h.elim) (fun H locs _ _ hfr hS => ?_)
  have hR := gRep.keep hR hfr (fun _ _ h => h)
  refine lv_if_ne (tgt := 10) hx hb dX9_ordered_5 (by decide) (fun c_1 => ?_) (fun c_1 => ?_)
  · try rw [if_neg c_1] at hok
    refine lv_iload_n hx hb dX9_ordered_10 rfl (lv_at hl 2 rfl) ?_
    refine lv_iconst (v := 0) hx hb dX9_ordered_11 (by decide) ?_
    refine lv_bipush (v := 6) hx hb dX9_ordered_12 (by decide) ?_
    refine gm_ci (gm_callS (As := [.int a2, .int 0, .int 6]) (rest := []) ⟨hx, hb, hml, hown, hts⟩ hK (c_X9_in l D cy a2 0 6) (va_cwS 3 hts gX9_ordered_X9_in rfl rfl rfl (by decide +kernel) ⟨Nat.le_of_ble_eq_true rfl, Nat.le_of_ble_eq_true rfl⟩) trivial rfl hl.1 rfl (Nat.le_of_ble_eq_true rfl) dX9_ordered_14 (Nat.zero_le _) (Nat.zero_le _)) hS (fun _ h => h.elim) (fun H locs _ _ hfr hS => ?_)
    have hR := gRep.keep hR hfr (fun _ _ h => h)
    refine lv_if_eq (tgt := 38) hx hb dX9_ordered_17 (by decide) (fun c_2 => ?_) (fun c_2 => ?_)
    · try rw [if_pos c_2] at hok
      refine lv_bipush (v := (-2)) hx hb dX9_ordered_38 (by decide) ?_
      exact gm_iret hx hb hr hlocks hS (by (try simp only [f_X9_ordered, ↓if_neg c_1, ↓if_pos c_2]); (try rfl)) trivial dX9_ordered_40
    · try rw [if_neg c_2] at hok
      refine lv_aload_n hx hb dX9_ordered_20 rfl (lv_at hl 0 rfl) ?_
      refine va_get (D := D) (ci := 9) (v := .ref (μ + 1)) (C := RX9) (T := TX9) (N := 15) hx hb hts inX9 hown hK.1 (MR.mk0 hR) 0 rfl rfl 0 (by decide) lk7 (fun _ h9 => h9) rfl dX9_ordered_21 ?_
      refine lv_sipush (v := 194) hx hb dX9_ordered_24 (by decide) ?_
      refine lv_bipush (v := 10) hx hb dX9_ordered_27 (by decide) ?_
      refine lv_iload_n hx hb dX9_ordered_29 rfl (lv_at hl 1 rfl) ?_
      refine lv_imul hx hb dX9_ordered_30 ?_
      refine lv_iadd hx hb dX9_ordered_31 ?_
      refine lv_iload_n hx hb dX9_ordered_32 rfl (lv_at hl 2 rfl) ?_
      refine lv_iadd hx hb dX9_ordered_33 ?_
      obtain ⟨h_3, hok⟩ := hok
      refine gm_iald hx hb hK.1 (MR.mk1 hR (c := 1) (by decide) bM_1) h_3 dX9_ordered_34 ?_
      refine lv_goto (tgt := 40) hx hb dX9_ordered_35 (by decide) ?_
      exact gm_iret hx hb hr hlocks hS (by (try simp only [f_X9_ordered, ↓if_neg c_1, ↓if_neg c_2]); (try rfl)) trivial dX9_ordered_40
  · try rw [if_pos c_1] at hok
    refine lv_iconst (v := (-1)) hx hb dX9_ordered_8 (by decide) ?_
    exact gm_iret hx hb hr hlocks hS (by (try simp only [f_X9_ordered, ↓if_pos c_1]); (try rfl)) trivial dX9_ordered_9
def f_X9_price (X : gM) (a1 : Int32) (a2 : Int32) : Int32 :=
  if f_X9_in a1 1 3 = 0 then
    (-2)
  else
    if f_X9_in a2 1 9 = 0 then
      (-2)
    else
      f_X9_cost X a1 a2
set_option maxHeartbeats 4000000 in
set_option maxRecDepth 100000 in
theorem c_X9_price (l : Launch) (D : va_G) (cy : Nat → ClassId) (μ : Nat) (X : gM) (a1 : Int32) (a2 : Int32)  : Met l yX9_price wsX9_price ({ frames := 1, cells := 0, slots := 0, locals := 22 }) (gP [.ref μ, .int a1, .int a2] D cy (MR D cy μ X)) (gQi (f_X9_price X a1 a2) (fun _ => True) gNo) 0 0 gNo := by
  refine gm_met (cc := cX9_price) (maxL := 3) (ret := (some .int)) [.ref μ, .int a1, .int a2] (by decide) rfl (Nat.le_of_ble_eq_true rfl) ?_
  intro p e s m args below meth c0 ls C hR hl
  obtain ⟨hx, hb, hr, hts, hown, hlocks, hml, hK⟩ := C
  have hl : lv_has ls 3 [(0, .ref μ), (1, .int a1), (2, .int a2)] := hl
  have hS : va_S gNo s.heap s.heap [] := va_S.rf
  have hok : True := trivial
  refine lv_iload_n hx hb dX9_price_0 rfl (lv_at hl 1 rfl) ?_
  refine lv_iconst (v := 1) hx hb dX9_price_1 (by decide) ?_
  refine lv_iconst (v := 3) hx hb dX9_price_2 (by decide) ?_
  refine gm_ci (gm_callS (As := [.int a1, .int 1, .int 3]) (rest := []) ⟨hx, hb, hml, hown, hts⟩ hK (c_X9_in l D cy a1 1 3) (va_cwS 3 hts gX9_price_X9_in rfl rfl rfl (by decide +kernel) ⟨Nat.le_of_ble_eq_true rfl, Nat.le_of_ble_eq_true rfl⟩) trivial rfl hl.1 rfl (Nat.le_of_ble_eq_true rfl) dX9_price_3 (Nat.zero_le _) (Nat.zero_le _)) hS (fun _ h => h.elim) (fun H locs _ _ hfr hS => ?_)
  have hR := gRep.keep hR hfr (fun _ _ h => h)
  refine lv_if_eq (tgt := 28) hx hb dX9_price_6 (by decide) (fun c_1 => ?_) (fun c_1 => ?_)
  · try rw [if_pos c_1] at hok
    refine lv_bipush (v := (-2)) hx hb dX9_price_28 (by decide) ?_
    exact gm_iret hx hb hr hlocks hS (by (try simp only [f_X9_price, ↓if_pos c_1]); (try rfl)) trivial dX9_price_30
  · try rw [if_neg c_1] at hok
    refine lv_iload_n hx hb dX9_price_9 rfl (lv_at hl 2 rfl) ?_
    refine lv_iconst (v := 1) hx hb dX9_price_10 (by decide) ?_
    refine lv_bipush (v := 9) hx hb dX9_price_11 (by decide) ?_
    refine gm_ci (gm_callS (As := [.int a2, .int 1, .int 9]) (rest := []) ⟨hx, hb, hml, hown, hts⟩ hK (c_X9_in l D cy a2 1 9) (va_cwS 3 hts gX9_price_X9_in rfl rfl rfl (by decide +kernel) ⟨Nat.le_of_ble_eq_true rfl, Nat.le_of_ble_eq_true rfl⟩) trivial rfl hl.1 rfl (Nat.le_of_ble_eq_true rfl) dX9_price_13 (Nat.zero_le _) (Nat.zero_le _)) hS (fun _ h => h.elim) (fun H locs _ _ hfr hS => ?_)
    have hR := gRep.keep hR hfr (fun _ _ h => h)
    refine lv_if_eq (tgt := 28) hx hb dX9_price_16 (by decide) (fun c_2 => ?_) (fun c_2 => ?_)
    · try rw [if_pos c_2] at hok
      refine lv_bipush (v := (-2)) hx hb dX9_price_28 (by decide) ?_
      exact gm_iret hx hb hr hlocks hS (by (try simp only [f_X9_price, ↓if_neg c_1, ↓if_pos c_2]); (try rfl)) trivial dX9_price_30
    · try rw [if_neg c_2] at hok
      refine lv_aload_n hx hb dX9_price_19 rfl (lv_at hl 0 rfl) ?_
      refine lv_iload_n hx hb dX9_price_20 rfl (lv_at hl 1 rfl) ?_
      refine lv_iload_n hx hb dX9_price_21 rfl (lv_at hl 2 rfl) ?_
      refine gm_ci (gm_call (As := [.int a1, .int a2]) (rest := []) (ci := 9) (q := (RX9, TX9, 15)) ⟨hx, hb, hml, hown, hts⟩ hK (c_X9_cost l D cy μ X a1 a2) (cwV 2 hts gX9_price_X9_cost rfl rfl rfl (by decide +kernel) ⟨Nat.le_of_ble_eq_true rfl, Nat.le_of_ble_eq_true rfl⟩) (MR.mk0 hR) rfl hR rfl hl.1 rfl (Nat.le_of_ble_eq_true rfl) dX9_price_22 (Nat.zero_le _) (Nat.zero_le _)) hS (fun _ h => h.elim) (fun H locs _ _ hfr hS => ?_)
      have hR := gRep.keep hR hfr (fun _ _ h => h)
      refine lv_goto (tgt := 30) hx hb dX9_price_25 (by decide) ?_
      exact gm_iret hx hb hr hlocks hS (by (try simp only [f_X9_price, ↓if_neg c_1, ↓if_neg c_2]); (try rfl)) trivial dX9_price_30
