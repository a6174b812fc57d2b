def lf_X9_records_51  (K : (gM) → (Nat) → (gM)) : Nat → (gM) → (Nat) → (gM)
  | 0, Z, k_1 => K Z k_1
  | n + 1, Z, k_1 =>
    if 974 ≤ nI k_1 then
      K Z k_1
    else
      let X1 := updM Z 2 (((974 * (Z 0 2)) + (nI k_1)).toNatClampNeg) (Z 1 k_1)
      lf_X9_records_51 K n X1 (k_1 + 1)
def lok_X9_records_51  (KO : (gM) → (Nat) → Prop) : Nat → (gM) → (Nat) → Prop
  | 0, Z, k_1 => True
  | n + 1, Z, k_1 =>
    (if 974 ≤ nI k_1 then
      KO Z k_1
    else
      (vp_in ((974 * (Z 0 2)) + (nI k_1)) 3896) ∧
      ∀ X1 : gM, X1 = updM Z 2 (((974 * (Z 0 2)) + (nI k_1)).toNatClampNeg) (Z 1 k_1) →
      lok_X9_records_51 KO n X1 (k_1 + 1))
def lf_X9_records_10  (K : (gM) → (Nat) → (gM)) : Nat → (gM) → (Nat) → (gM)
  | 0, Z, k_1 => K Z k_1
  | n + 1, Z, k_1 =>
    if 2922 ≤ nI k_1 then
      K Z k_1
    else
      let X1 := updM Z 2 k_1 (Z 2 ((nI (k_1 + 974)).toNatClampNeg))
      lf_X9_records_10 K n X1 (k_1 + 1)
def lok_X9_records_10  (KO : (gM) → (Nat) → Prop) : Nat → (gM) → (Nat) → Prop
  | 0, Z, k_1 => True
  | n + 1, Z, k_1 =>
    (if 2922 ≤ nI k_1 then
      KO Z k_1
    else
      (vp_in (nI (k_1 + 974)) 3896) ∧
      ∀ X1 : gM, X1 = updM Z 2 k_1 (Z 2 ((nI (k_1 + 974)).toNatClampNeg)) →
      lok_X9_records_10 KO n X1 (k_1 + 1))
def p_X9_records (X : gM) : gM :=
  if X 0 2 = 4 then
    lf_X9_records_10  (fun X3 k_1w3 =>
          let X4 := updM X3 0 2 ((X3 0 2) - 1)
          lf_X9_records_51  (fun X5 k_1w4 =>
          let X6 := updM X5 0 2 ((X5 0 2) + 1)
          X6) 2147483648 X4 0) 2147483648 X 0
  else
    lf_X9_records_51  (fun X1 k_1w2 =>
          let X2 := updM X1 0 2 ((X1 0 2) + 1)
          X2) 2147483648 X 0
def ok_X9_records (X : gM) : Prop :=
  (if X 0 2 = 4 then
    lok_X9_records_10  (fun X3 k_1w3 =>
          ∀ X4 : gM, X4 = updM X3 0 2 ((X3 0 2) - 1) →
          lok_X9_records_51  (fun X5 k_1w4 =>
          True) 2147483648 X4 0) 2147483648 X 0
  else
    lok_X9_records_51  (fun X1 k_1w2 =>
          True) 2147483648 X 0)
set_option maxHeartbeats 4000000 in
set_option maxRecDepth 100000 in
theorem lp_X9_records_51 {p : Program} {l : Launch} {e : Env} {s : State} {m : MethodId} {args : Array Value} {below : List Frame} {meth : Method} {c0 : Code} {D : va_G} {cy : Nat → ClassId} (C : gCtx cX9_records 2 none RX9 wsX9_records D cy p s m args meth c0) (μ : Nat) 
    (KO : (gM) → (Nat) → Prop) (K : (gM) → (Nat) → (gM)) (hexit : ∀ (Z : gM) (k_1 : Nat), k_1 ≤ 2147483647 → KO Z k_1 → ∀ (H : Heap) (locs : List Loc) (ls : Array Slot), MR D cy μ Z H → va_S (MA μ) s.heap H locs → lv_has ls 2 [(0, .ref μ), (1, .int (nI k_1))] → W p l e { frames := 0, cells := 0, slots := 0, locals := 0 } s m args below meth c0 H locs 0 0 (MQ below (gQv (MR D cy μ (K Z k_1)) (MA μ)) args s 0 0 (MA μ)) (F0 m 85 ls [])) :
    ∀ (n : Nat) (Z : gM) (k_1 : Nat), k_1 ≤ 2147483647 → lok_X9_records_51 KO n Z k_1 → 2147483647 < k_1 + n → ∀ (H : Heap) (locs : List Loc) (ls : Array Slot), MR D cy μ Z H → va_S (MA μ) s.heap H locs → lv_has ls 2 [(0, .ref μ), (1, .int (nI k_1))] → W p l e { frames := 0, cells := 0, slots := 0, locals := 0 } s m args below meth c0 H locs 0 0 (MQ below (gQv (MR D cy μ (lf_X9_records_51 K n Z k_1)) (MA μ)) args s 0 0 (MA μ)) (F0 m 51 ls []) := by
  obtain ⟨hx, hb, hr, hts, hown, hlocks, hml, hK⟩ := C
  have lk13 := hts (.fieldLink RX9 13 "MercuryLineModel" "past" "[I") (by decide +kernel)
  have inX9 : ∀ w ∈ u_ws RX9 TX9 15, w ∈ wsX9_records := by decide +kernel
  have lk29 := hts (.fieldLink RX9 29 "MercuryLineModel" "kept" "I") (by decide +kernel)
  have lk7 := hts (.fieldLink RX9 7 "MercuryLineModel" "s" "[I") (by decide +kernel)
  intro n
  induction n with
  | zero =>
    intro Z k_1 hb_1 hok hme
    exact absurd hme (by omega)
  | succ n ih =>
    intro Z k_1 hb_1 hok hme H locs ls hR hS hl
    unfold lok_X9_records_51 at hok
    refine lv_iload_n hx hb dX9_records_51 rfl (lv_at hl 1 rfl) ?_
    refine lv_sipush (v := 974) hx hb dX9_records_52 (by decide) ?_
    refine lv_icmp_ge (tgt := 85) hx hb dX9_records_55 (by decide) (fun c_1 => ?_) (fun c_1 => ?_)
    · try rw [if_pos c_1] at hok
      have ge_2 : 974 ≤ k_1 := g_ge2 (Nat.lt_of_le_of_lt hb_1 (by decide)) (by decide) c_1
      refine gm_q (Q2 := MQ below (gQv (MR D cy μ (K Z k_1)) (MA μ)) args s 0 0 (MA μ)) (by simp only [lf_X9_records_51, ↓if_pos c_1]) ?_
      exact hexit Z k_1 hb_1 hok _ _ _ hR hS (lv_sub hl [0, 1] rfl)
    · try rw [if_neg c_1] at hok
      have lt_3 : k_1 < 974 := g_lt (Nat.lt_of_le_of_lt hb_1 (by decide)) (by decide) c_1
      refine lv_aload_n hx hb dX9_records_58 rfl (lv_at hl 0 rfl) ?_
      refine va_get (D := D) (ci := 9) (v := .ref (μ + 2)) (C := RX9) (T := TX9) (N := 15) hx hb hts inX9 hown hK.1 (MR.mk0 hR) 0 rfl rfl 1 (by decide) lk13 (fun _ h9 => h9) rfl dX9_records_59 ?_
      refine lv_sipush (v := 974) hx hb dX9_records_62 (by decide) ?_
      refine lv_aload_n hx hb dX9_records_65 rfl (lv_at hl 0 rfl) ?_
      refine va_get (D := D) (ci := 9) (v := .int (Z 0 2)) (C := RX9) (T := TX9) (N := 15) hx hb hts inX9 hown hK.1 (MR.mk0 hR) 0 rfl rfl 2 (by decide) lk29 (fun _ h9 => h9) rfl dX9_records_66 ?_
      refine lv_imul hx hb dX9_records_69 ?_
      refine lv_iload_n hx hb dX9_records_70 rfl (lv_at hl 1 rfl) ?_
      refine lv_iadd hx hb dX9_records_71 ?_
      refine lv_aload_n hx hb dX9_records_72 rfl (lv_at hl 0 rfl) ?_
      refine va_get (D := D) (ci := 9) (v := .ref (μ + 1)) (C := RX9) (T := TX9) (N := 15) hx hb hts inX9 hown hK.1 (MR.mk0 hR) 0 rfl rfl 0 (by decide) lk7 (fun _ h9 => h9) rfl dX9_records_73 ?_
      refine lv_iload_n hx hb dX9_records_76 rfl (lv_at hl 1 rfl) ?_
      refine gm_iald hx hb hK.1 (MR.mk1 hR (c := 1) (by decide) bM_1) (vp_in_nI lt_3 (by decide)) dX9_records_77 ?_
      rw [nI_clamp (n := k_1) (by omega)]
      obtain ⟨h_4, hok⟩ := hok
      refine gm_iast hx hb hK.1 hR injM hS (a := 2) (by decide) rfl (fun r => bM_2) h_4 dX9_records_78 (fun H locs hR hS => ?_)
      obtain ⟨X1, eX1⟩ : ∃ Y : gM, Y = updM Z 2 (((974 * (Z 0 2)) + (nI k_1)).toNatClampNeg) (Z 1 k_1) := ⟨_, rfl⟩
      rw [← eX1] at hR
      try replace hok := hok X1 eX1
      refine lv_iinc (v := nI (k_1 + 1)) (lv' := [(1, .int (nI (k_1 + 1))), (0, .ref μ)]) hx hb dX9_records_79 hl (k := 1) rfl (nI_1 _) (by decide) rfl (fun ls hl => ?_)
      refine lv_goto (tgt := 51) hx hb dX9_records_82 (by decide) ?_
      refine gm_q (Q2 := MQ below (gQv (MR D cy μ (lf_X9_records_51 K n X1 (k_1 + 1))) (MA μ)) args s 0 0 (MA μ)) (by simp only [lf_X9_records_51, ↓if_neg c_1, ← eX1]) ?_
      exact ih X1 (k_1 + 1) (Nat.lt_of_lt_of_le lt_3 (by decide)) hok (by omega) _ _ _ hR hS (lv_sub hl [1, 0] rfl)
set_option maxHeartbeats 4000000 in
set_option maxRecDepth 100000 in
theorem lp_X9_records_10 {p : Program} {l : Launch} {e : Env} {s : State} {m : MethodId} {args : Array Value} {below : List Frame} {meth : Method} {c0 : Code} {D : va_G} {cy : Nat → ClassId} (C : gCtx cX9_records 2 none RX9 wsX9_records D cy p s m args meth c0) (μ : Nat) 
    (KO : (gM) → (Nat) → Prop) (K : (gM) → (Nat) → (gM)) (hexit : ∀ (Z : gM) (k_1 : Nat), k_1 ≤ 2147483647 → KO Z k_1 → ∀ (H : Heap) (locs : List Loc) (ls : Array Slot), MR D cy μ Z H → va_S (MA μ) s.heap H locs → lv_has ls 2 [(0, .ref μ), (1, .int (nI k_1))] → W p l e { frames := 0, cells := 0, slots := 0, locals := 0 } s m args below meth c0 H locs 0 0 (MQ below (gQv (MR D cy μ (K Z k_1)) (MA μ)) args s 0 0 (MA μ)) (F0 m 39 ls [])) :
    ∀ (n : Nat) (Z : gM) (k_1 : Nat), k_1 ≤ 2147483647 → lok_X9_records_10 KO n Z k_1 → 2147483647 < k_1 + n → ∀ (H : Heap) (locs : List Loc) (ls : Array Slot), MR D cy μ Z H → va_S (MA μ) s.heap H locs → lv_has ls 2 [(0, .ref μ), (1, .int (nI k_1))] → W p l e { frames := 0, cells := 0, slots := 0, locals := 0 } s m args below meth c0 H locs 0 0 (MQ below (gQv (MR D cy μ (lf_X9_records_10 K n Z k_1)) (MA μ)) args s 0 0 (MA μ)) (F0 m 10 ls []) := by
  obtain ⟨hx, hb, hr, hts, hown, hlocks, hml, hK⟩ := C
  have lk13 := hts (.fieldLink RX9 13 "MercuryLineModel" "past" "[I") (by decide +kernel)
  have inX9 : ∀ w ∈ u_ws RX9 TX9 15, w ∈ wsX9_records := by decide +kernel
  intro n
  induction n with
  | zero =>
    intro Z k_1 hb_1 hok hme
    exact absurd hme (by omega)
  | succ n ih =>
    intro Z k_1 hb_1 hok hme H locs ls hR hS hl
    unfold lok_X9_records_10 at hok
    refine lv_iload_n hx hb dX9_records_10 rfl (lv_at hl 1 rfl) ?_
    refine lv_sipush (v := 2922) hx hb dX9_records_11 (by decide) ?_
    refine lv_icmp_ge (tgt := 39) hx hb dX9_records_14 (by decide) (fun c_1 => ?_) (fun c_1 => ?_)
    · try rw [if_pos c_1] at hok
      have ge_2 : 2922 ≤ k_1 := g_ge2 (Nat.lt_of_le_of_lt hb_1 (by decide)) (by decide) c_1
      refine gm_q (Q2 := MQ below (gQv (MR D cy μ (K Z k_1)) (MA μ)) args s 0 0 (MA μ)) (by simp only [lf_X9_records_10, ↓if_pos c_1]) ?_
      exact hexit Z k_1 hb_1 hok _ _ _ hR hS (lv_sub hl [0, 1] rfl)
    · try rw [if_neg c_1] at hok
      have lt_3 : k_1 < 2922 := g_lt (Nat.lt_of_le_of_lt hb_1 (by decide)) (by decide) c_1
      refine lv_aload_n hx hb dX9_records_17 rfl (lv_at hl 0 rfl) ?_
      refine va_get (D := D) (ci := 9) (v := .ref (μ + 2)) (C := RX9) (T := TX9) (N := 15) hx hb hts inX9 hown hK.1 (MR.mk0 hR) 0 rfl rfl 1 (by decide) lk13 (fun _ h9 => h9) rfl dX9_records_18 ?_
      refine lv_iload_n hx hb dX9_records_21 rfl (lv_at hl 1 rfl) ?_
      refine lv_aload_n hx hb dX9_records_22 rfl (lv_at hl 0 rfl) ?_
      refine va_get (D := D) (ci := 9) (v := .ref (μ + 2)) (C := RX9) (T := TX9) (N := 15) hx hb hts inX9 hown hK.1 (MR.mk0 hR) 0 rfl rfl 1 (by decide) lk13 (fun _ h9 => h9) rfl dX9_records_23 ?_
      refine lv_iload_n hx hb dX9_records_26 rfl (lv_at hl 1 rfl) ?_
      refine lv_sipush (v := 974) hx hb dX9_records_27 (by decide) ?_
      refine lv_iadd hx hb dX9_records_30 ?_
      rw [show ((nI k_1) + 974 : Int32) = nI (k_1 + 974) from nI_add _ 974]
      obtain ⟨h_4, hok⟩ := hok
      refine gm_iald hx hb hK.1 (MR.mk1 hR (c := 2) (by decide) bM_2) h_4 dX9_records_31 ?_
      refine gm_iast hx hb hK.1 hR injM hS (a := 2) (by decide) rfl (fun r => bM_2) (vp_in_nI (Nat.lt_of_lt_of_le lt_3 (by decide)) (by decide)) dX9_records_32 (fun H locs hR hS => ?_)
      rw [nI_clamp (n := k_1) (by omega)] at hR
      obtain ⟨X1, eX1⟩ : ∃ Y : gM, Y = updM Z 2 k_1 (Z 2 ((nI (k_1 + 974)).toNatClampNeg)) := ⟨_, rfl⟩
      rw [← eX1] at hR
      try replace hok := hok X1 eX1
      refine lv_iinc (v := nI (k_1 + 1)) (lv' := [(1, .int (nI (k_1 + 1))), (0, .ref μ)]) hx hb dX9_records_33 hl (k := 1) rfl (nI_1 _) (by decide) rfl (fun ls hl => ?_)
      refine lv_goto (tgt := 10) hx hb dX9_records_36 (by decide) ?_
      refine gm_q (Q2 := MQ below (gQv (MR D cy μ (lf_X9_records_10 K n X1 (k_1 + 1))) (MA μ)) args s 0 0 (MA μ)) (by simp only [lf_X9_records_10, ↓if_neg c_1, ← eX1]) ?_
      exact ih X1 (k_1 + 1) (Nat.lt_of_lt_of_le lt_3 (by decide)) hok (by omega) _ _ _ hR hS (lv_sub hl [1, 0] rfl)
set_option maxHeartbeats 4000000 in
set_option maxRecDepth 100000 in
theorem c_X9_records (l : Launch) (D : va_G) (cy : Nat → ClassId) (μ : Nat) (X : gM)  (hok : ok_X9_records X) : Met l yX9_records wsX9_records ({ frames := 0, cells := 0, slots := 0, locals := 0 }) (gP [.ref μ] D cy (MR D cy μ X)) (gQv (MR D cy μ (p_X9_records X)) (MA μ)) 0 0 (MA μ) := by
  refine gm_met (cc := cX9_records) (maxL := 2) (ret := none) [.ref μ] (by decide) rfl (Nat.le_of_ble_eq_true rfl) ?_
  intro p e s m args below meth c0 ls C hR hl
  obtain ⟨hx, hb, hr, hts, hown, hlocks, hml, hK⟩ := C
  have hl : lv_has ls 2 [(0, .ref μ)] := hl
  have hS : va_S (MA μ) s.heap s.heap [] := va_S.rf
  have lk29 := hts (.fieldLink RX9 29 "MercuryLineModel" "kept" "I") (by decide +kernel)
  have inX9 : ∀ w ∈ u_ws RX9 TX9 15, w ∈ wsX9_records := by decide +kernel
  unfold ok_X9_records at hok
  refine lv_aload_n hx hb dX9_records_0 rfl (lv_at hl 0 rfl) ?_
  refine va_get (D := D) (ci := 9) (v := .int (X 0 2)) (C := RX9) (T := TX9) (N := 15) hx hb hts inX9 hown hK.1 (MR.mk0 hR) 0 rfl rfl 2 (by decide) lk29 (fun _ h9 => h9) rfl dX9_records_1 ?_
  refine lv_iconst (v := 4) hx hb dX9_records_4 (by decide) ?_
  refine lv_icmp_ne (tgt := 49) hx hb dX9_records_5 (by decide) (fun c_1 => ?_) (fun c_1 => ?_)
  · try rw [if_neg c_1] at hok
    refine lv_iconst (v := 0) hx hb dX9_records_49 (by decide) ?_
    refine lv_istore_n (lv' := [(1, .int 0), (0, .ref μ)]) hx hb dX9_records_50 rfl hl (by decide) rfl (fun ls hl => ?_)
    refine gm_q (Q2 := MQ below (gQv (MR D cy μ (lf_X9_records_51  (fun X1 k_1w2 =>
          let X2 := updM X1 0 2 ((X1 0 2) + 1)
          X2) 2147483648 X 0)) (MA μ)) args s 0 0 (MA μ)) (by simp only [p_X9_records, ↓if_neg c_1]) ?_
    refine lp_X9_records_51 ⟨hx, hb, hr, hts, hown, hlocks, hml, hK⟩ μ  _ _ (fun X1 k_1w2 hbk_1w2 hok H locs ls hR hS hl => ?_) 2147483648 X 0 (by decide) hok (by omega) _ _ _ hR hS (lv_sub hl [1, 0] rfl)
    refine lv_aload_n hx hb dX9_records_85 rfl (lv_at hl 0 rfl) ?_
    refine lv_dup hx hb dX9_records_86 rfl ?_
    refine va_get (D := D) (ci := 9) (v := .int (X1 0 2)) (C := RX9) (T := TX9) (N := 15) hx hb hts inX9 hown hK.1 (MR.mk0 hR) 0 rfl rfl 2 (by decide) lk29 (fun _ h9 => h9) rfl dX9_records_87 ?_
    refine lv_iconst (v := 1) hx hb dX9_records_90 (by decide) ?_
    refine lv_iadd hx hb dX9_records_91 ?_
    refine gm_put (v := .int ((X1 0 2) + 1)) (ty := .int) (ci := 9) (C := RX9) (T := TX9) (N := 15) hx hb hts inX9 tyX9 tyX9_ok nmX9 hown hK.1 hR injM hS (a := 0) (by decide) rfl bM_0 rfl 2 (by decide) lk29 (fun _ h9 => h9) rfl (by decide +kernel) rfl rfl (Nat.le_of_ble_eq_true rfl) (j := 2) (x := (X1 0 2) + 1) (by rw [bM_0]; rfl) dX9_records_92 (fun H locs hR hS => ?_)
    obtain ⟨X2, eX2⟩ : ∃ Y : gM, Y = updM X1 0 2 ((X1 0 2) + 1) := ⟨_, rfl⟩
    rw [← eX2] at hR
    try replace hok := hok X2 eX2
    exact gm_vret hx hb hr hlocks hS (by (try simp only [p_X9_records, ↓if_neg c_1, ← eX2]); exact hR) dX9_records_95
  · try rw [if_pos c_1] at hok
    refine lv_iconst (v := 0) hx hb dX9_records_8 (by decide) ?_
    refine lv_istore_n (lv' := [(1, .int 0), (0, .ref μ)]) hx hb dX9_records_9 rfl hl (by decide) rfl (fun ls hl => ?_)
    refine gm_q (Q2 := MQ below (gQv (MR D cy μ (lf_X9_records_10  (fun X3 k_1w3 =>
          let X4 := updM X3 0 2 ((X3 0 2) - 1)
          lf_X9_records_51  (fun X5 k_1w4 =>
          let X6 := updM X5 0 2 ((X5 0 2) + 1)
          X6) 2147483648 X4 0) 2147483648 X 0)) (MA μ)) args s 0 0 (MA μ)) (by simp only [p_X9_records, ↓if_pos c_1]) ?_
    refine lp_X9_records_10 ⟨hx, hb, hr, hts, hown, hlocks, hml, hK⟩ μ  _ _ (fun X3 k_1w3 hbk_1w3 hok H locs ls hR hS hl => ?_) 2147483648 X 0 (by decide) hok (by omega) _ _ _ hR hS (lv_sub hl [1, 0] rfl)
    refine lv_aload_n hx hb dX9_records_39 rfl (lv_at hl 0 rfl) ?_
    refine lv_dup hx hb dX9_records_40 rfl ?_
    refine va_get (D := D) (ci := 9) (v := .int (X3 0 2)) (C := RX9) (T := TX9) (N := 15) hx hb hts inX9 hown hK.1 (MR.mk0 hR) 0 rfl rfl 2 (by decide) lk29 (fun _ h9 => h9) rfl dX9_records_41 ?_
    refine lv_iconst (v := 1) hx hb dX9_records_44 (by decide) ?_
    refine lv_isub hx hb dX9_records_45 ?_
    refine gm_put (v := .int ((X3 0 2) - 1)) (ty := .int) (ci := 9) (C := RX9) (T := TX9) (N := 15) hx hb hts inX9 tyX9 tyX9_ok nmX9 hown hK.1 hR injM hS (a := 0) (by decide) rfl bM_0 rfl 2 (by decide) lk29 (fun _ h9 => h9) rfl (by decide +kernel) rfl rfl (Nat.le_of_ble_eq_true rfl) (j := 2) (x := (X3 0 2) - 1) (by rw [bM_0]; rfl) dX9_records_46 (fun H locs hR hS => ?_)
    obtain ⟨X4, eX4⟩ : ∃ Y : gM, Y = updM X3 0 2 ((X3 0 2) - 1) := ⟨_, rfl⟩
    rw [← eX4] at hR
    try replace hok := hok X4 eX4
    refine lv_iconst (v := 0) hx hb dX9_records_49 (by decide) ?_
    refine lv_istore_n (lv' := [(1, .int 0), (0, .ref μ)]) hx hb dX9_records_50 rfl hl (by decide) rfl (fun ls hl => ?_)
    refine gm_q (Q2 := MQ below (gQv (MR D cy μ (lf_X9_records_51  (fun X5 k_1w4 =>
          let X6 := updM X5 0 2 ((X5 0 2) + 1)
          X6) 2147483648 X4 0)) (MA μ)) args s 0 0 (MA μ)) (by simp only [p_X9_records, ↓if_pos c_1, ← eX4]) ?_
    refine lp_X9_records_51 ⟨hx, hb, hr, hts, hown, hlocks, hml, hK⟩ μ  _ _ (fun X5 k_1w4 hbk_1w4 hok H locs ls hR hS hl => ?_) 2147483648 X4 0 (by decide) hok (by omega) _ _ _ hR hS (lv_sub hl [1, 0] rfl)
    refine lv_aload_n hx hb dX9_records_85 rfl (lv_at hl 0 rfl) ?_
    refine lv_dup hx hb dX9_records_86 rfl ?_
    refine va_get (D := D) (ci := 9) (v := .int (X5 0 2)) (C := RX9) (T := TX9) (N := 15) hx hb hts inX9 hown hK.1 (MR.mk0 hR) 0 rfl rfl 2 (by decide) lk29 (fun _ h9 => h9) rfl dX9_records_87 ?_
    refine lv_iconst (v := 1) hx hb dX9_records_90 (by decide) ?_
    refine lv_iadd hx hb dX9_records_91 ?_
    refine gm_put (v := .int ((X5 0 2) + 1)) (ty := .int) (ci := 9) (C := RX9) (T := TX9) (N := 15) hx hb hts inX9 tyX9 tyX9_ok nmX9 hown hK.1 hR injM hS (a := 0) (by decide) rfl bM_0 rfl 2 (by decide) lk29 (fun _ h9 => h9) rfl (by decide +kernel) rfl rfl (Nat.le_of_ble_eq_true rfl) (j := 2) (x := (X5 0 2) + 1) (by rw [bM_0]; rfl) dX9_records_92 (fun H locs hR hS => ?_)
    obtain ⟨X6, eX6⟩ : ∃ Y : gM, Y = updM X5 0 2 ((X5 0 2) + 1) := ⟨_, rfl⟩
    rw [← eX6] at hR
    try replace hok := hok X6 eX6
    exact gm_vret hx hb hr hlocks hS (by (try simp only [p_X9_records, ↓if_pos c_1, ← eX4, ← eX6]); exact hR) dX9_records_95
def lf_X9_build_40 (a1 : Int32) (a2 : Int32) (Z : gM) (K : (Int32) → (Nat) → (Int32 × gM)) : Nat → (Int32) → (Nat) → (Int32 × gM)
  | 0, x_3, k_4 => K x_3 k_4
  | n + 1, x_3, k_4 =>
    if f_X9_ofLine Z a1 4 ≤ nI k_4 then
      K x_3 k_4
    else
      if x_3 = 0 then
        lf_X9_build_40 a1 a2 Z K n 0 (k_4 + 1)
      else
        if a2 ≤ Z 1 (((f_X9_stationAt ((10 * a1) + (nI k_4))) + 0).toNatClampNeg) then
          lf_X9_build_40 a1 a2 Z K n 0 (k_4 + 1)
        else
          lf_X9_build_40 a1 a2 Z K n 1 (k_4 + 1)
def lok_X9_build_40 (a1 : Int32) (a2 : Int32) (Z : gM) (KO : (Int32) → (Nat) → Prop) : Nat → (Int32) → (Nat) → Prop
  | 0, x_3, k_4 => True
  | n + 1, x_3, k_4 =>
    (ok_X9_ofLine Z a1 4) ∧
    (if f_X9_ofLine Z a1 4 ≤ nI k_4 then
      KO x_3 k_4
    else
      (if x_3 = 0 then
        lok_X9_build_40 a1 a2 Z KO n 0 (k_4 + 1)
      else
        (vp_in ((f_X9_stationAt ((10 * a1) + (nI k_4))) + 0) 974) ∧
        (if a2 ≤ Z 1 (((f_X9_stationAt ((10 * a1) + (nI k_4))) + 0).toNatClampNeg) then
          lok_X9_build_40 a1 a2 Z KO n 0 (k_4 + 1)
        else
          lok_X9_build_40 a1 a2 Z KO n 1 (k_4 + 1))))
def p_X9_build (X : gM) (a1 : Int32) (a2 : Int32) : Int32 × gM :=
  if f_X9_isLine a1 = 0 then
    ((-1), X)
  else
    if f_X9_in a2 2 24 = 0 then
      ((-2), X)
    else
      if f_X9_on X a1 1 = 0 then
        lf_X9_build_40 a1 a2 X (fun x_3w13 k_4w13 =>
              if x_3w13 = 0 then
                ((-4), X)
              else
                if f_X9_ofLine X a1 0 = a2 then
                  ((-5), X)
                else
                  let X5 := p_X9_records X
                  let X6 := updM X5 1 (((10 + (8 * a1)) + 0).toNatClampNeg) a2
                  let X7 := updM X6 1 (((10 + (8 * a1)) + 1).toNatClampNeg) 0
                  let X8 := updM X7 1 (((10 + (8 * a1)) + 2).toNatClampNeg) 0
                  (f_X9_ofLine X a1 0, X8)) 2147483648 1 0
      else
        lf_X9_build_40 a1 a2 X (fun x_3w5 k_4w5 =>
              if x_3w5 = 0 then
                ((-4), X)
              else
                if f_X9_ofLine X a1 0 = a2 then
                  ((-5), X)
                else
                  let X1 := p_X9_records X
                  let X2 := updM X1 1 (((10 + (8 * a1)) + 0).toNatClampNeg) a2
                  let X3 := updM X2 1 (((10 + (8 * a1)) + 1).toNatClampNeg) 0
                  let X4 := updM X3 1 (((10 + (8 * a1)) + 2).toNatClampNeg) 0
                  (f_X9_ofLine X a1 0, X4)) 2147483648 0 0
def ok_X9_build (X : gM) (a1 : Int32) (a2 : Int32) : Prop :=
  (if f_X9_isLine a1 = 0 then
    True
  else
    (if f_X9_in a2 2 24 = 0 then
      True
    else
      (ok_X9_on X a1 1) ∧
      (if f_X9_on X a1 1 = 0 then
        lok_X9_build_40 a1 a2 X (fun x_3w13 k_4w13 =>
              (if x_3w13 = 0 then
                True
              else
                (ok_X9_ofLine X a1 0) ∧
                (if f_X9_ofLine X a1 0 = a2 then
                  True
                else
                  (ok_X9_records X) ∧
                  ∀ X5 : gM, X5 = p_X9_records X →
                  (vp_in ((10 + (8 * a1)) + 0) 974) ∧
                  ∀ X6 : gM, X6 = updM X5 1 (((10 + (8 * a1)) + 0).toNatClampNeg) a2 →
                  (vp_in ((10 + (8 * a1)) + 1) 974) ∧
                  ∀ X7 : gM, X7 = updM X6 1 (((10 + (8 * a1)) + 1).toNatClampNeg) 0 →
                  (vp_in ((10 + (8 * a1)) + 2) 974) ∧
                  True))) 2147483648 1 0
      else
        lok_X9_build_40 a1 a2 X (fun x_3w5 k_4w5 =>
              (if x_3w5 = 0 then
                True
              else
                (ok_X9_ofLine X a1 0) ∧
                (if f_X9_ofLine X a1 0 = a2 then
                  True
                else
                  (ok_X9_records X) ∧
                  ∀ X1 : gM, X1 = p_X9_records X →
                  (vp_in ((10 + (8 * a1)) + 0) 974) ∧
                  ∀ X2 : gM, X2 = updM X1 1 (((10 + (8 * a1)) + 0).toNatClampNeg) a2 →
                  (vp_in ((10 + (8 * a1)) + 1) 974) ∧
                  ∀ X3 : gM, X3 = updM X2 1 (((10 + (8 * a1)) + 1).toNatClampNeg) 0 →
                  (vp_in ((10 + (8 * a1)) + 2) 974) ∧
                  True))) 2147483648 0 0)))
set_option maxHeartbeats 4000000 in
set_option maxRecDepth 100000 in
theorem lp_X9_build_40 {p : Program} {l : Launch} {e : Env} {s : State} {m : MethodId} {args : Array Value} {below : List Frame} {meth : Method} {c0 : Code} {D : va_G} {cy : Nat → ClassId} (C : gCtx cX9_build 5 (some .int) RX9 wsX9_build D cy p s m args meth c0) (μ : Nat) (a1 : Int32) (a2 : Int32) (Z : gM) 
    (KO : (Int32) → (Nat) → Prop) (K : (Int32) → (Nat) → (Int32 × gM)) (hexit : ∀ (x_3 : Int32) (k_4 : Nat), k_4 ≤ 2147483647 → KO x_3 k_4 → ∀ (H : Heap) (locs : List Loc) (ls : Array Slot), MR D cy μ Z H → va_S (MA μ) s.heap H locs → lv_has ls 5 [(0, .ref μ), (1, .int a1), (2, .int a2), (3, .int x_3), (4, .int (nI k_4))] → W p l e { frames := 2, cells := 0, slots := 0, locals := 46 } s m args below meth c0 H locs 0 0 (MQ below (gQi (K x_3 k_4).1 (MR D cy μ (K x_3 k_4).2) (MA μ)) args s 0 0 (MA μ)) (F0 m 88 ls [])) :
    ∀ (n : Nat) (x_3 : Int32) (k_4 : Nat), k_4 ≤ 2147483647 → lok_X9_build_40 a1 a2 Z KO n x_3 k_4 → 2147483647 < k_4 + n → ∀ (H : Heap) (locs : List Loc) (ls : Array Slot), MR D cy μ Z H → va_S (MA μ) s.heap H locs → lv_has ls 5 [(0, .ref μ), (1, .int a1), (2, .int a2), (3, .int x_3), (4, .int (nI k_4))] → W p l e { frames := 2, cells := 0, slots := 0, locals := 46 } s m args below meth c0 H locs 0 0 (MQ below (gQi (lf_X9_build_40 a1 a2 Z K n x_3 k_4).1 (MR D cy μ (lf_X9_build_40 a1 a2 Z K n x_3 k_4).2) (MA μ)) args s 0 0 (MA μ)) (F0 m 40 ls []) := by
  obtain ⟨hx, hb, hr, hts, hown, hlocks, hml, hK⟩ := C
  have lk7 := hts (.fieldLink RX9 7 "MercuryLineModel" "s" "[I") (by decide +kernel)
  have inX9 : ∀ w ∈ u_ws RX9 TX9 15, w ∈ wsX9_build := by decide +kernel
  intro n
  induction n with
  | zero =>
    intro x_3 k_4 hb_4 hok hme
    exact absurd hme (by omega)
  | succ n ih =>
    intro x_3 k_4 hb_4 hok hme H locs ls hR hS hl
    unfold lok_X9_build_40 at hok
    refine lv_iload hx hb dX9_build_40 (lv_at hl 4 rfl) ?_
    refine lv_aload_n hx hb dX9_build_42 rfl (lv_at hl 0 rfl) ?_
    refine lv_iload_n hx hb dX9_build_43 rfl (lv_at hl 1 rfl) ?_
    refine lv_iconst (v := 4) hx hb dX9_build_44 (by decide) ?_
    obtain ⟨h_1, hok⟩ := hok
    refine gm_ci (gm_call (As := [.int a1, .int 4]) (rest := [.int (nI k_4)]) (ci := 9) (q := (RX9, TX9, 15)) ⟨hx, hb, hml, hown, hts⟩ hK (c_X9_ofLine l D cy μ Z a1 4 h_1) (cwV 2 hts gX9_build_X9_ofLine rfl rfl rfl (by decide +kernel) ⟨Nat.le_of_ble_eq_true rfl, Nat.le_of_ble_eq_true rfl⟩) (MR.mk0 hR) rfl hR rfl hl.1 rfl (Nat.le_of_ble_eq_true rfl) dX9_build_45 (Nat.zero_le _) (Nat.zero_le _)) hS (fun _ h => h.elim) (fun H locs _ _ hfr hS => ?_)
    have hR := gRep.keep hR hfr (fun _ _ h => h)
    refine lv_icmp_ge (tgt := 88) hx hb dX9_build_48 (by decide) (fun c_2 => ?_) (fun c_2 => ?_)
    · try rw [if_pos c_2] at hok
      refine gm_q (Q2 := MQ below (gQi (K x_3 k_4).1 (MR D cy μ (K x_3 k_4).2) (MA μ)) args s 0 0 (MA μ)) (by simp only [lf_X9_build_40, ↓if_pos c_2]) ?_
      exact hexit x_3 k_4 hb_4 hok _ _ _ hR hS (lv_sub hl [0, 1, 2, 3, 4] rfl)
    · try rw [if_neg c_2] at hok
      have lt_3 : k_4 < 2147483647 := g_big (Nat.lt_of_le_of_lt hb_4 (by decide)) c_2
      refine lv_iload_n hx hb dX9_build_51 rfl (lv_at hl 3 rfl) ?_
      refine lv_if_eq (tgt := 80) hx hb dX9_build_52 (by decide) (fun c_4 => ?_) (fun c_4 => ?_)
      · try rw [if_pos c_4] at hok
        refine lv_iconst (v := 0) hx hb dX9_build_80 (by decide) ?_
        refine lv_istore_n (lv' := [(3, .int 0), (0, .ref μ), (1, .int a1), (2, .int a2), (4, .int (nI k_4))]) hx hb dX9_build_81 rfl hl (by decide) rfl (fun ls hl => ?_)
        refine lv_iinc (v := nI (k_4 + 1)) (lv' := [(4, .int (nI (k_4 + 1))), (3, .int 0), (0, .ref μ), (1, .int a1), (2, .int a2)]) hx hb dX9_build_82 hl (k := 4) rfl (nI_1 _) (by decide) rfl (fun ls hl => ?_)
        refine lv_goto (tgt := 40) hx hb dX9_build_85 (by decide) ?_
        refine gm_q (Q2 := MQ below (gQi (lf_X9_build_40 a1 a2 Z K n 0 (k_4 + 1)).1 (MR D cy μ (lf_X9_build_40 a1 a2 Z K n 0 (k_4 + 1)).2) (MA μ)) args s 0 0 (MA μ)) (by simp only [lf_X9_build_40, ↓if_neg c_2, ↓if_pos c_4]) ?_
        exact ih 0 (k_4 + 1) lt_3 hok (by omega) _ _ _ hR hS (lv_sub hl [2, 3, 4, 1, 0] rfl)
      · try rw [if_neg c_4] at hok
        refine lv_aload_n hx hb dX9_build_55 rfl (lv_at hl 0 rfl) ?_
        refine va_get (D := D) (ci := 9) (v := .ref (μ + 1)) (C := RX9) (T := TX9) (N := 15) hx hb hts inX9 hown hK.1 (MR.mk0 hR) 0 rfl rfl 0 (by decide) lk7 (fun _ h9 => h9) rfl dX9_build_56 ?_
        refine lv_bipush (v := 10) hx hb dX9_build_59 (by decide) ?_
        refine lv_iload_n hx hb dX9_build_61 rfl (lv_at hl 1 rfl) ?_
        refine lv_imul hx hb dX9_build_62 ?_
        refine lv_iload hx hb dX9_build_63 (lv_at hl 4 rfl) ?_
        refine lv_iadd hx hb dX9_build_65 ?_
        refine gm_ci (gm_callS (As := [.int ((10 * a1) + (nI k_4))]) (rest := [.ref (μ + 1)]) ⟨hx, hb, hml, hown, hts⟩ hK (c_X9_stationAt l D cy ((10 * a1) + (nI k_4))) (va_cwS 1 hts gX9_build_X9_stationAt rfl rfl rfl (by decide +kernel) ⟨Nat.le_of_ble_eq_true rfl, Nat.le_of_ble_eq_true rfl⟩) trivial rfl hl.1 rfl (Nat.le_of_ble_eq_true rfl) dX9_build_66 (Nat.zero_le _) (Nat.zero_le _)) hS (fun _ h => h.elim) (fun H locs _ _ hfr hS => ?_)
        have hR := gRep.keep hR hfr (fun _ _ h => h)
        refine lv_iconst (v := 0) hx hb dX9_build_69 (by decide) ?_
        refine lv_iadd hx hb dX9_build_70 ?_
        obtain ⟨h_5, hok⟩ := hok
        refine gm_iald hx hb hK.1 (MR.mk1 hR (c := 1) (by decide) bM_1) h_5 dX9_build_71 ?_
        refine lv_iload_n hx hb dX9_build_72 rfl (lv_at hl 2 rfl) ?_
        refine lv_icmp_ge (tgt := 80) hx hb dX9_build_73 (by decide) (fun c_6 => ?_) (fun c_6 => ?_)
        · try rw [if_pos c_6] at hok
          refine lv_iconst (v := 0) hx hb dX9_build_80 (by decide) ?_
          refine lv_istore_n (lv' := [(3, .int 0), (0, .ref μ), (1, .int a1), (2, .int a2), (4, .int (nI k_4))]) hx hb dX9_build_81 rfl hl (by decide) rfl (fun ls hl => ?_)
          refine lv_iinc (v := nI (k_4 + 1)) (lv' := [(4, .int (nI (k_4 + 1))), (3, .int 0), (0, .ref μ), (1, .int a1), (2, .int a2)]) hx hb dX9_build_82 hl (k := 4) rfl (nI_1 _) (by decide) rfl (fun ls hl => ?_)
          refine lv_goto (tgt := 40) hx hb dX9_build_85 (by decide) ?_
          refine gm_q (Q2 := MQ below (gQi (lf_X9_build_40 a1 a2 Z K n 0 (k_4 + 1)).1 (MR D cy μ (lf_X9_build_40 a1 a2 Z K n 0 (k_4 + 1)).2) (MA μ)) args s 0 0 (MA μ)) (by simp only [lf_X9_build_40, ↓if_neg c_2, ↓if_neg c_4, ↓if_pos c_6]) ?_
          exact ih 0 (k_4 + 1) lt_3 hok (by omega) _ _ _ hR hS (lv_sub hl [2, 3, 4, 1, 0] rfl)
        · try rw [if_neg c_6] at hok
          refine lv_iconst (v := 1) hx hb dX9_build_76 (by decide) ?_
          refine lv_goto (tgt := 81) hx hb dX9_build_77 (by decide) ?_
          refine lv_istore_n (lv' := [(3, .int 1), (0, .ref μ), (1, .int a1), (2, .int a2), (4, .int (nI k_4))]) hx hb dX9_build_81 rfl hl (by decide) rfl (fun ls hl => ?_)
          refine lv_iinc (v := nI (k_4 + 1)) (lv' := [(4, .int (nI (k_4 + 1))), (3, .int 1), (0, .ref μ), (1, .int a1), (2, .int a2)]) hx hb dX9_build_82 hl (k := 4) rfl (nI_1 _) (by decide) rfl (fun ls hl => ?_)
          refine lv_goto (tgt := 40) hx hb dX9_build_85 (by decide) ?_
          refine gm_q (Q2 := MQ below (gQi (lf_X9_build_40 a1 a2 Z K n 1 (k_4 + 1)).1 (MR D cy μ (lf_X9_build_40 a1 a2 Z K n 1 (k_4 + 1)).2) (MA μ)) args s 0 0 (MA μ)) (by simp only [lf_X9_build_40, ↓if_neg c_2, ↓if_neg c_4, ↓if_neg c_6]) ?_
          exact ih 1 (k_4 + 1) lt_3 hok (by omega) _ _ _ hR hS (lv_sub hl [2, 3, 4, 1, 0] rfl)
set_option maxHeartbeats 4000000 in
set_option maxRecDepth 100000 in
theorem c_X9_build (l : Launch) (D : va_G) (cy : Nat → ClassId) (μ : Nat) (X : gM) (a1 : Int32) (a2 : Int32)  (hok : ok_X9_build X a1 a2) : Met l yX9_build wsX9_build ({ frames := 2, cells := 0, slots := 0, locals := 46 }) (gP [.ref μ, .int a1, .int a2] D cy (MR D cy μ X)) (gQi (p_X9_build X a1 a2).1 (MR D cy μ (p_X9_build X a1 a2).2) (MA μ)) 0 0 (MA μ) := by
  refine gm_met (cc := cX9_build) (maxL := 5) (ret := (some .int)) [.ref μ, .int a1, .int a2] (by decide) rfl (Nat.le_of_ble_eq_true rfl) ?_
  intro p e s m args below meth c0 ls C hR hl
  obtain ⟨hx, hb, hr, hts, hown, hlocks, hml, hK⟩ := C
  have hl : lv_has ls 5 [(0, .ref μ), (1, .int a1), (2, .int a2)] := hl
  have hS : va_S (MA μ) s.heap s.heap [] := va_S.rf
  have lk7 := hts (.fieldLink RX9 7 "MercuryLineModel" "s" "[I") (by decide +kernel)
  have inX9 : ∀ w ∈ u_ws RX9 TX9 15, w ∈ wsX9_build := by decide +kernel
  unfold ok_X9_build at hok
  refine lv_iload_n hx hb dX9_build_0 rfl (lv_at hl 1 rfl) ?_
  refine gm_ci (gm_callS (As := [.int a1]) (rest := []) ⟨hx, hb, hml, hown, hts⟩ hK (c_X9_isLine l D cy a1) (va_cwS 1 hts gX9_build_X9_isLine rfl rfl rfl (by decide +kernel) ⟨Nat.le_of_ble_eq_true rfl, Nat.le_of_ble_eq_true rfl⟩) trivial rfl hl.1 rfl (Nat.le_of_ble_eq_true rfl) dX9_build_1 (Nat.zero_le _) (Nat.zero_le _)) hS (fun _ h => h.elim) (fun H locs _ _ hfr hS => ?_)
  have hR := gRep.keep hR hfr (fun _ _ h => h)
  refine lv_if_ne (tgt := 9) hx hb dX9_build_4 (by decide) (fun c_1 => ?_) (fun c_1 => ?_)
  · try rw [if_neg c_1] at hok
    refine lv_iload_n hx hb dX9_build_9 rfl (lv_at hl 2 rfl) ?_
    refine lv_iconst (v := 2) hx hb dX9_build_10 (by decide) ?_
    refine lv_bipush (v := 24) hx hb dX9_build_11 (by decide) ?_
    refine gm_ci (gm_callS (As := [.int a2, .int 2, .int 24]) (rest := []) ⟨hx, hb, hml, hown, hts⟩ hK (c_X9_in l D cy a2 2 24) (va_cwS 3 hts gX9_build_X9_in rfl rfl rfl (by decide +kernel) ⟨Nat.le_of_ble_eq_true rfl, Nat.le_of_ble_eq_true rfl⟩) trivial rfl hl.1 rfl (Nat.le_of_ble_eq_true rfl) dX9_build_13 (Nat.zero_le _) (Nat.zero_le _)) hS (fun _ h => h.elim) (fun H locs _ _ hfr hS => ?_)
    have hR := gRep.keep hR hfr (fun _ _ h => h)
    refine lv_if_ne (tgt := 22) hx hb dX9_build_16 (by decide) (fun c_2 => ?_) (fun c_2 => ?_)
    · try rw [if_neg c_2] at hok
      refine lv_aload_n hx hb dX9_build_22 rfl (lv_at hl 0 rfl) ?_
      refine lv_iload_n hx hb dX9_build_23 rfl (lv_at hl 1 rfl) ?_
      refine lv_iconst (v := 1) hx hb dX9_build_24 (by decide) ?_
      obtain ⟨h_3, hok⟩ := hok
      refine gm_ci (gm_call (As := [.int a1, .int 1]) (rest := []) (ci := 9) (q := (RX9, TX9, 15)) ⟨hx, hb, hml, hown, hts⟩ hK (c_X9_on l D cy μ X a1 1 h_3) (cwV 2 hts gX9_build_X9_on rfl rfl rfl (by decide +kernel) ⟨Nat.le_of_ble_eq_true rfl, Nat.le_of_ble_eq_true rfl⟩) (MR.mk0 hR) rfl hR rfl hl.1 rfl (Nat.le_of_ble_eq_true rfl) dX9_build_25 (Nat.zero_le _) (Nat.zero_le _)) hS (fun _ h => h.elim) (fun H locs _ _ hfr hS => ?_)
      have hR := gRep.keep hR hfr (fun _ _ h => h)
      refine lv_if_ne (tgt := 35) hx hb dX9_build_28 (by decide) (fun c_4 => ?_) (fun c_4 => ?_)
      · try rw [if_neg c_4] at hok
        refine lv_iconst (v := 0) hx hb dX9_build_35 (by decide) ?_
        refine lv_istore_n (lv' := [(3, .int 0), (0, .ref μ), (1, .int a1), (2, .int a2)]) hx hb dX9_build_36 rfl hl (by decide) rfl (fun ls hl => ?_)
        refine lv_iconst (v := 0) hx hb dX9_build_37 (by decide) ?_
        refine lv_istore (lv' := [(4, .int 0), (3, .int 0), (0, .ref μ), (1, .int a1), (2, .int a2)]) hx hb dX9_build_38 hl (by decide) rfl (fun ls hl => ?_)
        refine gm_q (Q2 := MQ below (gQi (lf_X9_build_40 a1 a2 X (fun x_3w5 k_4w5 =>
              if x_3w5 = 0 then
                ((-4), X)
              else
                if f_X9_ofLine X a1 0 = a2 then
                  ((-5), X)
                else
                  let X1 := p_X9_records X
                  let X2 := updM X1 1 (((10 + (8 * a1)) + 0).toNatClampNeg) a2
                  let X3 := updM X2 1 (((10 + (8 * a1)) + 1).toNatClampNeg) 0
                  let X4 := updM X3 1 (((10 + (8 * a1)) + 2).toNatClampNeg) 0
                  (f_X9_ofLine X a1 0, X4)) 2147483648 0 0).1 (MR D cy μ (lf_X9_build_40 a1 a2 X (fun x_3w5 k_4w5 =>
              if x_3w5 = 0 then
                ((-4), X)
              else
                if f_X9_ofLine X a1 0 = a2 then
                  ((-5), X)
                else
                  let X1 := p_X9_records X
                  let X2 := updM X1 1 (((10 + (8 * a1)) + 0).toNatClampNeg) a2
                  let X3 := updM X2 1 (((10 + (8 * a1)) + 1).toNatClampNeg) 0
                  let X4 := updM X3 1 (((10 + (8 * a1)) + 2).toNatClampNeg) 0
                  (f_X9_ofLine X a1 0, X4)) 2147483648 0 0).2) (MA μ)) args s 0 0 (MA μ)) (by simp only [p_X9_build, ↓if_neg c_1, ↓if_neg c_2, ↓if_neg c_4]) ?_
        refine lp_X9_build_40 ⟨hx, hb, hr, hts, hown, hlocks, hml, hK⟩ μ a1 a2 X  _ _ (fun x_3w5 k_4w5 hbk_4w5 hok H locs ls hR hS hl => ?_) 2147483648 0 0 (by decide) hok (by omega) _ _ _ hR hS (lv_sub hl [2, 3, 4, 1, 0] rfl)
        refine lv_iload_n hx hb dX9_build_88 rfl (lv_at hl 3 rfl) ?_
        refine lv_if_ne (tgt := 95) hx hb dX9_build_89 (by decide) (fun c_6 => ?_) (fun c_6 => ?_)
        · try rw [if_neg c_6] at hok
          refine lv_aload_n hx hb dX9_build_95 rfl (lv_at hl 0 rfl) ?_
          refine lv_iload_n hx hb dX9_build_96 rfl (lv_at hl 1 rfl) ?_
          refine lv_iconst (v := 0) hx hb dX9_build_97 (by decide) ?_
          obtain ⟨h_7, hok⟩ := hok
          refine gm_ci (gm_call (As := [.int a1, .int 0]) (rest := []) (ci := 9) (q := (RX9, TX9, 15)) ⟨hx, hb, hml, hown, hts⟩ hK (c_X9_ofLine l D cy μ X a1 0 h_7) (cwV 2 hts gX9_build_X9_ofLine rfl rfl rfl (by decide +kernel) ⟨Nat.le_of_ble_eq_true rfl, Nat.le_of_ble_eq_true rfl⟩) (MR.mk0 hR) rfl hR rfl hl.1 rfl (Nat.le_of_ble_eq_true rfl) dX9_build_98 (Nat.zero_le _) (Nat.zero_le _)) hS (fun _ h => h.elim) (fun H locs _ _ hfr hS => ?_)
          have hR := gRep.keep hR hfr (fun _ _ h => h)
          refine lv_istore (lv' := [(4, .int (f_X9_ofLine X a1 0)), (0, .ref μ), (1, .int a1), (2, .int a2), (3, .int x_3w5)]) hx hb dX9_build_101 hl (by decide) rfl (fun ls hl => ?_)
          refine lv_iload hx hb dX9_build_103 (lv_at hl 0 rfl) ?_
          refine lv_iload_n hx hb dX9_build_105 rfl (lv_at hl 3 rfl) ?_
          refine lv_icmp_ne (tgt := 112) hx hb dX9_build_106 (by decide) (fun c_8 => ?_) (fun c_8 => ?_)
          · try rw [if_neg c_8] at hok
            refine lv_aload_n hx hb dX9_build_112 rfl (lv_at hl 1 rfl) ?_
            obtain ⟨h_9, hok⟩ := hok
            refine gm_cv (gm_call (As := []) (rest := []) (ci := 9) (q := (RX9, TX9, 15)) ⟨hx, hb, hml, hown, hts⟩ hK (c_X9_records l D cy μ X h_9) (cwV 0 hts gX9_build_X9_records rfl rfl rfl (by decide +kernel) ⟨Nat.le_of_ble_eq_true rfl, Nat.le_of_ble_eq_true rfl⟩) (MR.mk0 hR) rfl hR rfl hl.1 rfl (Nat.le_of_ble_eq_true rfl) dX9_build_113 (Nat.zero_le _) (Nat.zero_le _)) hS (fun _ h => h) (fun H locs hR _ _ hS => ?_)
            obtain ⟨X1, eX1⟩ : ∃ Y : gM, Y = p_X9_records X := ⟨_, rfl⟩
            rw [← eX1] at hR
            try replace hok := hok X1 eX1
            refine lv_aload_n hx hb dX9_build_116 rfl (lv_at hl 1 rfl) ?_
            refine va_get (D := D) (ci := 9) (v := .ref (μ + 1)) (C := RX9) (T := TX9) (N := 15) hx hb hts inX9 hown hK.1 (MR.mk0 hR) 0 rfl rfl 0 (by decide) lk7 (fun _ h9 => h9) rfl dX9_build_117 ?_
            refine lv_bipush (v := 10) hx hb dX9_build_120 (by decide) ?_
            refine lv_bipush (v := 8) hx hb dX9_build_122 (by decide) ?_
            refine lv_iload_n hx hb dX9_build_124 rfl (lv_at hl 2 rfl) ?_
            refine lv_imul hx hb dX9_build_125 ?_
            refine lv_iadd hx hb dX9_build_126 ?_
            refine lv_iconst (v := 0) hx hb dX9_build_127 (by decide) ?_
            refine lv_iadd hx hb dX9_build_128 ?_
            refine lv_iload_n hx hb dX9_build_129 rfl (lv_at hl 3 rfl) ?_
            obtain ⟨h_10, hok⟩ := hok
            refine gm_iast hx hb hK.1 hR injM hS (a := 1) (by decide) rfl (fun r => bM_1) h_10 dX9_build_130 (fun H locs hR hS => ?_)
            obtain ⟨X2, eX2⟩ : ∃ Y : gM, Y = updM X1 1 (((10 + (8 * a1)) + 0).toNatClampNeg) a2 := ⟨_, rfl⟩
            rw [← eX2] at hR
            try replace hok := hok X2 eX2
            refine lv_aload_n hx hb dX9_build_131 rfl (lv_at hl 1 rfl) ?_
            refine va_get (D := D) (ci := 9) (v := .ref (μ + 1)) (C := RX9) (T := TX9) (N := 15) hx hb hts inX9 hown hK.1 (MR.mk0 hR) 0 rfl rfl 0 (by decide) lk7 (fun _ h9 => h9) rfl dX9_build_132 ?_
            refine lv_bipush (v := 10) hx hb dX9_build_135 (by decide) ?_
            refine lv_bipush (v := 8) hx hb dX9_build_137 (by decide) ?_
            refine lv_iload_n hx hb dX9_build_139 rfl (lv_at hl 2 rfl) ?_
            refine lv_imul hx hb dX9_build_140 ?_
            refine lv_iadd hx hb dX9_build_141 ?_
            refine lv_iconst (v := 1) hx hb dX9_build_142 (by decide) ?_
            refine lv_iadd hx hb dX9_build_143 ?_
            refine lv_iconst (v := 0) hx hb dX9_build_144 (by decide) ?_
            obtain ⟨h_11, hok⟩ := hok
            refine gm_iast hx hb hK.1 hR injM hS (a := 1) (by decide) rfl (fun r => bM_1) h_11 dX9_build_145 (fun H locs hR hS => ?_)
            obtain ⟨X3, eX3⟩ : ∃ Y : gM, Y = updM X2 1 (((10 + (8 * a1)) + 1).toNatClampNeg) 0 := ⟨_, rfl⟩
            rw [← eX3] at hR
            try replace hok := hok X3 eX3
            refine lv_aload_n hx hb dX9_build_146 rfl (lv_at hl 1 rfl) ?_
            refine va_get (D := D) (ci := 9) (v := .ref (μ + 1)) (C := RX9) (T := TX9) (N := 15) hx hb hts inX9 hown hK.1 (MR.mk0 hR) 0 rfl rfl 0 (by decide) lk7 (fun _ h9 => h9) rfl dX9_build_147 ?_
            refine lv_bipush (v := 10) hx hb dX9_build_150 (by decide) ?_
            refine lv_bipush (v := 8) hx hb dX9_build_152 (by decide) ?_
            refine lv_iload_n hx hb dX9_build_154 rfl (lv_at hl 2 rfl) ?_
            refine lv_imul hx hb dX9_build_155 ?_
            refine lv_iadd hx hb dX9_build_156 ?_
            refine lv_iconst (v := 2) hx hb dX9_build_157 (by decide) ?_
            refine lv_iadd hx hb dX9_build_158 ?_
            refine lv_iconst (v := 0) hx hb dX9_build_159 (by decide) ?_
            obtain ⟨h_12, hok⟩ := hok
            refine gm_iast hx hb hK.1 hR injM hS (a := 1) (by decide) rfl (fun r => bM_1) h_12 dX9_build_160 (fun H locs hR hS => ?_)
            obtain ⟨X4, eX4⟩ : ∃ Y : gM, Y = updM X3 1 (((10 + (8 * a1)) + 2).toNatClampNeg) 0 := ⟨_, rfl⟩
            rw [← eX4] at hR
            try replace hok := hok X4 eX4
            refine lv_iload hx hb dX9_build_161 (lv_at hl 0 rfl) ?_
            exact gm_iret hx hb hr hlocks hS (by (try simp only [p_X9_build, ↓if_neg c_1, ↓if_neg c_2, ↓if_neg c_4, ↓if_neg c_6, ↓if_neg c_8, ← eX1, ← eX2, ← eX3, ← eX4]); (try rfl)) (by (try simp only [p_X9_build, ↓if_neg c_1, ↓if_neg c_2, ↓if_neg c_4, ↓if_neg c_6, ↓if_neg c_8, ← eX1, ← eX2, ← eX3, ← eX4]); exact hR) dX9_build_163
          · try rw [if_pos c_8] at hok
            refine lv_bipush (v := (-5)) hx hb dX9_build_109 (by decide) ?_
            exact gm_iret hx hb hr hlocks hS (by (try simp only [p_X9_build, ↓if_neg c_1, ↓if_neg c_2, ↓if_neg c_4, ↓if_neg c_6, ↓if_pos c_8]); (try rfl)) (by (try simp only [p_X9_build, ↓if_neg c_1, ↓if_neg c_2, ↓if_neg c_4, ↓if_neg c_6, ↓if_pos c_8]); exact hR) dX9_build_111
        · try rw [if_pos c_6] at hok
          refine lv_bipush (v := (-4)) hx hb dX9_build_92 (by decide) ?_
          exact gm_iret hx hb hr hlocks hS (by (try simp only [p_X9_build, ↓if_neg c_1, ↓if_neg c_2, ↓if_neg c_4, ↓if_pos c_6]); (try rfl)) (by (try simp only [p_X9_build, ↓if_neg c_1, ↓if_neg c_2, ↓if_neg c_4, ↓if_pos c_6]); exact hR) dX9_build_94
      · try rw [if_pos c_4] at hok
        refine lv_iconst (v := 1) hx hb dX9_build_31 (by decide) ?_
        refine lv_goto (tgt := 36) hx hb dX9_build_32 (by decide) ?_
        refine lv_istore_n (lv' := [(3, .int 1), (0, .ref μ), (1, .int a1), (2, .int a2)]) hx hb dX9_build_36 rfl hl (by decide) rfl (fun ls hl => ?_)
        refine lv_iconst (v := 0) hx hb dX9_build_37 (by decide) ?_
        refine lv_istore (lv' := [(4, .int 0), (3, .int 1), (0, .ref μ), (1, .int a1), (2, .int a2)]) hx hb dX9_build_38 hl (by decide) rfl (fun ls hl => ?_)
        refine gm_q (Q2 := MQ below (gQi (lf_X9_build_40 a1 a2 X (fun x_3w13 k_4w13 =>
              if x_3w13 = 0 then
                ((-4), X)
              else
                if f_X9_ofLine X a1 0 = a2 then
                  ((-5), X)
                else
                  let X5 := p_X9_records X
                  let X6 := updM X5 1 (((10 + (8 * a1)) + 0).toNatClampNeg) a2
                  let X7 := updM X6 1 (((10 + (8 * a1)) + 1).toNatClampNeg) 0
                  let X8 := updM X7 1 (((10 + (8 * a1)) + 2).toNatClampNeg) 0
                  (f_X9_ofLine X a1 0, X8)) 2147483648 1 0).1 (MR D cy μ (lf_X9_build_40 a1 a2 X (fun x_3w13 k_4w13 =>
              if x_3w13 = 0 then
                ((-4), X)
              else
                if f_X9_ofLine X a1 0 = a2 then
                  ((-5), X)
                else
                  let X5 := p_X9_records X
                  let X6 := updM X5 1 (((10 + (8 * a1)) + 0).toNatClampNeg) a2
                  let X7 := updM X6 1 (((10 + (8 * a1)) + 1).toNatClampNeg) 0
                  let X8 := updM X7 1 (((10 + (8 * a1)) + 2).toNatClampNeg) 0
                  (f_X9_ofLine X a1 0, X8)) 2147483648 1 0).2) (MA μ)) args s 0 0 (MA μ)) (by simp only [p_X9_build, ↓if_neg c_1, ↓if_neg c_2, ↓if_pos c_4]) ?_
        refine lp_X9_build_40 ⟨hx, hb, hr, hts, hown, hlocks, hml, hK⟩ μ a1 a2 X  _ _ (fun x_3w13 k_4w13 hbk_4w13 hok H locs ls hR hS hl => ?_) 2147483648 1 0 (by decide) hok (by omega) _ _ _ hR hS (lv_sub hl [2, 3, 4, 1, 0] rfl)
        refine lv_iload_n hx hb dX9_build_88 rfl (lv_at hl 3 rfl) ?_
        refine lv_if_ne (tgt := 95) hx hb dX9_build_89 (by decide) (fun c_14 => ?_) (fun c_14 => ?_)
        · try rw [if_neg c_14] at hok
          refine lv_aload_n hx hb dX9_build_95 rfl (lv_at hl 0 rfl) ?_
          refine lv_iload_n hx hb dX9_build_96 rfl (lv_at hl 1 rfl) ?_
          refine lv_iconst (v := 0) hx hb dX9_build_97 (by decide) ?_
          obtain ⟨h_15, hok⟩ := hok
          refine gm_ci (gm_call (As := [.int a1, .int 0]) (rest := []) (ci := 9) (q := (RX9, TX9, 15)) ⟨hx, hb, hml, hown, hts⟩ hK (c_X9_ofLine l D cy μ X a1 0 h_15) (cwV 2 hts gX9_build_X9_ofLine rfl rfl rfl (by decide +kernel) ⟨Nat.le_of_ble_eq_true rfl, Nat.le_of_ble_eq_true rfl⟩) (MR.mk0 hR) rfl hR rfl hl.1 rfl (Nat.le_of_ble_eq_true rfl) dX9_build_98 (Nat.zero_le _) (Nat.zero_le _)) hS (fun _ h => h.elim) (fun H locs _ _ hfr hS => ?_)
          have hR := gRep.keep hR hfr (fun _ _ h => h)
          refine lv_istore (lv' := [(4, .int (f_X9_ofLine X a1 0)), (0, .ref μ), (1, .int a1), (2, .int a2), (3, .int x_3w13)]) hx hb dX9_build_101 hl (by decide) rfl (fun ls hl => ?_)
          refine lv_iload hx hb dX9_build_103 (lv_at hl 0 rfl) ?_
          refine lv_iload_n hx hb dX9_build_105 rfl (lv_at hl 3 rfl) ?_
          refine lv_icmp_ne (tgt := 112) hx hb dX9_build_106 (by decide) (fun c_16 => ?_) (fun c_16 => ?_)
          · try rw [if_neg c_16] at hok
            refine lv_aload_n hx hb dX9_build_112 rfl (lv_at hl 1 rfl) ?_
            obtain ⟨h_17, hok⟩ := hok
            refine gm_cv (gm_call (As := []) (rest := []) (ci := 9) (q := (RX9, TX9, 15)) ⟨hx, hb, hml, hown, hts⟩ hK (c_X9_records l D cy μ X h_17) (cwV 0 hts gX9_build_X9_records rfl rfl rfl (by decide +kernel) ⟨Nat.le_of_ble_eq_true rfl, Nat.le_of_ble_eq_true rfl⟩) (MR.mk0 hR) rfl hR rfl hl.1 rfl (Nat.le_of_ble_eq_true rfl) dX9_build_113 (Nat.zero_le _) (Nat.zero_le _)) hS (fun _ h => h) (fun H locs hR _ _ hS => ?_)
            obtain ⟨X5, eX5⟩ : ∃ Y : gM, Y = p_X9_records X := ⟨_, rfl⟩
            rw [← eX5] at hR
            try replace hok := hok X5 eX5
            refine lv_aload_n hx hb dX9_build_116 rfl (lv_at hl 1 rfl) ?_
            refine va_get (D := D) (ci := 9) (v := .ref (μ + 1)) (C := RX9) (T := TX9) (N := 15) hx hb hts inX9 hown hK.1 (MR.mk0 hR) 0 rfl rfl 0 (by decide) lk7 (fun _ h9 => h9) rfl dX9_build_117 ?_
            refine lv_bipush (v := 10) hx hb dX9_build_120 (by decide) ?_
            refine lv_bipush (v := 8) hx hb dX9_build_122 (by decide) ?_
            refine lv_iload_n hx hb dX9_build_124 rfl (lv_at hl 2 rfl) ?_
            refine lv_imul hx hb dX9_build_125 ?_
            refine lv_iadd hx hb dX9_build_126 ?_
            refine lv_iconst (v := 0) hx hb dX9_build_127 (by decide) ?_
            refine lv_iadd hx hb dX9_build_128 ?_
            refine lv_iload_n hx hb dX9_build_129 rfl (lv_at hl 3 rfl) ?_
            obtain ⟨h_18, hok⟩ := hok
            refine gm_iast hx hb hK.1 hR injM hS (a := 1) (by decide) rfl (fun r => bM_1) h_18 dX9_build_130 (fun H locs hR hS => ?_)
            obtain ⟨X6, eX6⟩ : ∃ Y : gM, Y = updM X5 1 (((10 + (8 * a1)) + 0).toNatClampNeg) a2 := ⟨_, rfl⟩
            rw [← eX6] at hR
            try replace hok := hok X6 eX6
            refine lv_aload_n hx hb dX9_build_131 rfl (lv_at hl 1 rfl) ?_
            refine va_get (D := D) (ci := 9) (v := .ref (μ + 1)) (C := RX9) (T := TX9) (N := 15) hx hb hts inX9 hown hK.1 (MR.mk0 hR) 0 rfl rfl 0 (by decide) lk7 (fun _ h9 => h9) rfl dX9_build_132 ?_
            refine lv_bipush (v := 10) hx hb dX9_build_135 (by decide) ?_
            refine lv_bipush (v := 8) hx hb dX9_build_137 (by decide) ?_
            refine lv_iload_n hx hb dX9_build_139 rfl (lv_at hl 2 rfl) ?_
            refine lv_imul hx hb dX9_build_140 ?_
            refine lv_iadd hx hb dX9_build_141 ?_
            refine lv_iconst (v := 1) hx hb dX9_build_142 (by decide) ?_
            refine lv_iadd hx hb dX9_build_143 ?_
            refine lv_iconst (v := 0) hx hb dX9_build_144 (by decide) ?_
            obtain ⟨h_19, hok⟩ := hok
            refine gm_iast hx hb hK.1 hR injM hS (a := 1) (by decide) rfl (fun r => bM_1) h_19 dX9_build_145 (fun H locs hR hS => ?_)
            obtain ⟨X7, eX7⟩ : ∃ Y : gM, Y = updM X6 1 (((10 + (8 * a1)) + 1).toNatClampNeg) 0 := ⟨_, rfl⟩
            rw [← eX7] at hR
            try replace hok := hok X7 eX7
            refine lv_aload_n hx hb dX9_build_146 rfl (lv_at hl 1 rfl) ?_
            refine va_get (D := D) (ci := 9) (v := .ref (μ + 1)) (C := RX9) (T := TX9) (N := 15) hx hb hts inX9 hown hK.1 (MR.mk0 hR) 0 rfl rfl 0 (by decide) lk7 (fun _ h9 => h9) rfl dX9_build_147 ?_
            refine lv_bipush (v := 10) hx hb dX9_build_150 (by decide) ?_
            refine lv_bipush (v := 8) hx hb dX9_build_152 (by decide) ?_
            refine lv_iload_n hx hb dX9_build_154 rfl (lv_at hl 2 rfl) ?_
            refine lv_imul hx hb dX9_build_155 ?_
            refine lv_iadd hx hb dX9_build_156 ?_
            refine lv_iconst (v := 2) hx hb dX9_build_157 (by decide) ?_
            refine lv_iadd hx hb dX9_build_158 ?_
            refine lv_iconst (v := 0) hx hb dX9_build_159 (by decide) ?_
            obtain ⟨h_20, hok⟩ := hok
            refine gm_iast hx hb hK.1 hR injM hS (a := 1) (by decide) rfl (fun r => bM_1) h_20 dX9_build_160 (fun H locs hR hS => ?_)
            obtain ⟨X8, eX8⟩ : ∃ Y : gM, Y = updM X7 1 (((10 + (8 * a1)) + 2).toNatClampNeg) 0 := ⟨_, rfl⟩
            rw [← eX8] at hR
            try replace hok := hok X8 eX8
            refine lv_iload hx hb dX9_build_161 (lv_at hl 0 rfl) ?_
            exact gm_iret hx hb hr hlocks hS (by (try simp only [p_X9_build, ↓if_neg c_1, ↓if_neg c_2, ↓if_pos c_4, ↓if_neg c_14, ↓if_neg c_16, ← eX5, ← eX6, ← eX7, ← eX8]); (try rfl)) (by (try simp only [p_X9_build, ↓if_neg c_1, ↓if_neg c_2, ↓if_pos c_4, ↓if_neg c_14, ↓if_neg c_16, ← eX5, ← eX6, ← eX7, ← eX8]); exact hR) dX9_build_163
          · try rw [if_pos c_16] at hok
            refine lv_bipush (v := (-5)) hx hb dX9_build_109 (by decide) ?_
            exact gm_iret hx hb hr hlocks hS (by (try simp only [p_X9_build, ↓if_neg c_1, ↓if_neg c_2, ↓if_pos c_4, ↓if_neg c_14, ↓if_pos c_16]); (try rfl)) (by (try simp only [p_X9_build, ↓if_neg c_1, ↓if_neg c_2, ↓if_pos c_4, ↓if_neg c_14, ↓if_pos c_16]); exact hR) dX9_build_111
        · try rw [if_pos c_14] at hok
          refine lv_bipush (v := (-4)) hx hb dX9_build_92 (by decide) ?_
          exact gm_iret hx hb hr hlocks hS (by (try simp only [p_X9_build, ↓if_neg c_1, ↓if_neg c_2, ↓if_pos c_4, ↓if_pos c_14]); (try rfl)) (by (try simp only [p_X9_build, ↓if_neg c_1, ↓if_neg c_2, ↓if_pos c_4, ↓if_pos c_14]); exact hR) dX9_build_94
    · try rw [if_pos c_2] at hok
      refine lv_bipush (v := (-2)) hx hb dX9_build_19 (by decide) ?_
      exact gm_iret hx hb hr hlocks hS (by (try simp only [p_X9_build, ↓if_neg c_1, ↓if_pos c_2]); (try rfl)) (by (try simp only [p_X9_build, ↓if_neg c_1, ↓if_pos c_2]); exact hR) dX9_build_21
  · try rw [if_pos c_1] at hok
    refine lv_iconst (v := (-1)) hx hb dX9_build_7 (by decide) ?_
    exact gm_iret hx hb hr hlocks hS (by (try simp only [p_X9_build, ↓if_pos c_1]); (try rfl)) (by (try simp only [p_X9_build, ↓if_pos c_1]); exact hR) dX9_build_8
def lf_X9_addStation_38 (a1 : Int32) (a2 : Int32) (Z : gM) (y_3 : Int32) (K : (Nat) → (Int32 × gM)) : Nat → (Nat) → (Int32 × gM)
  | 0, k_4 => K k_4
  | n + 1, k_4 =>
    if y_3 ≤ nI k_4 then
      K k_4
    else
      if Z 1 (((f_X9_stationAt ((10 * a1) + (nI k_4))) + 0).toNatClampNeg) = a2 then
        ((-4), Z)
      else
        lf_X9_addStation_38 a1 a2 Z y_3 K n (k_4 + 1)
def lok_X9_addStation_38 (a1 : Int32) (a2 : Int32) (Z : gM) (y_3 : Int32) (KO : (Nat) → Prop) : Nat → (Nat) → Prop
  | 0, k_4 => True
  | n + 1, k_4 =>
    (if y_3 ≤ nI k_4 then
      KO k_4
    else
      (vp_in ((f_X9_stationAt ((10 * a1) + (nI k_4))) + 0) 974) ∧
      (if Z 1 (((f_X9_stationAt ((10 * a1) + (nI k_4))) + 0).toNatClampNeg) = a2 then
        True
      else
        lok_X9_addStation_38 a1 a2 Z y_3 KO n (k_4 + 1)))
def lf_X9_addStation_101 (a1 : Int32) (a2 : Int32) (y_3 : Int32) (y_4 : Int32) (K : (gM) → (Nat) → (Int32 × gM)) : Nat → (gM) → (Nat) → (Int32 × gM)
  | 0, Z, k_5 => K Z k_5
  | n + 1, Z, k_5 =>
    if 10 ≤ nI k_5 then
      K Z k_5
    else
      let X1 := updM Z 1 ((y_4 + (nI k_5)).toNatClampNeg) 0
      lf_X9_addStation_101 a1 a2 y_3 y_4 K n X1 (k_5 + 1)
def lok_X9_addStation_101 (a1 : Int32) (a2 : Int32) (y_3 : Int32) (y_4 : Int32) (KO : (gM) → (Nat) → Prop) : Nat → (gM) → (Nat) → Prop
  | 0, Z, k_5 => True
  | n + 1, Z, k_5 =>
    (if 10 ≤ nI k_5 then
      KO Z k_5
    else
      (vp_in (y_4 + (nI k_5)) 974) ∧
      ∀ X1 : gM, X1 = updM Z 1 ((y_4 + (nI k_5)).toNatClampNeg) 0 →
      lok_X9_addStation_101 a1 a2 y_3 y_4 KO n X1 (k_5 + 1))
def p_X9_addStation (X : gM) (a1 : Int32) (a2 : Int32) : Int32 × gM :=
  if f_X9_isLine a1 = 0 then
    ((-1), X)
  else
    if f_X9_in a2 0 ((f_X9_ofLine X a1 0) - 1) = 0 then
      ((-2), X)
    else
      lf_X9_addStation_38 a1 a2 X (f_X9_ofLine X a1 4) (fun k_4w5 =>
            if f_X9_ofLine X a1 4 = 6 then
              ((-3), X)
            else
              let X1 := p_X9_records X
              lf_X9_addStation_101 a1 a2 (f_X9_ofLine X a1 4) (f_X9_stationAt ((10 * a1) + (f_X9_ofLine X a1 4))) (fun X2 k_5w8 =>
              let X3 := updM X2 1 (((f_X9_stationAt ((10 * a1) + (f_X9_ofLine X a1 4))) + 0).toNatClampNeg) a2
              let X4 := updM X3 1 (((10 + (8 * a1)) + 4).toNatClampNeg) ((X3 1 (((10 + (8 * a1)) + 4).toNatClampNeg)) + 1)
              (f_X9_ofLine X a1 4, X4)) 2147483648 X1 0) 2147483648 0
def ok_X9_addStation (X : gM) (a1 : Int32) (a2 : Int32) : Prop :=
  (if f_X9_isLine a1 = 0 then
    True
  else
    (ok_X9_ofLine X a1 0) ∧
    (if f_X9_in a2 0 ((f_X9_ofLine X a1 0) - 1) = 0 then
      True
    else
      (ok_X9_ofLine X a1 4) ∧
      lok_X9_addStation_38 a1 a2 X (f_X9_ofLine X a1 4) (fun k_4w5 =>
            (if f_X9_ofLine X a1 4 = 6 then
              True
            else
              (ok_X9_records X) ∧
              ∀ X1 : gM, X1 = p_X9_records X →
              lok_X9_addStation_101 a1 a2 (f_X9_ofLine X a1 4) (f_X9_stationAt ((10 * a1) + (f_X9_ofLine X a1 4))) (fun X2 k_5w8 =>
              (vp_in ((f_X9_stationAt ((10 * a1) + (f_X9_ofLine X a1 4))) + 0) 974) ∧
              ∀ X3 : gM, X3 = updM X2 1 (((f_X9_stationAt ((10 * a1) + (f_X9_ofLine X a1 4))) + 0).toNatClampNeg) a2 →
              (vp_in ((10 + (8 * a1)) + 4) 974) ∧
              (vp_in ((10 + (8 * a1)) + 4) 974) ∧
              True) 2147483648 X1 0)) 2147483648 0))
set_option maxHeartbeats 4000000 in
set_option maxRecDepth 100000 in
theorem lp_X9_addStation_38 {p : Program} {l : Launch} {e : Env} {s : State} {m : MethodId} {args : Array Value} {below : List Frame} {meth : Method} {c0 : Code} {D : va_G} {cy : Nat → ClassId} (C : gCtx cX9_addStation 6 (some .int) RX9 wsX9_addStation D cy p s m args meth c0) (μ : Nat) (a1 : Int32) (a2 : Int32) (Z : gM) (y_3 : Int32) 
    (KO : (Nat) → Prop) (K : (Nat) → (Int32 × gM)) (hexit : ∀ (k_4 : Nat), k_4 ≤ 2147483647 → KO k_4 → ∀ (H : Heap) (locs : List Loc) (ls : Array Slot), MR D cy μ Z H → va_S (MA μ) s.heap H locs → lv_has ls 6 [(0, .ref μ), (1, .int a1), (2, .int a2), (3, .int y_3), (4, .int (nI k_4))] → W p l e { frames := 2, cells := 0, slots := 0, locals := 42 } s m args below meth c0 H locs 0 0 (MQ below (gQi (K k_4).1 (MR D cy μ (K k_4).2) (MA μ)) args s 0 0 (MA μ)) (F0 m 74 ls [])) :
    ∀ (n : Nat) (k_4 : Nat), k_4 ≤ 2147483647 → lok_X9_addStation_38 a1 a2 Z y_3 KO n k_4 → 2147483647 < k_4 + n → ∀ (H : Heap) (locs : List Loc) (ls : Array Slot), MR D cy μ Z H → va_S (MA μ) s.heap H locs → lv_has ls 6 [(0, .ref μ), (1, .int a1), (2, .int a2), (3, .int y_3), (4, .int (nI k_4))] → W p l e { frames := 2, cells := 0, slots := 0, locals := 42 } s m args below meth c0 H locs 0 0 (MQ below (gQi (lf_X9_addStation_38 a1 a2 Z y_3 K n k_4).1 (MR D cy μ (lf_X9_addStation_38 a1 a2 Z y_3 K n k_4).2) (MA μ)) args s 0 0 (MA μ)) (F0 m 38 ls []) := by
  obtain ⟨hx, hb, hr, hts, hown, hlocks, hml, hK⟩ := C
  have lk7 := hts (.fieldLink RX9 7 "MercuryLineModel" "s" "[I") (by decide +kernel)
  have inX9 : ∀ w ∈ u_ws RX9 TX9 15, w ∈ wsX9_addStation := by decide +kernel
  intro n
  induction n with
  | zero =>
    intro k_4 hb_4 hok hme
    exact absurd hme (by omega)
  | succ n ih =>
    intro k_4 hb_4 hok hme H locs ls hR hS hl
    unfold lok_X9_addStation_38 at hok
    refine lv_iload hx hb dX9_addStation_38 (lv_at hl 4 rfl) ?_
    refine lv_iload_n hx hb dX9_addStation_40 rfl (lv_at hl 3 rfl) ?_
    refine lv_icmp_ge (tgt := 74) hx hb dX9_addStation_41 (by decide) (fun c_1 => ?_) (fun c_1 => ?_)
    · try rw [if_pos c_1] at hok
      refine gm_q (Q2 := MQ below (gQi (K k_4).1 (MR D cy μ (K k_4).2) (MA μ)) args s 0 0 (MA μ)) (by simp only [lf_X9_addStation_38, ↓if_pos c_1]) ?_
      exact hexit k_4 hb_4 hok _ _ _ hR hS (lv_sub hl [0, 1, 2, 3, 4] rfl)
    · try rw [if_neg c_1] at hok
      have lt_2 : k_4 < 2147483647 := g_big (Nat.lt_of_le_of_lt hb_4 (by decide)) c_1
      refine lv_aload_n hx hb dX9_addStation_44 rfl (lv_at hl 0 rfl) ?_
      refine va_get (D := D) (ci := 9) (v := .ref (μ + 1)) (C := RX9) (T := TX9) (N := 15) hx hb hts inX9 hown hK.1 (MR.mk0 hR) 0 rfl rfl 0 (by decide) lk7 (fun _ h9 => h9) rfl dX9_addStation_45 ?_
      refine lv_bipush (v := 10) hx hb dX9_addStation_48 (by decide) ?_
      refine lv_iload_n hx hb dX9_addStation_50 rfl (lv_at hl 1 rfl) ?_
      refine lv_imul hx hb dX9_addStation_51 ?_
      refine lv_iload hx hb dX9_addStation_52 (lv_at hl 4 rfl) ?_
      refine lv_iadd hx hb dX9_addStation_54 ?_
      refine gm_ci (gm_callS (As := [.int ((10 * a1) + (nI k_4))]) (rest := [.ref (μ + 1)]) ⟨hx, hb, hml, hown, hts⟩ hK (c_X9_stationAt l D cy ((10 * a1) + (nI k_4))) (va_cwS 1 hts gX9_addStation_X9_stationAt rfl rfl rfl (by decide +kernel) ⟨Nat.le_of_ble_eq_true rfl, Nat.le_of_ble_eq_true rfl⟩) trivial rfl hl.1 rfl (Nat.le_of_ble_eq_true rfl) dX9_addStation_55 (Nat.zero_le _) (Nat.zero_le _)) hS (fun _ h => h.elim) (fun H locs _ _ hfr hS => ?_)
      have hR := gRep.keep hR hfr (fun _ _ h => h)
      refine lv_iconst (v := 0) hx hb dX9_addStation_58 (by decide) ?_
      refine lv_iadd hx hb dX9_addStation_59 ?_
      obtain ⟨h_3, hok⟩ := hok
      refine gm_iald hx hb hK.1 (MR.mk1 hR (c := 1) (by decide) bM_1) h_3 dX9_addStation_60 ?_
      refine lv_iload_n hx hb dX9_addStation_61 rfl (lv_at hl 2 rfl) ?_
      refine lv_icmp_ne (tgt := 68) hx hb dX9_addStation_62 (by decide) (fun c_4 => ?_) (fun c_4 => ?_)
      · try rw [if_neg c_4] at hok
        refine lv_iinc (v := nI (k_4 + 1)) (lv' := [(4, .int (nI (k_4 + 1))), (0, .ref μ), (1, .int a1), (2, .int a2), (3, .int y_3)]) hx hb dX9_addStation_68 hl (k := 4) rfl (nI_1 _) (by decide) rfl (fun ls hl => ?_)
        refine lv_goto (tgt := 38) hx hb dX9_addStation_71 (by decide) ?_
        refine gm_q (Q2 := MQ below (gQi (lf_X9_addStation_38 a1 a2 Z y_3 K n (k_4 + 1)).1 (MR D cy μ (lf_X9_addStation_38 a1 a2 Z y_3 K n (k_4 + 1)).2) (MA μ)) args s 0 0 (MA μ)) (by simp only [lf_X9_addStation_38, ↓if_neg c_1, ↓if_neg c_4]) ?_
        exact ih (k_4 + 1) lt_2 hok (by omega) _ _ _ hR hS (lv_sub hl [1, 2, 3, 4, 0] rfl)
      · try rw [if_pos c_4] at hok
        refine lv_bipush (v := (-4)) hx hb dX9_addStation_65 (by decide) ?_
        exact gm_iret hx hb hr hlocks hS (by (try simp only [lf_X9_addStation_38, ↓if_neg c_1, ↓if_pos c_4]); (try rfl)) (by (try simp only [lf_X9_addStation_38, ↓if_neg c_1, ↓if_pos c_4]); exact hR) dX9_addStation_67
set_option maxHeartbeats 4000000 in
set_option maxRecDepth 100000 in
theorem lp_X9_addStation_101 {p : Program} {l : Launch} {e : Env} {s : State} {m : MethodId} {args : Array Value} {below : List Frame} {meth : Method} {c0 : Code} {D : va_G} {cy : Nat → ClassId} (C : gCtx cX9_addStation 6 (some .int) RX9 wsX9_addStation D cy p s m args meth c0) (μ : Nat) (a1 : Int32) (a2 : Int32) (y_3 : Int32) (y_4 : Int32) 
    (KO : (gM) → (Nat) → Prop) (K : (gM) → (Nat) → (Int32 × gM)) (hexit : ∀ (Z : gM) (k_5 : Nat), k_5 ≤ 2147483647 → KO Z k_5 → ∀ (H : Heap) (locs : List Loc) (ls : Array Slot), MR D cy μ Z H → va_S (MA μ) s.heap H locs → lv_has ls 6 [(0, .ref μ), (1, .int a1), (2, .int a2), (3, .int y_3), (4, .int y_4), (5, .int (nI k_5))] → W p l e { frames := 2, cells := 0, slots := 0, locals := 42 } s m args below meth c0 H locs 0 0 (MQ below (gQi (K Z k_5).1 (MR D cy μ (K Z k_5).2) (MA μ)) args s 0 0 (MA μ)) (F0 m 125 ls [])) :
    ∀ (n : Nat) (Z : gM) (k_5 : Nat), k_5 ≤ 2147483647 → lok_X9_addStation_101 a1 a2 y_3 y_4 KO n Z k_5 → 2147483647 < k_5 + n → ∀ (H : Heap) (locs : List Loc) (ls : Array Slot), MR D cy μ Z H → va_S (MA μ) s.heap H locs → lv_has ls 6 [(0, .ref μ), (1, .int a1), (2, .int a2), (3, .int y_3), (4, .int y_4), (5, .int (nI k_5))] → W p l e { frames := 2, cells := 0, slots := 0, locals := 42 } s m args below meth c0 H locs 0 0 (MQ below (gQi (lf_X9_addStation_101 a1 a2 y_3 y_4 K n Z k_5).1 (MR D cy μ (lf_X9_addStation_101 a1 a2 y_3 y_4 K n Z k_5).2) (MA μ)) args s 0 0 (MA μ)) (F0 m 101 ls []) := by
  obtain ⟨hx, hb, hr, hts, hown, hlocks, hml, hK⟩ := C
  have lk7 := hts (.fieldLink RX9 7 "MercuryLineModel" "s" "[I") (by decide +kernel)
  have inX9 : ∀ w ∈ u_ws RX9 TX9 15, w ∈ wsX9_addStation := by decide +kernel
  intro n
  induction n with
  | zero =>
    intro Z k_5 hb_5 hok hme
    exact absurd hme (by omega)
  | succ n ih =>
    intro Z k_5 hb_5 hok hme H locs ls hR hS hl
    unfold lok_X9_addStation_101 at hok
    refine lv_iload hx hb dX9_addStation_101 (lv_at hl 5 rfl) ?_
    refine lv_bipush (v := 10) hx hb dX9_addStation_103 (by decide) ?_
    refine lv_icmp_ge (tgt := 125) hx hb dX9_addStation_105 (by decide) (fun c_1 => ?_) (fun c_1 => ?_)
    · try rw [if_pos c_1] at hok
      have ge_2 : 10 ≤ k_5 := g_ge2 (Nat.lt_of_le_of_lt hb_5 (by decide)) (by decide) c_1
      refine gm_q (Q2 := MQ below (gQi (K Z k_5).1 (MR D cy μ (K Z k_5).2) (MA μ)) args s 0 0 (MA μ)) (by simp only [lf_X9_addStation_101, ↓if_pos c_1]) ?_
      exact hexit Z k_5 hb_5 hok _ _ _ hR hS (lv_sub hl [0, 1, 2, 3, 4, 5] rfl)
    · try rw [if_neg c_1] at hok
      have lt_3 : k_5 < 10 := g_lt (Nat.lt_of_le_of_lt hb_5 (by decide)) (by decide) c_1
      refine lv_aload_n hx hb dX9_addStation_108 rfl (lv_at hl 0 rfl) ?_
      refine va_get (D := D) (ci := 9) (v := .ref (μ + 1)) (C := RX9) (T := TX9) (N := 15) hx hb hts inX9 hown hK.1 (MR.mk0 hR) 0 rfl rfl 0 (by decide) lk7 (fun _ h9 => h9) rfl dX9_addStation_109 ?_
      refine lv_iload hx hb dX9_addStation_112 (lv_at hl 4 rfl) ?_
      refine lv_iload hx hb dX9_addStation_114 (lv_at hl 5 rfl) ?_
      refine lv_iadd hx hb dX9_addStation_116 ?_
      refine lv_iconst (v := 0) hx hb dX9_addStation_117 (by decide) ?_
      obtain ⟨h_4, hok⟩ := hok
      refine gm_iast hx hb hK.1 hR injM hS (a := 1) (by decide) rfl (fun r => bM_1) h_4 dX9_addStation_118 (fun H locs hR hS => ?_)
      obtain ⟨X1, eX1⟩ : ∃ Y : gM, Y = updM Z 1 ((y_4 + (nI k_5)).toNatClampNeg) 0 := ⟨_, rfl⟩
      rw [← eX1] at hR
      try replace hok := hok X1 eX1
      refine lv_iinc (v := nI (k_5 + 1)) (lv' := [(5, .int (nI (k_5 + 1))), (0, .ref μ), (1, .int a1), (2, .int a2), (3, .int y_3), (4, .int y_4)]) hx hb dX9_addStation_119 hl (k := 5) rfl (nI_1 _) (by decide) rfl (fun ls hl => ?_)
      refine lv_goto (tgt := 101) hx hb dX9_addStation_122 (by decide) ?_
      refine gm_q (Q2 := MQ below (gQi (lf_X9_addStation_101 a1 a2 y_3 y_4 K n X1 (k_5 + 1)).1 (MR D cy μ (lf_X9_addStation_101 a1 a2 y_3 y_4 K n X1 (k_5 + 1)).2) (MA μ)) args s 0 0 (MA μ)) (by simp only [lf_X9_addStation_101, ↓if_neg c_1, ← eX1]) ?_
      exact ih X1 (k_5 + 1) (Nat.lt_of_lt_of_le lt_3 (by decide)) hok (by omega) _ _ _ hR hS (lv_sub hl [1, 2, 3, 4, 5, 0] rfl)
set_option maxHeartbeats 4000000 in
set_option maxRecDepth 100000 in
theorem c_X9_addStation (l : Launch) (D : va_G) (cy : Nat → ClassId) (μ : Nat) (X : gM) (a1 : Int32) (a2 : Int32)  (hok : ok_X9_addStation X a1 a2) : Met l yX9_addStation wsX9_addStation ({ frames := 2, cells := 0, slots := 0, locals := 42 }) (gP [.ref μ, .int a1, .int a2] D cy (MR D cy μ X)) (gQi (p_X9_addStation X a1 a2).1 (MR D cy μ (p_X9_addStation X a1 a2).2) (MA μ)) 0 0 (MA μ) := by
  refine gm_met (cc := cX9_addStation) (maxL := 6) (ret := (some .int)) [.ref μ, .int a1, .int a2] (by decide) rfl (Nat.le_of_ble_eq_true rfl) ?_
  intro p e s m args below meth c0 ls C hR hl
  obtain ⟨hx, hb, hr, hts, hown, hlocks, hml, hK⟩ := C
  have hl : lv_has ls 6 [(0, .ref μ), (1, .int a1), (2, .int a2)] := hl
  have hS : va_S (MA μ) s.heap s.heap [] := va_S.rf
  have lk7 := hts (.fieldLink RX9 7 "MercuryLineModel" "s" "[I") (by decide +kernel)
  have inX9 : ∀ w ∈ u_ws RX9 TX9 15, w ∈ wsX9_addStation := by decide +kernel
  unfold ok_X9_addStation at hok
  refine lv_iload_n hx hb dX9_addStation_0 rfl (lv_at hl 1 rfl) ?_
  refine gm_ci (gm_callS (As := [.int a1]) (rest := []) ⟨hx, hb, hml, hown, hts⟩ hK (c_X9_isLine l D cy a1) (va_cwS 1 hts gX9_addStation_X9_isLine rfl rfl rfl (by decide +kernel) ⟨Nat.le_of_ble_eq_true rfl, Nat.le_of_ble_eq_true rfl⟩) trivial rfl hl.1 rfl (Nat.le_of_ble_eq_true rfl) dX9_addStation_1 (Nat.zero_le _) (Nat.zero_le _)) hS (fun _ h => h.elim) (fun H locs _ _ hfr hS => ?_)
  have hR := gRep.keep hR hfr (fun _ _ h => h)
  refine lv_if_ne (tgt := 9) hx hb dX9_addStation_4 (by decide) (fun c_1 => ?_) (fun c_1 => ?_)
  · try rw [if_neg c_1] at hok
    refine lv_iload_n hx hb dX9_addStation_9 rfl (lv_at hl 2 rfl) ?_
    refine lv_iconst (v := 0) hx hb dX9_addStation_10 (by decide) ?_
    refine lv_aload_n hx hb dX9_addStation_11 rfl (lv_at hl 0 rfl) ?_
    refine lv_iload_n hx hb dX9_addStation_12 rfl (lv_at hl 1 rfl) ?_
    refine lv_iconst (v := 0) hx hb dX9_addStation_13 (by decide) ?_
    obtain ⟨h_2, hok⟩ := hok
    refine gm_ci (gm_call (As := [.int a1, .int 0]) (rest := [.int 0, .int a2]) (ci := 9) (q := (RX9, TX9, 15)) ⟨hx, hb, hml, hown, hts⟩ hK (c_X9_ofLine l D cy μ X a1 0 h_2) (cwV 2 hts gX9_addStation_X9_ofLine rfl rfl rfl (by decide +kernel) ⟨Nat.le_of_ble_eq_true rfl, Nat.le_of_ble_eq_true rfl⟩) (MR.mk0 hR) rfl hR rfl hl.1 rfl (Nat.le_of_ble_eq_true rfl) dX9_addStation_14 (Nat.zero_le _) (Nat.zero_le _)) hS (fun _ h => h.elim) (fun H locs _ _ hfr hS => ?_)
    have hR := gRep.keep hR hfr (fun _ _ h => h)
    refine lv_iconst (v := 1) hx hb dX9_addStation_17 (by decide) ?_
    refine lv_isub hx hb dX9_addStation_18 ?_
    refine gm_ci (gm_callS (As := [.int a2, .int 0, .int ((f_X9_ofLine X a1 0) - 1)]) (rest := []) ⟨hx, hb, hml, hown, hts⟩ hK (c_X9_in l D cy a2 0 ((f_X9_ofLine X a1 0) - 1)) (va_cwS 3 hts gX9_addStation_X9_in rfl rfl rfl (by decide +kernel) ⟨Nat.le_of_ble_eq_true rfl, Nat.le_of_ble_eq_true rfl⟩) trivial rfl hl.1 rfl (Nat.le_of_ble_eq_true rfl) dX9_addStation_19 (Nat.zero_le _) (Nat.zero_le _)) hS (fun _ h => h.elim) (fun H locs _ _ hfr hS => ?_)
    have hR := gRep.keep hR hfr (fun _ _ h => h)
    refine lv_if_ne (tgt := 28) hx hb dX9_addStation_22 (by decide) (fun c_3 => ?_) (fun c_3 => ?_)
    · try rw [if_neg c_3] at hok
      refine lv_aload_n hx hb dX9_addStation_28 rfl (lv_at hl 0 rfl) ?_
      refine lv_iload_n hx hb dX9_addStation_29 rfl (lv_at hl 1 rfl) ?_
      refine lv_iconst (v := 4) hx hb dX9_addStation_30 (by decide) ?_
      obtain ⟨h_4, hok⟩ := hok
      refine gm_ci (gm_call (As := [.int a1, .int 4]) (rest := []) (ci := 9) (q := (RX9, TX9, 15)) ⟨hx, hb, hml, hown, hts⟩ hK (c_X9_ofLine l D cy μ X a1 4 h_4) (cwV 2 hts gX9_addStation_X9_ofLine rfl rfl rfl (by decide +kernel) ⟨Nat.le_of_ble_eq_true rfl, Nat.le_of_ble_eq_true rfl⟩) (MR.mk0 hR) rfl hR rfl hl.1 rfl (Nat.le_of_ble_eq_true rfl) dX9_addStation_31 (Nat.zero_le _) (Nat.zero_le _)) hS (fun _ h => h.elim) (fun H locs _ _ hfr hS => ?_)
      have hR := gRep.keep hR hfr (fun _ _ h => h)
      refine lv_istore_n (lv' := [(3, .int (f_X9_ofLine X a1 4)), (0, .ref μ), (1, .int a1), (2, .int a2)]) hx hb dX9_addStation_34 rfl hl (by decide) rfl (fun ls hl => ?_)
      refine lv_iconst (v := 0) hx hb dX9_addStation_35 (by decide) ?_
      refine lv_istore (lv' := [(4, .int 0), (3, .int (f_X9_ofLine X a1 4)), (0, .ref μ), (1, .int a1), (2, .int a2)]) hx hb dX9_addStation_36 hl (by decide) rfl (fun ls hl => ?_)
      refine gm_q (Q2 := MQ below (gQi (lf_X9_addStation_38 a1 a2 X (f_X9_ofLine X a1 4) (fun k_4w5 =>
            if f_X9_ofLine X a1 4 = 6 then
              ((-3), X)
            else
              let X1 := p_X9_records X
              lf_X9_addStation_101 a1 a2 (f_X9_ofLine X a1 4) (f_X9_stationAt ((10 * a1) + (f_X9_ofLine X a1 4))) (fun X2 k_5w8 =>
              let X3 := updM X2 1 (((f_X9_stationAt ((10 * a1) + (f_X9_ofLine X a1 4))) + 0).toNatClampNeg) a2
              let X4 := updM X3 1 (((10 + (8 * a1)) + 4).toNatClampNeg) ((X3 1 (((10 + (8 * a1)) + 4).toNatClampNeg)) + 1)
              (f_X9_ofLine X a1 4, X4)) 2147483648 X1 0) 2147483648 0).1 (MR D cy μ (lf_X9_addStation_38 a1 a2 X (f_X9_ofLine X a1 4) (fun k_4w5 =>
            if f_X9_ofLine X a1 4 = 6 then
              ((-3), X)
            else
              let X1 := p_X9_records X
              lf_X9_addStation_101 a1 a2 (f_X9_ofLine X a1 4) (f_X9_stationAt ((10 * a1) + (f_X9_ofLine X a1 4))) (fun X2 k_5w8 =>
              let X3 := updM X2 1 (((f_X9_stationAt ((10 * a1) + (f_X9_ofLine X a1 4))) + 0).toNatClampNeg) a2
              let X4 := updM X3 1 (((10 + (8 * a1)) + 4).toNatClampNeg) ((X3 1 (((10 + (8 * a1)) + 4).toNatClampNeg)) + 1)
              (f_X9_ofLine X a1 4, X4)) 2147483648 X1 0) 2147483648 0).2) (MA μ)) args s 0 0 (MA μ)) (by simp only [p_X9_addStation, ↓if_neg c_1, ↓if_neg c_3]) ?_
      refine lp_X9_addStation_38 ⟨hx, hb, hr, hts, hown, hlocks, hml, hK⟩ μ a1 a2 X (f_X9_ofLine X a1 4)  _ _ (fun k_4w5 hbk_4w5 hok H locs ls hR hS hl => ?_) 2147483648 0 (by decide) hok (by omega) _ _ _ hR hS (lv_sub hl [2, 3, 4, 1, 0] rfl)
      refine lv_iload_n hx hb dX9_addStation_74 rfl (lv_at hl 3 rfl) ?_
      refine lv_bipush (v := 6) hx hb dX9_addStation_75 (by decide) ?_
      refine lv_icmp_ne (tgt := 83) hx hb dX9_addStation_77 (by decide) (fun c_6 => ?_) (fun c_6 => ?_)
      · try rw [if_neg c_6] at hok
        refine lv_aload_n hx hb dX9_addStation_83 rfl (lv_at hl 0 rfl) ?_
        obtain ⟨h_7, hok⟩ := hok
        refine gm_cv (gm_call (As := []) (rest := []) (ci := 9) (q := (RX9, TX9, 15)) ⟨hx, hb, hml, hown, hts⟩ hK (c_X9_records l D cy μ X h_7) (cwV 0 hts gX9_addStation_X9_records rfl rfl rfl (by decide +kernel) ⟨Nat.le_of_ble_eq_true rfl, Nat.le_of_ble_eq_true rfl⟩) (MR.mk0 hR) rfl hR rfl hl.1 rfl (Nat.le_of_ble_eq_true rfl) dX9_addStation_84 (Nat.zero_le _) (Nat.zero_le _)) hS (fun _ h => h) (fun H locs hR _ _ hS => ?_)
        obtain ⟨X1, eX1⟩ : ∃ Y : gM, Y = p_X9_records X := ⟨_, rfl⟩
        rw [← eX1] at hR
        try replace hok := hok X1 eX1
        refine lv_bipush (v := 10) hx hb dX9_addStation_87 (by decide) ?_
        refine lv_iload_n hx hb dX9_addStation_89 rfl (lv_at hl 1 rfl) ?_
        refine lv_imul hx hb dX9_addStation_90 ?_
        refine lv_iload_n hx hb dX9_addStation_91 rfl (lv_at hl 3 rfl) ?_
        refine lv_iadd hx hb dX9_addStation_92 ?_
        refine gm_ci (gm_callS (As := [.int ((10 * a1) + (f_X9_ofLine X a1 4))]) (rest := []) ⟨hx, hb, hml, hown, hts⟩ hK (c_X9_stationAt l D cy ((10 * a1) + (f_X9_ofLine X a1 4))) (va_cwS 1 hts gX9_addStation_X9_stationAt rfl rfl rfl (by decide +kernel) ⟨Nat.le_of_ble_eq_true rfl, Nat.le_of_ble_eq_true rfl⟩) trivial rfl hl.1 rfl (Nat.le_of_ble_eq_true rfl) dX9_addStation_93 (Nat.zero_le _) (Nat.zero_le _)) hS (fun _ h => h.elim) (fun H locs _ _ hfr hS => ?_)
        have hR := gRep.keep hR hfr (fun _ _ h => h)
        refine lv_istore (lv' := [(4, .int (f_X9_stationAt ((10 * a1) + (f_X9_ofLine X a1 4)))), (0, .ref μ), (1, .int a1), (2, .int a2), (3, .int (f_X9_ofLine X a1 4))]) hx hb dX9_addStation_96 hl (by decide) rfl (fun ls hl => ?_)
        refine lv_iconst (v := 0) hx hb dX9_addStation_98 (by decide) ?_
        refine lv_istore (lv' := [(5, .int 0), (4, .int (f_X9_stationAt ((10 * a1) + (f_X9_ofLine X a1 4)))), (0, .ref μ), (1, .int a1), (2, .int a2), (3, .int (f_X9_ofLine X a1 4))]) hx hb dX9_addStation_99 hl (by decide) rfl (fun ls hl => ?_)
        refine gm_q (Q2 := MQ below (gQi (lf_X9_addStation_101 a1 a2 (f_X9_ofLine X a1 4) (f_X9_stationAt ((10 * a1) + (f_X9_ofLine X a1 4))) (fun X2 k_5w8 =>
              let X3 := updM X2 1 (((f_X9_stationAt ((10 * a1) + (f_X9_ofLine X a1 4))) + 0).toNatClampNeg) a2
              let X4 := updM X3 1 (((10 + (8 * a1)) + 4).toNatClampNeg) ((X3 1 (((10 + (8 * a1)) + 4).toNatClampNeg)) + 1)
              (f_X9_ofLine X a1 4, X4)) 2147483648 X1 0).1 (MR D cy μ (lf_X9_addStation_101 a1 a2 (f_X9_ofLine X a1 4) (f_X9_stationAt ((10 * a1) + (f_X9_ofLine X a1 4))) (fun X2 k_5w8 =>
              let X3 := updM X2 1 (((f_X9_stationAt ((10 * a1) + (f_X9_ofLine X a1 4))) + 0).toNatClampNeg) a2
              let X4 := updM X3 1 (((10 + (8 * a1)) + 4).toNatClampNeg) ((X3 1 (((10 + (8 * a1)) + 4).toNatClampNeg)) + 1)
              (f_X9_ofLine X a1 4, X4)) 2147483648 X1 0).2) (MA μ)) args s 0 0 (MA μ)) (by simp only [p_X9_addStation, ↓if_neg c_1, ↓if_neg c_3, ↓if_neg c_6, ← eX1]) ?_
        refine lp_X9_addStation_101 ⟨hx, hb, hr, hts, hown, hlocks, hml, hK⟩ μ a1 a2 (f_X9_ofLine X a1 4) (f_X9_stationAt ((10 * a1) + (f_X9_ofLine X a1 4)))  _ _ (fun X2 k_5w8 hbk_5w8 hok H locs ls hR hS hl => ?_) 2147483648 X1 0 (by decide) hok (by omega) _ _ _ hR hS (lv_sub hl [2, 3, 4, 5, 1, 0] rfl)
        refine lv_aload_n hx hb dX9_addStation_125 rfl (lv_at hl 0 rfl) ?_
        refine va_get (D := D) (ci := 9) (v := .ref (μ + 1)) (C := RX9) (T := TX9) (N := 15) hx hb hts inX9 hown hK.1 (MR.mk0 hR) 0 rfl rfl 0 (by decide) lk7 (fun _ h9 => h9) rfl dX9_addStation_126 ?_
        refine lv_iload hx hb dX9_addStation_129 (lv_at hl 4 rfl) ?_
        refine lv_iconst (v := 0) hx hb dX9_addStation_131 (by decide) ?_
        refine lv_iadd hx hb dX9_addStation_132 ?_
        refine lv_iload_n hx hb dX9_addStation_133 rfl (lv_at hl 2 rfl) ?_
        obtain ⟨h_9, hok⟩ := hok
        refine gm_iast hx hb hK.1 hR injM hS (a := 1) (by decide) rfl (fun r => bM_1) h_9 dX9_addStation_134 (fun H locs hR hS => ?_)
        obtain ⟨X3, eX3⟩ : ∃ Y : gM, Y = updM X2 1 (((f_X9_stationAt ((10 * a1) + (f_X9_ofLine X a1 4))) + 0).toNatClampNeg) a2 := ⟨_, rfl⟩
        rw [← eX3] at hR
        try replace hok := hok X3 eX3
        refine lv_aload_n hx hb dX9_addStation_135 rfl (lv_at hl 0 rfl) ?_
        refine va_get (D := D) (ci := 9) (v := .ref (μ + 1)) (C := RX9) (T := TX9) (N := 15) hx hb hts inX9 hown hK.1 (MR.mk0 hR) 0 rfl rfl 0 (by decide) lk7 (fun _ h9 => h9) rfl dX9_addStation_136 ?_
        refine lv_bipush (v := 10) hx hb dX9_addStation_139 (by decide) ?_
        refine lv_bipush (v := 8) hx hb dX9_addStation_141 (by decide) ?_
        refine lv_iload_n hx hb dX9_addStation_143 rfl (lv_at hl 1 rfl) ?_
        refine lv_imul hx hb dX9_addStation_144 ?_
        refine lv_iadd hx hb dX9_addStation_145 ?_
        refine lv_iconst (v := 4) hx hb dX9_addStation_146 (by decide) ?_
        refine lv_iadd hx hb dX9_addStation_147 ?_
        refine lv_dup2_11 hx hb dX9_addStation_148 rfl rfl ?_
        obtain ⟨h_10, hok⟩ := hok
        refine gm_iald hx hb hK.1 (MR.mk1 hR (c := 1) (by decide) bM_1) h_10 dX9_addStation_149 ?_
        refine lv_iconst (v := 1) hx hb dX9_addStation_150 (by decide) ?_
        refine lv_iadd hx hb dX9_addStation_151 ?_
        obtain ⟨h_11, hok⟩ := hok
        refine gm_iast hx hb hK.1 hR injM hS (a := 1) (by decide) rfl (fun r => bM_1) h_11 dX9_addStation_152 (fun H locs hR hS => ?_)
        obtain ⟨X4, eX4⟩ : ∃ Y : gM, Y = updM X3 1 (((10 + (8 * a1)) + 4).toNatClampNeg) ((X3 1 (((10 + (8 * a1)) + 4).toNatClampNeg)) + 1) := ⟨_, rfl⟩
        rw [← eX4] at hR
        try replace hok := hok X4 eX4
        refine lv_iload_n hx hb dX9_addStation_153 rfl (lv_at hl 3 rfl) ?_
        exact gm_iret hx hb hr hlocks hS (by (try simp only [p_X9_addStation, ↓if_neg c_1, ↓if_neg c_3, ↓if_neg c_6, ← eX1, ← eX3, ← eX4]); (try rfl)) (by (try simp only [p_X9_addStation, ↓if_neg c_1, ↓if_neg c_3, ↓if_neg c_6, ← eX1, ← eX3, ← eX4]); exact hR) dX9_addStation_154
      · try rw [if_pos c_6] at hok
        refine lv_bipush (v := (-3)) hx hb dX9_addStation_80 (by decide) ?_
        exact gm_iret hx hb hr hlocks hS (by (try simp only [p_X9_addStation, ↓if_neg c_1, ↓if_neg c_3, ↓if_pos c_6]); (try rfl)) (by (try simp only [p_X9_addStation, ↓if_neg c_1, ↓if_neg c_3, ↓if_pos c_6]); exact hR) dX9_addStation_82
    · try rw [if_pos c_3] at hok
      refine lv_bipush (v := (-2)) hx hb dX9_addStation_25 (by decide) ?_
      exact gm_iret hx hb hr hlocks hS (by (try simp only [p_X9_addStation, ↓if_neg c_1, ↓if_pos c_3]); (try rfl)) (by (try simp only [p_X9_addStation, ↓if_neg c_1, ↓if_pos c_3]); exact hR) dX9_addStation_27
  · try rw [if_pos c_1] at hok
    refine lv_iconst (v := (-1)) hx hb dX9_addStation_7 (by decide) ?_
    exact gm_iret hx hb hr hlocks hS (by (try simp only [p_X9_addStation, ↓if_pos c_1]); (try rfl)) (by (try simp only [p_X9_addStation, ↓if_pos c_1]); exact hR) dX9_addStation_8
def p_X9_setHeat (X : gM) (a1 : Int32) (a2 : Int32) : Int32 × gM :=
  if f_X9_isLine a1 = 0 then
    ((-1), X)
  else
    if f_X9_in a2 (-10) 10 = 0 then
      ((-2), X)
    else
      if a2 - (f_X9_ofLine X a1 3) = 0 then
        ((-5), X)
      else
        let X1 := p_X9_records X
        let X2 := updM X1 1 (((10 + (8 * a1)) + 3).toNatClampNeg) a2
        if 0 ≤ a2 - (f_X9_ofLine X a1 3) then
          (a2 - (f_X9_ofLine X a1 3), X2)
        else
          (-(a2 - (f_X9_ofLine X a1 3)), X2)
def ok_X9_setHeat (X : gM) (a1 : Int32) (a2 : Int32) : Prop :=
  (if f_X9_isLine a1 = 0 then
    True
  else
    (if f_X9_in a2 (-10) 10 = 0 then
      True
    else
      (ok_X9_ofLine X a1 3) ∧
      (if a2 - (f_X9_ofLine X a1 3) = 0 then
        True
      else
        (ok_X9_records X) ∧
        ∀ X1 : gM, X1 = p_X9_records X →
        (vp_in ((10 + (8 * a1)) + 3) 974) ∧
        True)))
set_option maxHeartbeats 4000000 in
set_option maxRecDepth 100000 in
theorem c_X9_setHeat (l : Launch) (D : va_G) (cy : Nat → ClassId) (μ : Nat) (X : gM) (a1 : Int32) (a2 : Int32)  (hok : ok_X9_setHeat X a1 a2) : Met l yX9_setHeat wsX9_setHeat ({ frames := 2, cells := 0, slots := 0, locals := 42 }) (gP [.ref μ, .int a1, .int a2] D cy (MR D cy μ X)) (gQi (p_X9_setHeat X a1 a2).1 (MR D cy μ (p_X9_setHeat X a1 a2).2) (MA μ)) 0 0 (MA μ) := by
  refine gm_met (cc := cX9_setHeat) (maxL := 4) (ret := (some .int)) [.ref μ, .int a1, .int a2] (by decide) rfl (Nat.le_of_ble_eq_true rfl) ?_
  intro p e s m args below meth c0 ls C hR hl
  obtain ⟨hx, hb, hr, hts, hown, hlocks, hml, hK⟩ := C
  have hl : lv_has ls 4 [(0, .ref μ), (1, .int a1), (2, .int a2)] := hl
  have hS : va_S (MA μ) s.heap s.heap [] := va_S.rf
  have lk7 := hts (.fieldLink RX9 7 "MercuryLineModel" "s" "[I") (by decide +kernel)
  have inX9 : ∀ w ∈ u_ws RX9 TX9 15, w ∈ wsX9_setHeat := by decide +kernel
  unfold ok_X9_setHeat at hok
  refine lv_iload_n hx hb dX9_setHeat_0 rfl (lv_at hl 1 rfl) ?_
  refine gm_ci (gm_callS (As := [.int a1]) (rest := []) ⟨hx, hb, hml, hown, hts⟩ hK (c_X9_isLine l D cy a1) (va_cwS 1 hts gX9_setHeat_X9_isLine rfl rfl rfl (by decide +kernel) ⟨Nat.le_of_ble_eq_true rfl, Nat.le_of_ble_eq_true rfl⟩) trivial rfl hl.1 rfl (Nat.le_of_ble_eq_true rfl) dX9_setHeat_1 (Nat.zero_le _) (Nat.zero_le _)) hS (fun _ h => h.elim) (fun H locs _ _ hfr hS => ?_)
  have hR := gRep.keep hR hfr (fun _ _ h => h)
  refine lv_if_ne (tgt := 9) hx hb dX9_setHeat_4 (by decide) (fun c_1 => ?_) (fun c_1 => ?_)
  · try rw [if_neg c_1] at hok
    refine lv_iload_n hx hb dX9_setHeat_9 rfl (lv_at hl 2 rfl) ?_
    refine lv_bipush (v := (-10)) hx hb dX9_setHeat_10 (by decide) ?_
    refine lv_bipush (v := 10) hx hb dX9_setHeat_12 (by decide) ?_
    refine gm_ci (gm_callS (As := [.int a2, .int (-10), .int 10]) (rest := []) ⟨hx, hb, hml, hown, hts⟩ hK (c_X9_in l D cy a2 (-10) 10) (va_cwS 3 hts gX9_setHeat_X9_in rfl rfl rfl (by decide +kernel) ⟨Nat.le_of_ble_eq_true rfl, Nat.le_of_ble_eq_true rfl⟩) trivial rfl hl.1 rfl (Nat.le_of_ble_eq_true rfl) dX9_setHeat_14 (Nat.zero_le _) (Nat.zero_le _)) hS (fun _ h => h.elim) (fun H locs _ _ hfr hS => ?_)
    have hR := gRep.keep hR hfr (fun _ _ h => h)
    refine lv_if_ne (tgt := 23) hx hb dX9_setHeat_17 (by decide) (fun c_2 => ?_) (fun c_2 => ?_)
    · try rw [if_neg c_2] at hok
      refine lv_iload_n hx hb dX9_setHeat_23 rfl (lv_at hl 2 rfl) ?_
      refine lv_aload_n hx hb dX9_setHeat_24 rfl (lv_at hl 0 rfl) ?_
      refine lv_iload_n hx hb dX9_setHeat_25 rfl (lv_at hl 1 rfl) ?_
      refine lv_iconst (v := 3) hx hb dX9_setHeat_26 (by decide) ?_
      obtain ⟨h_3, hok⟩ := hok
      refine gm_ci (gm_call (As := [.int a1, .int 3]) (rest := [.int a2]) (ci := 9) (q := (RX9, TX9, 15)) ⟨hx, hb, hml, hown, hts⟩ hK (c_X9_ofLine l D cy μ X a1 3 h_3) (cwV 2 hts gX9_setHeat_X9_ofLine rfl rfl rfl (by decide +kernel) ⟨Nat.le_of_ble_eq_true rfl, Nat.le_of_ble_eq_true rfl⟩) (MR.mk0 hR) rfl hR rfl hl.1 rfl (Nat.le_of_ble_eq_true rfl) dX9_setHeat_27 (Nat.zero_le _) (Nat.zero_le _)) hS (fun _ h => h.elim) (fun H locs _ _ hfr hS => ?_)
      have hR := gRep.keep hR hfr (fun _ _ h => h)
      refine lv_isub hx hb dX9_setHeat_30 ?_
      refine lv_istore_n (lv' := [(3, .int (a2 - (f_X9_ofLine X a1 3))), (0, .ref μ), (1, .int a1), (2, .int a2)]) hx hb dX9_setHeat_31 rfl hl (by decide) rfl (fun ls hl => ?_)
      refine lv_iload_n hx hb dX9_setHeat_32 rfl (lv_at hl 0 rfl) ?_
      refine lv_if_ne (tgt := 39) hx hb dX9_setHeat_33 (by decide) (fun c_4 => ?_) (fun c_4 => ?_)
      · try rw [if_neg c_4] at hok
        refine lv_aload_n hx hb dX9_setHeat_39 rfl (lv_at hl 1 rfl) ?_
        obtain ⟨h_5, hok⟩ := hok
        refine gm_cv (gm_call (As := []) (rest := []) (ci := 9) (q := (RX9, TX9, 15)) ⟨hx, hb, hml, hown, hts⟩ hK (c_X9_records l D cy μ X h_5) (cwV 0 hts gX9_setHeat_X9_records rfl rfl rfl (by decide +kernel) ⟨Nat.le_of_ble_eq_true rfl, Nat.le_of_ble_eq_true rfl⟩) (MR.mk0 hR) rfl hR rfl hl.1 rfl (Nat.le_of_ble_eq_true rfl) dX9_setHeat_40 (Nat.zero_le _) (Nat.zero_le _)) hS (fun _ h => h) (fun H locs hR _ _ hS => ?_)
        obtain ⟨X1, eX1⟩ : ∃ Y : gM, Y = p_X9_records X := ⟨_, rfl⟩
        rw [← eX1] at hR
        try replace hok := hok X1 eX1
        refine lv_aload_n hx hb dX9_setHeat_43 rfl (lv_at hl 1 rfl) ?_
        refine va_get (D := D) (ci := 9) (v := .ref (μ + 1)) (C := RX9) (T := TX9) (N := 15) hx hb hts inX9 hown hK.1 (MR.mk0 hR) 0 rfl rfl 0 (by decide) lk7 (fun _ h9 => h9) rfl dX9_setHeat_44 ?_
        refine lv_bipush (v := 10) hx hb dX9_setHeat_47 (by decide) ?_
        refine lv_bipush (v := 8) hx hb dX9_setHeat_49 (by decide) ?_
        refine lv_iload_n hx hb dX9_setHeat_51 rfl (lv_at hl 2 rfl) ?_
        refine lv_imul hx hb dX9_setHeat_52 ?_
        refine lv_iadd hx hb dX9_setHeat_53 ?_
        refine lv_iconst (v := 3) hx hb dX9_setHeat_54 (by decide) ?_
        refine lv_iadd hx hb dX9_setHeat_55 ?_
        refine lv_iload_n hx hb dX9_setHeat_56 rfl (lv_at hl 3 rfl) ?_
        obtain ⟨h_6, hok⟩ := hok
        refine gm_iast hx hb hK.1 hR injM hS (a := 1) (by decide) rfl (fun r => bM_1) h_6 dX9_setHeat_57 (fun H locs hR hS => ?_)
        obtain ⟨X2, eX2⟩ : ∃ Y : gM, Y = updM X1 1 (((10 + (8 * a1)) + 3).toNatClampNeg) a2 := ⟨_, rfl⟩
        rw [← eX2] at hR
        try replace hok := hok X2 eX2
        refine lv_iload_n hx hb dX9_setHeat_58 rfl (lv_at hl 0 rfl) ?_
        refine lv_if_ge (tgt := 67) hx hb dX9_setHeat_59 (by decide) (fun c_7 => ?_) (fun c_7 => ?_)
        · try rw [if_pos c_7] at hok
          refine lv_iload_n hx hb dX9_setHeat_67 rfl (lv_at hl 0 rfl) ?_
          exact gm_iret hx hb hr hlocks hS (by (try simp only [p_X9_setHeat, ↓if_neg c_1, ↓if_neg c_2, ↓if_neg c_4, ↓if_pos c_7, ← eX1, ← eX2]); (try rfl)) (by (try simp only [p_X9_setHeat, ↓if_neg c_1, ↓if_neg c_2, ↓if_neg c_4, ↓if_pos c_7, ← eX1, ← eX2]); exact hR) dX9_setHeat_68
        · try rw [if_neg c_7] at hok
          refine lv_iload_n hx hb dX9_setHeat_62 rfl (lv_at hl 0 rfl) ?_
          refine lv_ineg hx hb dX9_setHeat_63 ?_
          refine lv_goto (tgt := 68) hx hb dX9_setHeat_64 (by decide) ?_
          exact gm_iret hx hb hr hlocks hS (by (try simp only [p_X9_setHeat, ↓if_neg c_1, ↓if_neg c_2, ↓if_neg c_4, ↓if_neg c_7, ← eX1, ← eX2]); (try rfl)) (by (try simp only [p_X9_setHeat, ↓if_neg c_1, ↓if_neg c_2, ↓if_neg c_4, ↓if_neg c_7, ← eX1, ← eX2]); exact hR) dX9_setHeat_68
      · try rw [if_pos c_4] at hok
        refine lv_bipush (v := (-5)) hx hb dX9_setHeat_36 (by decide) ?_
        exact gm_iret hx hb hr hlocks hS (by (try simp only [p_X9_setHeat, ↓if_neg c_1, ↓if_neg c_2, ↓if_pos c_4]); (try rfl)) (by (try simp only [p_X9_setHeat, ↓if_neg c_1, ↓if_neg c_2, ↓if_pos c_4]); exact hR) dX9_setHeat_38
    · try rw [if_pos c_2] at hok
      refine lv_bipush (v := (-2)) hx hb dX9_setHeat_20 (by decide) ?_
      exact gm_iret hx hb hr hlocks hS (by (try simp only [p_X9_setHeat, ↓if_neg c_1, ↓if_pos c_2]); (try rfl)) (by (try simp only [p_X9_setHeat, ↓if_neg c_1, ↓if_pos c_2]); exact hR) dX9_setHeat_22
  · try rw [if_pos c_1] at hok
    refine lv_iconst (v := (-1)) hx hb dX9_setHeat_7 (by decide) ?_
    exact gm_iret hx hb hr hlocks hS (by (try simp only [p_X9_setHeat, ↓if_pos c_1]); (try rfl)) (by (try simp only [p_X9_setHeat, ↓if_pos c_1]); exact hR) dX9_setHeat_8
def p_X9_sets (X : gM) (a1 : Int32) (a2 : Int32) : Int32 × gM :=
  if X 1 a1.toNatClampNeg = a2 then
    ((-5), X)
  else
    let X1 := p_X9_records X
    let X2 := updM X1 1 a1.toNatClampNeg a2
    (X 1 a1.toNatClampNeg, X2)
def ok_X9_sets (X : gM) (a1 : Int32) (a2 : Int32) : Prop :=
  (vp_in (a1) 974) ∧
  (if X 1 a1.toNatClampNeg = a2 then
    True
  else
    (ok_X9_records X) ∧
    ∀ X1 : gM, X1 = p_X9_records X →
    (vp_in (a1) 974) ∧
    True)
set_option maxHeartbeats 4000000 in
set_option maxRecDepth 100000 in
theorem c_X9_sets (l : Launch) (D : va_G) (cy : Nat → ClassId) (μ : Nat) (X : gM) (a1 : Int32) (a2 : Int32)  (hok : ok_X9_sets X a1 a2) : Met l yX9_sets wsX9_sets ({ frames := 1, cells := 0, slots := 0, locals := 21 }) (gP [.ref μ, .int a1, .int a2] D cy (MR D cy μ X)) (gQi (p_X9_sets X a1 a2).1 (MR D cy μ (p_X9_sets X a1 a2).2) (MA μ)) 0 0 (MA μ) := by
  refine gm_met (cc := cX9_sets) (maxL := 4) (ret := (some .int)) [.ref μ, .int a1, .int a2] (by decide) rfl (Nat.le_of_ble_eq_true rfl) ?_
  intro p e s m args below meth c0 ls C hR hl
  obtain ⟨hx, hb, hr, hts, hown, hlocks, hml, hK⟩ := C
  have hl : lv_has ls 4 [(0, .ref μ), (1, .int a1), (2, .int a2)] := hl
  have hS : va_S (MA μ) s.heap s.heap [] := va_S.rf
  have lk7 := hts (.fieldLink RX9 7 "MercuryLineModel" "s" "[I") (by decide +kernel)
  have inX9 : ∀ w ∈ u_ws RX9 TX9 15, w ∈ wsX9_sets := by decide +kernel
  unfold ok_X9_sets at hok
  refine lv_aload_n hx hb dX9_sets_0 rfl (lv_at hl 0 rfl) ?_
  refine va_get (D := D) (ci := 9) (v := .ref (μ + 1)) (C := RX9) (T := TX9) (N := 15) hx hb hts inX9 hown hK.1 (MR.mk0 hR) 0 rfl rfl 0 (by decide) lk7 (fun _ h9 => h9) rfl dX9_sets_1 ?_
  refine lv_iload_n hx hb dX9_sets_4 rfl (lv_at hl 1 rfl) ?_
  obtain ⟨h_1, hok⟩ := hok
  refine gm_iald hx hb hK.1 (MR.mk1 hR (c := 1) (by decide) bM_1) h_1 dX9_sets_5 ?_
  refine lv_istore_n (lv' := [(3, .int (X 1 a1.toNatClampNeg)), (0, .ref μ), (1, .int a1), (2, .int a2)]) hx hb dX9_sets_6 rfl hl (by decide) rfl (fun ls hl => ?_)
  refine lv_iload_n hx hb dX9_sets_7 rfl (lv_at hl 0 rfl) ?_
  refine lv_iload_n hx hb dX9_sets_8 rfl (lv_at hl 3 rfl) ?_
  refine lv_icmp_ne (tgt := 15) hx hb dX9_sets_9 (by decide) (fun c_2 => ?_) (fun c_2 => ?_)
  · try rw [if_neg c_2] at hok
    refine lv_aload_n hx hb dX9_sets_15 rfl (lv_at hl 1 rfl) ?_
    obtain ⟨h_3, hok⟩ := hok
    refine gm_cv (gm_call (As := []) (rest := []) (ci := 9) (q := (RX9, TX9, 15)) ⟨hx, hb, hml, hown, hts⟩ hK (c_X9_records l D cy μ X h_3) (cwV 0 hts gX9_sets_X9_records rfl rfl rfl (by decide +kernel) ⟨Nat.le_of_ble_eq_true rfl, Nat.le_of_ble_eq_true rfl⟩) (MR.mk0 hR) rfl hR rfl hl.1 rfl (Nat.le_of_ble_eq_true rfl) dX9_sets_16 (Nat.zero_le _) (Nat.zero_le _)) hS (fun _ h => h) (fun H locs hR _ _ hS => ?_)
    obtain ⟨X1, eX1⟩ : ∃ Y : gM, Y = p_X9_records X := ⟨_, rfl⟩
    rw [← eX1] at hR
    try replace hok := hok X1 eX1
    refine lv_aload_n hx hb dX9_sets_19 rfl (lv_at hl 1 rfl) ?_
    refine va_get (D := D) (ci := 9) (v := .ref (μ + 1)) (C := RX9) (T := TX9) (N := 15) hx hb hts inX9 hown hK.1 (MR.mk0 hR) 0 rfl rfl 0 (by decide) lk7 (fun _ h9 => h9) rfl dX9_sets_20 ?_
    refine lv_iload_n hx hb dX9_sets_23 rfl (lv_at hl 2 rfl) ?_
    refine lv_iload_n hx hb dX9_sets_24 rfl (lv_at hl 3 rfl) ?_
    obtain ⟨h_4, hok⟩ := hok
    refine gm_iast hx hb hK.1 hR injM hS (a := 1) (by decide) rfl (fun r => bM_1) h_4 dX9_sets_25 (fun H locs hR hS => ?_)
    obtain ⟨X2, eX2⟩ : ∃ Y : gM, Y = updM X1 1 a1.toNatClampNeg a2 := ⟨_, rfl⟩
    rw [← eX2] at hR
    try replace hok := hok X2 eX2
    refine lv_iload_n hx hb dX9_sets_26 rfl (lv_at hl 0 rfl) ?_
    exact gm_iret hx hb hr hlocks hS (by (try simp only [p_X9_sets, ↓if_neg c_2, ← eX1, ← eX2]); (try rfl)) (by (try simp only [p_X9_sets, ↓if_neg c_2, ← eX1, ← eX2]); exact hR) dX9_sets_27
  · try rw [if_pos c_2] at hok
    refine lv_bipush (v := (-5)) hx hb dX9_sets_12 (by decide) ?_
    exact gm_iret hx hb hr hlocks hS (by (try simp only [p_X9_sets, ↓if_pos c_2]); (try rfl)) (by (try simp only [p_X9_sets, ↓if_pos c_2]); exact hR) dX9_sets_14
def p_X9_setFare (X : gM) (a1 : Int32) : Int32 × gM :=
  if f_X9_in a1 1 99 = 0 then
    ((-2), X)
  else
    let X1 := (p_X9_sets X 6 a1).2
    ((p_X9_sets X 6 a1).1, X1)
def ok_X9_setFare (X : gM) (a1 : Int32) : Prop :=
  (if f_X9_in a1 1 99 = 0 then
    True
  else
    (ok_X9_sets X 6 a1) ∧
    True)
set_option maxHeartbeats 4000000 in
set_option maxRecDepth 100000 in
theorem c_X9_setFare (l : Launch) (D : va_G) (cy : Nat → ClassId) (μ : Nat) (X : gM) (a1 : Int32)  (hok : ok_X9_setFare X a1) : Met l yX9_setFare wsX9_setFare ({ frames := 2, cells := 0, slots := 0, locals := 44 }) (gP [.ref μ, .int a1] D cy (MR D cy μ X)) (gQi (p_X9_setFare X a1).1 (MR D cy μ (p_X9_setFare X a1).2) (MA μ)) 0 0 (MA μ) := by
  refine gm_met (cc := cX9_setFare) (maxL := 2) (ret := (some .int)) [.ref μ, .int a1] (by decide) rfl (Nat.le_of_ble_eq_true rfl) ?_
  intro p e s m args below meth c0 ls C hR hl
  obtain ⟨hx, hb, hr, hts, hown, hlocks, hml, hK⟩ := C
  have hl : lv_has ls 2 [(0, .ref μ), (1, .int a1)] := hl
  have hS : va_S (MA μ) s.heap s.heap [] := va_S.rf
  unfold ok_X9_setFare at hok
  refine lv_iload_n hx hb dX9_setFare_0 rfl (lv_at hl 1 rfl) ?_
  refine lv_iconst (v := 1) hx hb dX9_setFare_1 (by decide) ?_
  refine lv_bipush (v := 99) hx hb dX9_setFare_2 (by decide) ?_
  refine gm_ci (gm_callS (As := [.int a1, .int 1, .int 99]) (rest := []) ⟨hx, hb, hml, hown, hts⟩ hK (c_X9_in l D cy a1 1 99) (va_cwS 3 hts gX9_setFare_X9_in rfl rfl rfl (by decide +kernel) ⟨Nat.le_of_ble_eq_true rfl, Nat.le_of_ble_eq_true rfl⟩) trivial rfl hl.1 rfl (Nat.le_of_ble_eq_true rfl) dX9_setFare_4 (Nat.zero_le _) (Nat.zero_le _)) hS (fun _ h => h.elim) (fun H locs _ _ hfr hS => ?_)
  have hR := gRep.keep hR hfr (fun _ _ h => h)
  refine lv_if_eq (tgt := 20) hx hb dX9_setFare_7 (by decide) (fun c_1 => ?_) (fun c_1 => ?_)
  · try rw [if_pos c_1] at hok
    refine lv_bipush (v := (-2)) hx hb dX9_setFare_20 (by decide) ?_
    exact gm_iret hx hb hr hlocks hS (by (try simp only [p_X9_setFare, ↓if_pos c_1]); (try rfl)) (by (try simp only [p_X9_setFare, ↓if_pos c_1]); exact hR) dX9_setFare_22
  · try rw [if_neg c_1] at hok
    refine lv_aload_n hx hb dX9_setFare_10 rfl (lv_at hl 0 rfl) ?_
    refine lv_bipush (v := 6) hx hb dX9_setFare_11 (by decide) ?_
    refine lv_iload_n hx hb dX9_setFare_13 rfl (lv_at hl 1 rfl) ?_
    obtain ⟨h_2, hok⟩ := hok
    refine gm_ci (gm_call (As := [.int 6, .int a1]) (rest := []) (ci := 9) (q := (RX9, TX9, 15)) ⟨hx, hb, hml, hown, hts⟩ hK (c_X9_sets l D cy μ X 6 a1 h_2) (cwV 2 hts gX9_setFare_X9_sets rfl rfl rfl (by decide +kernel) ⟨Nat.le_of_ble_eq_true rfl, Nat.le_of_ble_eq_true rfl⟩) (MR.mk0 hR) rfl hR rfl hl.1 rfl (Nat.le_of_ble_eq_true rfl) dX9_setFare_14 (Nat.zero_le _) (Nat.zero_le _)) hS (fun _ h => h) (fun H locs hR _ _ hS => ?_)
    obtain ⟨X1, eX1⟩ : ∃ Y : gM, Y = (p_X9_sets X 6 a1).2 := ⟨_, rfl⟩
    rw [← eX1] at hR
    try replace hok := hok X1 eX1
    refine lv_goto (tgt := 22) hx hb dX9_setFare_17 (by decide) ?_
    exact gm_iret hx hb hr hlocks hS (by (try simp only [p_X9_setFare, ↓if_neg c_1, ← eX1]); (try rfl)) (by (try simp only [p_X9_setFare, ↓if_neg c_1, ← eX1]); exact hR) dX9_setFare_22
def p_X9_setPatience (X : gM) (a1 : Int32) : Int32 × gM :=
  if f_X9_in a1 0 50 = 0 then
    ((-2), X)
  else
    let X1 := (p_X9_sets X 7 a1).2
    ((p_X9_sets X 7 a1).1, X1)
def ok_X9_setPatience (X : gM) (a1 : Int32) : Prop :=
  (if f_X9_in a1 0 50 = 0 then
    True
  else
    (ok_X9_sets X 7 a1) ∧
    True)
set_option maxHeartbeats 4000000 in
set_option maxRecDepth 100000 in
theorem c_X9_setPatience (l : Launch) (D : va_G) (cy : Nat → ClassId) (μ : Nat) (X : gM) (a1 : Int32)  (hok : ok_X9_setPatience X a1) : Met l yX9_setPatience wsX9_setPatience ({ frames := 2, cells := 0, slots := 0, locals := 44 }) (gP [.ref μ, .int a1] D cy (MR D cy μ X)) (gQi (p_X9_setPatience X a1).1 (MR D cy μ (p_X9_setPatience X a1).2) (MA μ)) 0 0 (MA μ) := by
  refine gm_met (cc := cX9_setPatience) (maxL := 2) (ret := (some .int)) [.ref μ, .int a1] (by decide) rfl (Nat.le_of_ble_eq_true rfl) ?_
  intro p e s m args below meth c0 ls C hR hl
  obtain ⟨hx, hb, hr, hts, hown, hlocks, hml, hK⟩ := C
  have hl : lv_has ls 2 [(0, .ref μ), (1, .int a1)] := hl
  have hS : va_S (MA μ) s.heap s.heap [] := va_S.rf
  unfold ok_X9_setPatience at hok
  refine lv_iload_n hx hb dX9_setPatience_0 rfl (lv_at hl 1 rfl) ?_
  refine lv_iconst (v := 0) hx hb dX9_setPatience_1 (by decide) ?_
  refine lv_bipush (v := 50) hx hb dX9_setPatience_2 (by decide) ?_
  refine gm_ci (gm_callS (As := [.int a1, .int 0, .int 50]) (rest := []) ⟨hx, hb, hml, hown, hts⟩ hK (c_X9_in l D cy a1 0 50) (va_cwS 3 hts gX9_setPatience_X9_in rfl rfl rfl (by decide +kernel) ⟨Nat.le_of_ble_eq_true rfl, Nat.le_of_ble_eq_true rfl⟩) trivial rfl hl.1 rfl (Nat.le_of_ble_eq_true rfl) dX9_setPatience_4 (Nat.zero_le _) (Nat.zero_le _)) hS (fun _ h => h.elim) (fun H locs _ _ hfr hS => ?_)
  have hR := gRep.keep hR hfr (fun _ _ h => h)
  refine lv_if_eq (tgt := 20) hx hb dX9_setPatience_7 (by decide) (fun c_1 => ?_) (fun c_1 => ?_)
  · try rw [if_pos c_1] at hok
    refine lv_bipush (v := (-2)) hx hb dX9_setPatience_20 (by decide) ?_
    exact gm_iret hx hb hr hlocks hS (by (try simp only [p_X9_setPatience, ↓if_pos c_1]); (try rfl)) (by (try simp only [p_X9_setPatience, ↓if_pos c_1]); exact hR) dX9_setPatience_22
  · try rw [if_neg c_1] at hok
    refine lv_aload_n hx hb dX9_setPatience_10 rfl (lv_at hl 0 rfl) ?_
    refine lv_bipush (v := 7) hx hb dX9_setPatience_11 (by decide) ?_
    refine lv_iload_n hx hb dX9_setPatience_13 rfl (lv_at hl 1 rfl) ?_
    obtain ⟨h_2, hok⟩ := hok
    refine gm_ci (gm_call (As := [.int 7, .int a1]) (rest := []) (ci := 9) (q := (RX9, TX9, 15)) ⟨hx, hb, hml, hown, hts⟩ hK (c_X9_sets l D cy μ X 7 a1 h_2) (cwV 2 hts gX9_setPatience_X9_sets rfl rfl rfl (by decide +kernel) ⟨Nat.le_of_ble_eq_true rfl, Nat.le_of_ble_eq_true rfl⟩) (MR.mk0 hR) rfl hR rfl hl.1 rfl (Nat.le_of_ble_eq_true rfl) dX9_setPatience_14 (Nat.zero_le _) (Nat.zero_le _)) hS (fun _ h => h) (fun H locs hR _ _ hS => ?_)
    obtain ⟨X1, eX1⟩ : ∃ Y : gM, Y = (p_X9_sets X 7 a1).2 := ⟨_, rfl⟩
    rw [← eX1] at hR
    try replace hok := hok X1 eX1
    refine lv_goto (tgt := 22) hx hb dX9_setPatience_17 (by decide) ?_
    exact gm_iret hx hb hr hlocks hS (by (try simp only [p_X9_setPatience, ↓if_neg c_1, ← eX1]); (try rfl)) (by (try simp only [p_X9_setPatience, ↓if_neg c_1, ← eX1]); exact hR) dX9_setPatience_22
def lf_X9_drain_29 (a1 : Int32) (y_2 : Int32) (K : (gM) → (Nat) → (Int32 × gM)) : Nat → (gM) → (Nat) → (Int32 × gM)
  | 0, Z, k_3 => K Z k_3
  | n + 1, Z, k_3 =>
    if f_X9_ofLine Z a1 0 ≤ nI k_3 then
      K Z k_3
    else
      if f_X9_seat Z a1 (nI k_3) = (-5) then
        lf_X9_drain_29 a1 y_2 K n Z (k_3 + 1)
      else
        let X1 := p_X9_ends Z (f_X9_seat Z a1 (nI k_3)) 7 (-5) (f_X9_of Z (f_X9_seat Z a1 (nI k_3)) 5)
        let X2 := p_X9_logs X1 8 (f_X9_seat Z a1 (nI k_3)) a1 (-5)
        lf_X9_drain_29 a1 y_2 K n X2 (k_3 + 1)
def lok_X9_drain_29 (a1 : Int32) (y_2 : Int32) (KO : (gM) → (Nat) → Prop) : Nat → (gM) → (Nat) → Prop
  | 0, Z, k_3 => True
  | n + 1, Z, k_3 =>
    (ok_X9_ofLine Z a1 0) ∧
    (if f_X9_ofLine Z a1 0 ≤ nI k_3 then
      KO Z k_3
    else
      (ok_X9_seat Z a1 (nI k_3)) ∧
      (if f_X9_seat Z a1 (nI k_3) = (-5) then
        lok_X9_drain_29 a1 y_2 KO n Z (k_3 + 1)
      else
        (ok_X9_of Z (f_X9_seat Z a1 (nI k_3)) 5) ∧
        (ok_X9_ends Z (f_X9_seat Z a1 (nI k_3)) 7 (-5) (f_X9_of Z (f_X9_seat Z a1 (nI k_3)) 5)) ∧
        ∀ X1 : gM, X1 = p_X9_ends Z (f_X9_seat Z a1 (nI k_3)) 7 (-5) (f_X9_of Z (f_X9_seat Z a1 (nI k_3)) 5) →
        (ok_X9_logs X1 8 (f_X9_seat Z a1 (nI k_3)) a1 (-5)) ∧
        ∀ X2 : gM, X2 = p_X9_logs X1 8 (f_X9_seat Z a1 (nI k_3)) a1 (-5) →
        lok_X9_drain_29 a1 y_2 KO n X2 (k_3 + 1)))
def p_X9_drain (X : gM) (a1 : Int32) : Int32 × gM :=
  if f_X9_isLine a1 = 0 then
    ((-1), X)
  else
    if f_X9_on X a1 1 = 0 then
      ((-5), X)
    else
      let X1 := p_X9_records X
      lf_X9_drain_29 a1 (f_X9_on X a1 1) (fun X2 k_3w5 =>
            (f_X9_on X a1 1, X2)) 2147483648 X1 0
def ok_X9_drain (X : gM) (a1 : Int32) : Prop :=
  (if f_X9_isLine a1 = 0 then
    True
  else
    (ok_X9_on X a1 1) ∧
    (if f_X9_on X a1 1 = 0 then
      True
    else
      (ok_X9_records X) ∧
      ∀ X1 : gM, X1 = p_X9_records X →
      lok_X9_drain_29 a1 (f_X9_on X a1 1) (fun X2 k_3w5 =>
            True) 2147483648 X1 0))
set_option maxHeartbeats 4000000 in
set_option maxRecDepth 100000 in
theorem lp_X9_drain_29 {p : Program} {l : Launch} {e : Env} {s : State} {m : MethodId} {args : Array Value} {below : List Frame} {meth : Method} {c0 : Code} {D : va_G} {cy : Nat → ClassId} (C : gCtx cX9_drain 5 (some .int) RX9 wsX9_drain D cy p s m args meth c0) (μ : Nat) (a1 : Int32) (y_2 : Int32) 
    (KO : (gM) → (Nat) → Prop) (K : (gM) → (Nat) → (Int32 × gM)) (hexit : ∀ (Z : gM) (k_3 : Nat), k_3 ≤ 2147483647 → KO Z k_3 → ∀ (H : Heap) (locs : List Loc) (ls : Array Slot), MR D cy μ Z H → va_S (MA μ) s.heap H locs → lv_has ls 5 [(0, .ref μ), (1, .int a1), (2, .int y_2), (3, .int (nI k_3))] → W p l e { frames := 3, cells := 0, slots := 0, locals := 68 } s m args below meth c0 H locs 0 0 (MQ below (gQi (K Z k_3).1 (MR D cy μ (K Z k_3).2) (MA μ)) args s 0 0 (MA μ)) (F0 m 88 ls [])) :
    ∀ (n : Nat) (Z : gM) (k_3 : Nat), k_3 ≤ 2147483647 → lok_X9_drain_29 a1 y_2 KO n Z k_3 → 2147483647 < k_3 + n → ∀ (H : Heap) (locs : List Loc) (ls : Array Slot), MR D cy μ Z H → va_S (MA μ) s.heap H locs → lv_has ls 5 [(0, .ref μ), (1, .int a1), (2, .int y_2), (3, .int (nI k_3))] → W p l e { frames := 3, cells := 0, slots := 0, locals := 68 } s m args below meth c0 H locs 0 0 (MQ below (gQi (lf_X9_drain_29 a1 y_2 K n Z k_3).1 (MR D cy μ (lf_X9_drain_29 a1 y_2 K n Z k_3).2) (MA μ)) args s 0 0 (MA μ)) (F0 m 29 ls []) := by
  obtain ⟨hx, hb, hr, hts, hown, hlocks, hml, hK⟩ := C
  intro n
  induction n with
  | zero =>
    intro Z k_3 hb_3 hok hme
    exact absurd hme (by omega)
  | succ n ih =>
    intro Z k_3 hb_3 hok hme H locs ls hR hS hl
    unfold lok_X9_drain_29 at hok
    refine lv_iload_n hx hb dX9_drain_29 rfl (lv_at hl 3 rfl) ?_
    refine lv_aload_n hx hb dX9_drain_30 rfl (lv_at hl 0 rfl) ?_
    refine lv_iload_n hx hb dX9_drain_31 rfl (lv_at hl 1 rfl) ?_
    refine lv_iconst (v := 0) hx hb dX9_drain_32 (by decide) ?_
    obtain ⟨h_1, hok⟩ := hok
    refine gm_ci (gm_call (As := [.int a1, .int 0]) (rest := [.int (nI k_3)]) (ci := 9) (q := (RX9, TX9, 15)) ⟨hx, hb, hml, hown, hts⟩ hK (c_X9_ofLine l D cy μ Z a1 0 h_1) (cwV 2 hts gX9_drain_X9_ofLine rfl rfl rfl (by decide +kernel) ⟨Nat.le_of_ble_eq_true rfl, Nat.le_of_ble_eq_true rfl⟩) (MR.mk0 hR) rfl hR rfl hl.1 rfl (Nat.le_of_ble_eq_true rfl) dX9_drain_33 (Nat.zero_le _) (Nat.zero_le _)) hS (fun _ h => h.elim) (fun H locs _ _ hfr hS => ?_)
    have hR := gRep.keep hR hfr (fun _ _ h => h)
    refine lv_icmp_ge (tgt := 88) hx hb dX9_drain_36 (by decide) (fun c_2 => ?_) (fun c_2 => ?_)
    · try rw [if_pos c_2] at hok
      refine gm_q (Q2 := MQ below (gQi (K Z k_3).1 (MR D cy μ (K Z k_3).2) (MA μ)) args s 0 0 (MA μ)) (by simp only [lf_X9_drain_29, ↓if_pos c_2]) ?_
      exact hexit Z k_3 hb_3 hok _ _ _ hR hS (lv_sub hl [0, 1, 2, 3] rfl)
    · try rw [if_neg c_2] at hok
      have lt_3 : k_3 < 2147483647 := g_big (Nat.lt_of_le_of_lt hb_3 (by decide)) c_2
      refine lv_aload_n hx hb dX9_drain_39 rfl (lv_at hl 0 rfl) ?_
      refine lv_iload_n hx hb dX9_drain_40 rfl (lv_at hl 1 rfl) ?_
      refine lv_iload_n hx hb dX9_drain_41 rfl (lv_at hl 3 rfl) ?_
      obtain ⟨h_4, hok⟩ := hok
      refine gm_ci (gm_call (As := [.int a1, .int (nI k_3)]) (rest := []) (ci := 9) (q := (RX9, TX9, 15)) ⟨hx, hb, hml, hown, hts⟩ hK (c_X9_seat l D cy μ Z a1 (nI k_3) h_4) (cwV 2 hts gX9_drain_X9_seat rfl rfl rfl (by decide +kernel) ⟨Nat.le_of_ble_eq_true rfl, Nat.le_of_ble_eq_true rfl⟩) (MR.mk0 hR) rfl hR rfl hl.1 rfl (Nat.le_of_ble_eq_true rfl) dX9_drain_42 (Nat.zero_le _) (Nat.zero_le _)) hS (fun _ h => h.elim) (fun H locs _ _ hfr hS => ?_)
      have hR := gRep.keep hR hfr (fun _ _ h => h)
      refine lv_istore (lv' := [(4, .int (f_X9_seat Z a1 (nI k_3))), (0, .ref μ), (1, .int a1), (2, .int y_2), (3, .int (nI k_3))]) hx hb dX9_drain_45 hl (by decide) rfl (fun ls hl => ?_)
      refine lv_iload hx hb dX9_drain_47 (lv_at hl 0 rfl) ?_
      refine lv_bipush (v := (-5)) hx hb dX9_drain_49 (by decide) ?_
      refine lv_icmp_eq (tgt := 82) hx hb dX9_drain_51 (by decide) (fun c_5 => ?_) (fun c_5 => ?_)
      · try rw [if_pos c_5] at hok
        refine lv_iinc (v := nI (k_3 + 1)) (lv' := [(3, .int (nI (k_3 + 1))), (4, .int (f_X9_seat Z a1 (nI k_3))), (0, .ref μ), (1, .int a1), (2, .int y_2)]) hx hb dX9_drain_82 hl (k := 4) rfl (nI_1 _) (by decide) rfl (fun ls hl => ?_)
        refine lv_goto (tgt := 29) hx hb dX9_drain_85 (by decide) ?_
        refine gm_q (Q2 := MQ below (gQi (lf_X9_drain_29 a1 y_2 K n Z (k_3 + 1)).1 (MR D cy μ (lf_X9_drain_29 a1 y_2 K n Z (k_3 + 1)).2) (MA μ)) args s 0 0 (MA μ)) (by simp only [lf_X9_drain_29, ↓if_neg c_2, ↓if_pos c_5]) ?_
        exact ih Z (k_3 + 1) lt_3 hok (by omega) _ _ _ hR hS (lv_sub hl [2, 3, 4, 0] rfl)
      · try rw [if_neg c_5] at hok
        refine lv_aload_n hx hb dX9_drain_54 rfl (lv_at hl 1 rfl) ?_
        refine lv_iload hx hb dX9_drain_55 (lv_at hl 0 rfl) ?_
        refine lv_bipush (v := 7) hx hb dX9_drain_57 (by decide) ?_
        refine lv_bipush (v := (-5)) hx hb dX9_drain_59 (by decide) ?_
        refine lv_aload_n hx hb dX9_drain_61 rfl (lv_at hl 1 rfl) ?_
        refine lv_iload hx hb dX9_drain_62 (lv_at hl 0 rfl) ?_
        refine lv_iconst (v := 5) hx hb dX9_drain_64 (by decide) ?_
        obtain ⟨h_6, hok⟩ := hok
        refine gm_ci (gm_call (As := [.int (f_X9_seat Z a1 (nI k_3)), .int 5]) (rest := [.int (-5), .int 7, .int (f_X9_seat Z a1 (nI k_3)), .ref μ]) (ci := 9) (q := (RX9, TX9, 15)) ⟨hx, hb, hml, hown, hts⟩ hK (c_X9_of l D cy μ Z (f_X9_seat Z a1 (nI k_3)) 5 h_6) (cwV 2 hts gX9_drain_X9_of rfl rfl rfl (by decide +kernel) ⟨Nat.le_of_ble_eq_true rfl, Nat.le_of_ble_eq_true rfl⟩) (MR.mk0 hR) rfl hR rfl hl.1 rfl (Nat.le_of_ble_eq_true rfl) dX9_drain_65 (Nat.zero_le _) (Nat.zero_le _)) hS (fun _ h => h.elim) (fun H locs _ _ hfr hS => ?_)
        have hR := gRep.keep hR hfr (fun _ _ h => h)
        obtain ⟨h_7, hok⟩ := hok
        refine gm_cv (gm_call (As := [.int (f_X9_seat Z a1 (nI k_3)), .int 7, .int (-5), .int (f_X9_of Z (f_X9_seat Z a1 (nI k_3)) 5)]) (rest := []) (ci := 9) (q := (RX9, TX9, 15)) ⟨hx, hb, hml, hown, hts⟩ hK (c_X9_ends l D cy μ Z (f_X9_seat Z a1 (nI k_3)) 7 (-5) (f_X9_of Z (f_X9_seat Z a1 (nI k_3)) 5) h_7) (cwV 4 hts gX9_drain_X9_ends rfl rfl rfl (by decide +kernel) ⟨Nat.le_of_ble_eq_true rfl, Nat.le_of_ble_eq_true rfl⟩) (MR.mk0 hR) rfl hR rfl hl.1 rfl (Nat.le_of_ble_eq_true rfl) dX9_drain_68 (Nat.zero_le _) (Nat.zero_le _)) hS (fun _ h => h) (fun H locs hR _ _ hS => ?_)
        obtain ⟨X1, eX1⟩ : ∃ Y : gM, Y = p_X9_ends Z (f_X9_seat Z a1 (nI k_3)) 7 (-5) (f_X9_of Z (f_X9_seat Z a1 (nI k_3)) 5) := ⟨_, rfl⟩
        rw [← eX1] at hR
        try replace hok := hok X1 eX1
        refine lv_aload_n hx hb dX9_drain_71 rfl (lv_at hl 1 rfl) ?_
        refine lv_bipush (v := 8) hx hb dX9_drain_72 (by decide) ?_
        refine lv_iload hx hb dX9_drain_74 (lv_at hl 0 rfl) ?_
        refine lv_iload_n hx hb dX9_drain_76 rfl (lv_at hl 2 rfl) ?_
        refine lv_bipush (v := (-5)) hx hb dX9_drain_77 (by decide) ?_
        obtain ⟨h_8, hok⟩ := hok
        refine gm_cv (gm_call (As := [.int 8, .int (f_X9_seat Z a1 (nI k_3)), .int a1, .int (-5)]) (rest := []) (ci := 9) (q := (RX9, TX9, 15)) ⟨hx, hb, hml, hown, hts⟩ hK (c_X9_logs l D cy μ X1 8 (f_X9_seat Z a1 (nI k_3)) a1 (-5) h_8) (cwV 4 hts gX9_drain_X9_logs rfl rfl rfl (by decide +kernel) ⟨Nat.le_of_ble_eq_true rfl, Nat.le_of_ble_eq_true rfl⟩) (MR.mk0 hR) rfl hR rfl hl.1 rfl (Nat.le_of_ble_eq_true rfl) dX9_drain_79 (Nat.zero_le _) (Nat.zero_le _)) hS (fun _ h => h) (fun H locs hR _ _ hS => ?_)
        obtain ⟨X2, eX2⟩ : ∃ Y : gM, Y = p_X9_logs X1 8 (f_X9_seat Z a1 (nI k_3)) a1 (-5) := ⟨_, rfl⟩
        rw [← eX2] at hR
        try replace hok := hok X2 eX2
        refine lv_iinc (v := nI (k_3 + 1)) (lv' := [(3, .int (nI (k_3 + 1))), (4, .int (f_X9_seat Z a1 (nI k_3))), (0, .ref μ), (1, .int a1), (2, .int y_2)]) hx hb dX9_drain_82 hl (k := 4) rfl (nI_1 _) (by decide) rfl (fun ls hl => ?_)
        refine lv_goto (tgt := 29) hx hb dX9_drain_85 (by decide) ?_
        refine gm_q (Q2 := MQ below (gQi (lf_X9_drain_29 a1 y_2 K n X2 (k_3 + 1)).1 (MR D cy μ (lf_X9_drain_29 a1 y_2 K n X2 (k_3 + 1)).2) (MA μ)) args s 0 0 (MA μ)) (by simp only [lf_X9_drain_29, ↓if_neg c_2, ↓if_neg c_5, ← eX1, ← eX2]) ?_
        exact ih X2 (k_3 + 1) lt_3 hok (by omega) _ _ _ hR hS (lv_sub hl [2, 3, 4, 0] rfl)
set_option maxHeartbeats 4000000 in
set_option maxRecDepth 100000 in
theorem c_X9_drain (l : Launch) (D : va_G) (cy : Nat → ClassId) (μ : Nat) (X : gM) (a1 : Int32)  (hok : ok_X9_drain X a1) : Met l yX9_drain wsX9_drain ({ frames := 3, cells := 0, slots := 0, locals := 68 }) (gP [.ref μ, .int a1] D cy (MR D cy μ X)) (gQi (p_X9_drain X a1).1 (MR D cy μ (p_X9_drain X a1).2) (MA μ)) 0 0 (MA μ) := by
  refine gm_met (cc := cX9_drain) (maxL := 5) (ret := (some .int)) [.ref μ, .int a1] (by decide) rfl (Nat.le_of_ble_eq_true rfl) ?_
  intro p e s m args below meth c0 ls C hR hl
  obtain ⟨hx, hb, hr, hts, hown, hlocks, hml, hK⟩ := C
  have hl : lv_has ls 5 [(0, .ref μ), (1, .int a1)] := hl
  have hS : va_S (MA μ) s.heap s.heap [] := va_S.rf
  unfold ok_X9_drain at hok
  refine lv_iload_n hx hb dX9_drain_0 rfl (lv_at hl 1 rfl) ?_
  refine gm_ci (gm_callS (As := [.int a1]) (rest := []) ⟨hx, hb, hml, hown, hts⟩ hK (c_X9_isLine l D cy a1) (va_cwS 1 hts gX9_drain_X9_isLine rfl rfl rfl (by decide +kernel) ⟨Nat.le_of_ble_eq_true rfl, Nat.le_of_ble_eq_true rfl⟩) trivial rfl hl.1 rfl (Nat.le_of_ble_eq_true rfl) dX9_drain_1 (Nat.zero_le _) (Nat.zero_le _)) hS (fun _ h => h.elim) (fun H locs _ _ hfr hS => ?_)
  have hR := gRep.keep hR hfr (fun _ _ h => h)
  refine lv_if_ne (tgt := 9) hx hb dX9_drain_4 (by decide) (fun c_1 => ?_) (fun c_1 => ?_)
  · try rw [if_neg c_1] at hok
    refine lv_aload_n hx hb dX9_drain_9 rfl (lv_at hl 0 rfl) ?_
    refine lv_iload_n hx hb dX9_drain_10 rfl (lv_at hl 1 rfl) ?_
    refine lv_iconst (v := 1) hx hb dX9_drain_11 (by decide) ?_
    obtain ⟨h_2, hok⟩ := hok
    refine gm_ci (gm_call (As := [.int a1, .int 1]) (rest := []) (ci := 9) (q := (RX9, TX9, 15)) ⟨hx, hb, hml, hown, hts⟩ hK (c_X9_on l D cy μ X a1 1 h_2) (cwV 2 hts gX9_drain_X9_on rfl rfl rfl (by decide +kernel) ⟨Nat.le_of_ble_eq_true rfl, Nat.le_of_ble_eq_true rfl⟩) (MR.mk0 hR) rfl hR rfl hl.1 rfl (Nat.le_of_ble_eq_true rfl) dX9_drain_12 (Nat.zero_le _) (Nat.zero_le _)) hS (fun _ h => h.elim) (fun H locs _ _ hfr hS => ?_)
    have hR := gRep.keep hR hfr (fun _ _ h => h)
    refine lv_istore_n (lv' := [(2, .int (f_X9_on X a1 1)), (0, .ref μ), (1, .int a1)]) hx hb dX9_drain_15 rfl hl (by decide) rfl (fun ls hl => ?_)
    refine lv_iload_n hx hb dX9_drain_16 rfl (lv_at hl 0 rfl) ?_
    refine lv_if_ne (tgt := 23) hx hb dX9_drain_17 (by decide) (fun c_3 => ?_) (fun c_3 => ?_)
    · try rw [if_neg c_3] at hok
      refine lv_aload_n hx hb dX9_drain_23 rfl (lv_at hl 1 rfl) ?_
      obtain ⟨h_4, hok⟩ := hok
      refine gm_cv (gm_call (As := []) (rest := []) (ci := 9) (q := (RX9, TX9, 15)) ⟨hx, hb, hml, hown, hts⟩ hK (c_X9_records l D cy μ X h_4) (cwV 0 hts gX9_drain_X9_records rfl rfl rfl (by decide +kernel) ⟨Nat.le_of_ble_eq_true rfl, Nat.le_of_ble_eq_true rfl⟩) (MR.mk0 hR) rfl hR rfl hl.1 rfl (Nat.le_of_ble_eq_true rfl) dX9_drain_24 (Nat.zero_le _) (Nat.zero_le _)) hS (fun _ h => h) (fun H locs hR _ _ hS => ?_)
      obtain ⟨X1, eX1⟩ : ∃ Y : gM, Y = p_X9_records X := ⟨_, rfl⟩
      rw [← eX1] at hR
      try replace hok := hok X1 eX1
      refine lv_iconst (v := 0) hx hb dX9_drain_27 (by decide) ?_
      refine lv_istore_n (lv' := [(3, .int 0), (2, .int (f_X9_on X a1 1)), (0, .ref μ), (1, .int a1)]) hx hb dX9_drain_28 rfl hl (by decide) rfl (fun ls hl => ?_)
      refine gm_q (Q2 := MQ below (gQi (lf_X9_drain_29 a1 (f_X9_on X a1 1) (fun X2 k_3w5 =>
            (f_X9_on X a1 1, X2)) 2147483648 X1 0).1 (MR D cy μ (lf_X9_drain_29 a1 (f_X9_on X a1 1) (fun X2 k_3w5 =>
            (f_X9_on X a1 1, X2)) 2147483648 X1 0).2) (MA μ)) args s 0 0 (MA μ)) (by simp only [p_X9_drain, ↓if_neg c_1, ↓if_neg c_3, ← eX1]) ?_
      refine lp_X9_drain_29 ⟨hx, hb, hr, hts, hown, hlocks, hml, hK⟩ μ a1 (f_X9_on X a1 1)  _ _ (fun X2 k_3w5 hbk_3w5 hok H locs ls hR hS hl => ?_) 2147483648 X1 0 (by decide) hok (by omega) _ _ _ hR hS (lv_sub hl [2, 3, 1, 0] rfl)
      refine lv_iload_n hx hb dX9_drain_88 rfl (lv_at hl 2 rfl) ?_
      exact gm_iret hx hb hr hlocks hS (by (try simp only [p_X9_drain, ↓if_neg c_1, ↓if_neg c_3, ← eX1]); (try rfl)) (by (try simp only [p_X9_drain, ↓if_neg c_1, ↓if_neg c_3, ← eX1]); exact hR) dX9_drain_89
    · try rw [if_pos c_3] at hok
      refine lv_bipush (v := (-5)) hx hb dX9_drain_20 (by decide) ?_
      exact gm_iret hx hb hr hlocks hS (by (try simp only [p_X9_drain, ↓if_neg c_1, ↓if_pos c_3]); (try rfl)) (by (try simp only [p_X9_drain, ↓if_neg c_1, ↓if_pos c_3]); exact hR) dX9_drain_22
  · try rw [if_pos c_1] at hok
    refine lv_iconst (v := (-1)) hx hb dX9_drain_7 (by decide) ?_
    exact gm_iret hx hb hr hlocks hS (by (try simp only [p_X9_drain, ↓if_pos c_1]); (try rfl)) (by (try simp only [p_X9_drain, ↓if_pos c_1]); exact hR) dX9_drain_8
