theorem g_at3 {x : Int32} (h : x = 3) : vp_in x 4 := by
  rw [h]
  exact vp_in_iff.mpr (by decide)
theorem g_in3 {x : Int32} (h : ¬ f_X8_within x 0 3 = 0) : x.toNatClampNeg < 4 := g_vl (vp_in_iff.mpr (by
  simp only [w_ne] at h
  simp only [ti_0, ti_3] at h ⊢
  omega))
def lf_X8_dropOldestState_9 (s_1 : Nat) (K : (gM) → (Nat) → (gM)) : Nat → (gM) → (Nat) → (gM)
  | 0, Z, k_2 => K Z k_2
  | n + 1, Z, k_2 =>
    if 4 ≤ nI k_2 then
      K Z k_2
    else
      let X1 := updM Z 370 (k_2 - 1) (Z 370 k_2)
      lf_X8_dropOldestState_9 s_1 K n X1 (k_2 + 1)
def p_X8_dropOldestState (X : gM) : gM :=
  lf_X8_dropOldestState_9 ((X 370 0).toNatClampNeg) (fun X1 k_2w1 =>
        let X2 := updM X1 0 6 3
        let X3 := updM X2 370 ((X2 0 6).toNatClampNeg) (X 370 0)
        X3) 5 X 1
set_option maxHeartbeats 4000000 in
set_option maxRecDepth 100000 in
theorem lp_X8_dropOldestState_9 {p : Program} {l : Launch} {e : Env} {s : State} {m : MethodId} {args : Array Value} {below : List Frame} {meth : Method} {c0 : Code} {D : va_G} {cy : Nat → ClassId} (C : gCtx cX8_dropOldestState 3 none RX8 wsX8_dropOldestState D cy p s m args meth c0) (β : Nat) (s_1 : Nat) (hs_1 : s_1 < 7)
    (K : (gM) → (Nat) → (gM)) (hexit : ∀ (Z : gM) (k_2 : Nat), HOK Z → k_2 ≤ 4 → 1 ≤ k_2 → ∀ (H : Heap) (locs : List Loc) (ls : Array Slot), TR D cy β Z H → va_S (TA β) s.heap H locs → lv_has ls 3 [(0, .ref β), (1, .ref (β + off s_1)), (2, .int (nI k_2))] → W p l e { frames := 0, cells := 0, slots := 0, locals := 0 } s m args below meth c0 H locs 0 0 (MQ below (gQv (TR D cy β (K Z k_2)) (TA β)) args s 0 0 (TA β)) (F0 m 38 ls [])) :
    ∀ (n : Nat) (Z : gM) (k_2 : Nat), HOK Z → k_2 ≤ 4 → 1 ≤ k_2 → 4 < k_2 + n → ∀ (H : Heap) (locs : List Loc) (ls : Array Slot), TR D cy β Z H → va_S (TA β) s.heap H locs → lv_has ls 3 [(0, .ref β), (1, .ref (β + off s_1)), (2, .int (nI k_2))] → W p l e { frames := 0, cells := 0, slots := 0, locals := 0 } s m args below meth c0 H locs 0 0 (MQ below (gQv (TR D cy β (lf_X8_dropOldestState_9 s_1 K n Z k_2)) (TA β)) args s 0 0 (TA β)) (F0 m 9 ls []) := by
  obtain ⟨hx, hb, hr, hts, hown, hlocks, hml, hK⟩ := C
  have lk22 := hts (.fieldLink RX8 22 "MercuryLine" "history" "[LMercuryLine$State;") (by decide +kernel)
  have inX8 : ∀ w ∈ u_ws RX8 TX8 8, w ∈ wsX8_dropOldestState := by decide +kernel
  intro n
  induction n with
  | zero =>
    intro Z k_2 hz hb_2 hl_2 hme
    exact absurd hme (by omega)
  | succ n ih =>
    intro Z k_2 hz hb_2 hl_2 hme H locs ls hR hS hl
    refine lv_iload_n hx hb dX8_dropOldestState_9 rfl (lv_at hl 2 rfl) ?_
    refine lv_aload_n hx hb dX8_dropOldestState_10 rfl (lv_at hl 0 rfl) ?_
    refine va_get (D := D) (ci := 8) (v := .ref (β + 370)) (C := RX8) (T := TX8) (N := 8) hx hb hts inX8 hown hK.1 (TR.mk0 hR) 0 rfl rfl 3 (by decide) lk22 (fun _ h9 => h9) rfl dX8_dropOldestState_11 ?_
    refine va_alen (v := 4) hx hb hK.1 (TR.mkh hR) 0 3 rfl rfl rfl dX8_dropOldestState_14 ?_
    refine lv_icmp_ge (tgt := 38) hx hb dX8_dropOldestState_15 (by decide) (fun c_1 => ?_) (fun c_1 => ?_)
    · have ge_2 : 4 ≤ k_2 := g_ge2 (Nat.lt_of_le_of_lt hb_2 (by decide)) (by decide) c_1
      refine gm_q (Q2 := MQ below (gQv (TR D cy β (K Z k_2)) (TA β)) args s 0 0 (TA β)) (by simp only [lf_X8_dropOldestState_9, ↓if_pos c_1]) ?_
      exact hexit Z k_2 hz hb_2 (by omega)  _ _ _ hR hS (lv_sub hl [0, 1, 2] rfl)
    · have lt_3 : k_2 < 4 := g_lt (Nat.lt_of_le_of_lt hb_2 (by decide)) (by decide) c_1
      refine lv_aload_n hx hb dX8_dropOldestState_18 rfl (lv_at hl 0 rfl) ?_
      refine va_get (D := D) (ci := 8) (v := .ref (β + 370)) (C := RX8) (T := TX8) (N := 8) hx hb hts inX8 hown hK.1 (TR.mk0 hR) 0 rfl rfl 3 (by decide) lk22 (fun _ h9 => h9) rfl dX8_dropOldestState_19 ?_
      refine lv_iload_n hx hb dX8_dropOldestState_22 rfl (lv_at hl 2 rfl) ?_
      refine lv_iconst (v := 1) hx hb dX8_dropOldestState_23 (by decide) ?_
      refine lv_isub hx hb dX8_dropOldestState_24 ?_
      rw [show ((nI k_2) - 1 : Int32) = nI (k_2 - 1) from pk_sub (b := 1) (by omega)]
      refine lv_aload_n hx hb dX8_dropOldestState_25 rfl (lv_at hl 0 rfl) ?_
      refine va_get (D := D) (ci := 8) (v := .ref (β + 370)) (C := RX8) (T := TX8) (N := 8) hx hb hts inX8 hown hK.1 (TR.mk0 hR) 0 rfl rfl 3 (by decide) lk22 (fun _ h9 => h9) rfl dX8_dropOldestState_26 ?_
      refine lv_iload_n hx hb dX8_dropOldestState_29 rfl (lv_at hl 2 rfl) ?_
      refine gm_aald (b := (β + off ((Z 370 k_2).toNatClampNeg))) hx hb hK.1 (TR.mkh hR) 3 rfl (vp_in_nI lt_3 (by decide)) (by rw [nI_clamp (n := k_2) (by omega)]) dX8_dropOldestState_30 ?_
      refine gm_hist (x := (Z 370 k_2)) hx hb hK.1 hR hS (hz _ lt_3).2 rfl (vp_in_nI (by omega) (by decide)) dX8_dropOldestState_31 (fun H locs hR hS => ?_)
      rw [nI_clamp (n := (k_2 - 1)) (by omega)] at hR
      obtain ⟨X1, eX1⟩ : ∃ Y : gM, Y = updM Z 370 (k_2 - 1) (Z 370 k_2) := ⟨_, rfl⟩
      rw [← eX1] at hR
      refine lv_iinc (v := nI (k_2 + 1)) (lv' := [(2, .int (nI (k_2 + 1))), (0, .ref β), (1, .ref (β + off s_1))]) hx hb dX8_dropOldestState_32 hl (k := 2) rfl (nI_1 _) (by decide) rfl (fun ls hl => ?_)
      refine lv_goto (tgt := 9) hx hb dX8_dropOldestState_35 (by decide) ?_
      refine gm_q (Q2 := MQ below (gQv (TR D cy β (lf_X8_dropOldestState_9 s_1 K n X1 (k_2 + 1))) (TA β)) args s 0 0 (TA β)) (by simp only [lf_X8_dropOldestState_9, ↓if_neg c_1, ← eX1]) ?_
      exact ih X1 (k_2 + 1) (HOK_set hz (k := k_2) (by omega) eX1) lt_3 (by omega) (by omega) _ _ _ hR hS (lv_sub hl [1, 2, 0] rfl)
set_option maxHeartbeats 4000000 in
set_option maxRecDepth 100000 in
theorem c_X8_dropOldestState (l : Launch) (D : va_G) (cy : Nat → ClassId) (β : Nat) (X : gM) (hh : HOK X) : Met l yX8_dropOldestState wsX8_dropOldestState ({ frames := 0, cells := 0, slots := 0, locals := 0 }) (gP [.ref β] D cy (TR D cy β X)) (gQv (TR D cy β (p_X8_dropOldestState X)) (TA β)) 0 0 (TA β) := by
  refine gm_met (cc := cX8_dropOldestState) (maxL := 3) (ret := none) [.ref β] (by decide) rfl (Nat.le_of_ble_eq_true rfl) ?_
  intro p e s m args below meth c0 ls C hR hl
  obtain ⟨hx, hb, hr, hts, hown, hlocks, hml, hK⟩ := C
  have hl : lv_has ls 3 [(0, .ref β)] := hl
  have hS : va_S (TA β) s.heap s.heap [] := va_S.rf
  have lk22 := hts (.fieldLink RX8 22 "MercuryLine" "history" "[LMercuryLine$State;") (by decide +kernel)
  have inX8 : ∀ w ∈ u_ws RX8 TX8 8, w ∈ wsX8_dropOldestState := by decide +kernel
  have lk210 := hts (.fieldLink RX8 210 "MercuryLine" "recorded" "I") (by decide +kernel)
  refine lv_aload_n hx hb dX8_dropOldestState_0 rfl (lv_at hl 0 rfl) ?_
  refine va_get (D := D) (ci := 8) (v := .ref (β + 370)) (C := RX8) (T := TX8) (N := 8) hx hb hts inX8 hown hK.1 (TR.mk0 hR) 0 rfl rfl 3 (by decide) lk22 (fun _ h9 => h9) rfl dX8_dropOldestState_1 ?_
  refine lv_iconst (v := 0) hx hb dX8_dropOldestState_4 (by decide) ?_
  refine gm_aald (b := (β + off ((X 370 0).toNatClampNeg))) hx hb hK.1 (TR.mkh hR) 3 rfl (vp_in_iff.mpr (by decide)) rfl dX8_dropOldestState_5 ?_
  refine lv_astore_n (lv' := [(1, .ref (β + off ((X 370 0).toNatClampNeg))), (0, .ref β)]) hx hb dX8_dropOldestState_6 rfl hl (by decide) rfl (fun ls hl => ?_)
  refine lv_iconst (v := 1) hx hb dX8_dropOldestState_7 (by decide) ?_
  refine lv_istore_n (lv' := [(2, .int 1), (1, .ref (β + off ((X 370 0).toNatClampNeg))), (0, .ref β)]) hx hb dX8_dropOldestState_8 rfl hl (by decide) rfl (fun ls hl => ?_)
  refine gm_q (Q2 := MQ below (gQv (TR D cy β (lf_X8_dropOldestState_9 ((X 370 0).toNatClampNeg) (fun X1 k_2w1 =>
        let X2 := updM X1 0 6 3
        let X3 := updM X2 370 ((X2 0 6).toNatClampNeg) (X 370 0)
        X3) 5 X 1)) (TA β)) args s 0 0 (TA β)) (by simp only [p_X8_dropOldestState]) ?_
  refine lp_X8_dropOldestState_9 ⟨hx, hb, hr, hts, hown, hlocks, hml, hK⟩ β ((X 370 0).toNatClampNeg) (hh 0 (by decide)).2 _ (fun X1 k_2w1 hzX1 hbk_2w1 hlk_2w1 H locs ls hR hS hl => ?_) 5 X 1 hh (by decide) (by decide) (by omega) _ _ _ hR hS (lv_sub hl [2, 1, 0] rfl)
  refine lv_aload_n hx hb dX8_dropOldestState_38 rfl (lv_at hl 0 rfl) ?_
  refine lv_aload_n hx hb dX8_dropOldestState_39 rfl (lv_at hl 0 rfl) ?_
  refine va_get (D := D) (ci := 8) (v := .ref (β + 370)) (C := RX8) (T := TX8) (N := 8) hx hb hts inX8 hown hK.1 (TR.mk0 hR) 0 rfl rfl 3 (by decide) lk22 (fun _ h9 => h9) rfl dX8_dropOldestState_40 ?_
  refine va_alen (v := 4) hx hb hK.1 (TR.mkh hR) 0 3 rfl rfl rfl dX8_dropOldestState_43 ?_
  refine lv_iconst (v := 1) hx hb dX8_dropOldestState_44 (by decide) ?_
  refine lv_isub hx hb dX8_dropOldestState_45 ?_
  rw [show (4 - 1 : Int32) = 3 from by decide]
  refine gm_put (v := .int 3) (ty := .int) (ci := 8) (C := RX8) (T := TX8) (N := 8) hx hb hts inX8 tyX8 tyX8_ok nmX8 hown hK.1 hR injT hS (a := 0) (by decide) rfl (bT_0) rfl 6 (by decide) lk210 (fun _ h9 => h9) rfl (by decide +kernel) rfl rfl (Nat.le_of_ble_eq_true rfl) (j := 6) (x := 3) (by rw [bT_0]; rfl) dX8_dropOldestState_46 (fun H locs hR hS => ?_)
  obtain ⟨X2, eX2⟩ : ∃ Y : gM, Y = updM X1 0 6 3 := ⟨_, rfl⟩
  rw [← eX2] at hR
  refine lv_aload_n hx hb dX8_dropOldestState_49 rfl (lv_at hl 0 rfl) ?_
  refine va_get (D := D) (ci := 8) (v := .ref (β + 370)) (C := RX8) (T := TX8) (N := 8) hx hb hts inX8 hown hK.1 (TR.mk0 hR) 0 rfl rfl 3 (by decide) lk22 (fun _ h9 => h9) rfl dX8_dropOldestState_50 ?_
  refine lv_aload_n hx hb dX8_dropOldestState_53 rfl (lv_at hl 0 rfl) ?_
  refine va_get (D := D) (ci := 8) (v := .int (X2 0 6)) (C := RX8) (T := TX8) (N := 8) hx hb hts inX8 hown hK.1 (TR.mk0 hR) 0 rfl rfl 6 (by decide) lk210 (fun _ h9 => h9) rfl dX8_dropOldestState_54 ?_
  refine lv_aload_n hx hb dX8_dropOldestState_57 rfl (lv_at hl 1 rfl) ?_
  refine gm_hist (x := (X 370 0)) hx hb hK.1 hR hS (hh 0 (by decide)).2 rfl (g_at3 (by rw [eX2]; rfl)) dX8_dropOldestState_58 (fun H locs hR hS => ?_)
  obtain ⟨X3, eX3⟩ : ∃ Y : gM, Y = updM X2 370 ((X2 0 6).toNatClampNeg) (X 370 0) := ⟨_, rfl⟩
  rw [← eX3] at hR
  exact gm_vret hx hb hr hlocks hS (by (try simp only [p_X8_dropOldestState, ← eX2, ← eX3]); exact hR) dX8_dropOldestState_59
theorem lf_drop_HOK {K : gM → Nat → gM} {s1 : Nat} (hK : ∀ Z k, HOK Z → HOK (K Z k)) : ∀ (n : Nat) (Z : gM) (k : Nat), k ≤ 4 → HOK Z → HOK (lf_X8_dropOldestState_9 s1 K n Z k) := by
  intro n
  induction n with
  | zero => intro Z k _ h; exact hK Z k h
  | succ n ih =>
    intro Z k hk h
    unfold lf_X8_dropOldestState_9
    split
    · exact hK _ _ h
    · rename_i hlt
      have hlt := g_lt (Nat.lt_of_le_of_lt hk (by decide)) (N := 4) (by decide) hlt
      exact ih _ _ hlt (HOK_set h (k := k) hlt rfl)
theorem HOK_drop {X : gM} (h : HOK X) : HOK (p_X8_dropOldestState X) := by
  unfold p_X8_dropOldestState
  refine lf_drop_HOK (fun Z k hz => ?_) 5 X 1 (by decide) h
  intro j hj
  simp only [updM, upd, if_pos]
  split
  · exact h 0 (by decide)
  · exact hz j hj
def p_X8_recordState (X : gM) : gM :=
  if X 0 6 < 4 then
    if f_X8_within (X 0 6) 0 3 = 0 then
      X
    else
      let X1 := putS X ((X 370 ((X 0 6).toNatClampNeg)).toNatClampNeg) (vw 0 X)
      let X2 := updM X1 0 6 ((X1 0 6) + 1)
      X2
  else
    let X3 := p_X8_dropOldestState X
    if f_X8_within (X3 0 6) 0 3 = 0 then
      X3
    else
      let X4 := putS X3 ((X3 370 ((X3 0 6).toNatClampNeg)).toNatClampNeg) (vw 0 X3)
      let X5 := updM X4 0 6 ((X4 0 6) + 1)
      X5
set_option maxHeartbeats 4000000 in
set_option maxRecDepth 100000 in
theorem c_X8_recordState (l : Launch) (D : va_G) (cy : Nat → ClassId) (β : Nat) (X : gM) (hh : HOK X) : Met l yX8_recordState wsX8_recordState ({ frames := 4, cells := 0, slots := 0, locals := 91 }) (gP [.ref β] D cy (TR D cy β X)) (gQv (TR D cy β (p_X8_recordState X)) (TA β)) 0 0 (TA β) := by
  refine gm_met (cc := cX8_recordState) (maxL := 1) (ret := none) [.ref β] (by decide) rfl (Nat.le_of_ble_eq_true rfl) ?_
  intro p e s m args below meth c0 ls C hR hl
  obtain ⟨hx, hb, hr, hts, hown, hlocks, hml, hK⟩ := C
  have hl : lv_has ls 1 [(0, .ref β)] := hl
  have hS : va_S (TA β) s.heap s.heap [] := va_S.rf
  have lk210 := hts (.fieldLink RX8 210 "MercuryLine" "recorded" "I") (by decide +kernel)
  have inX8 : ∀ w ∈ u_ws RX8 TX8 8, w ∈ wsX8_recordState := by decide +kernel
  have lk22 := hts (.fieldLink RX8 22 "MercuryLine" "history" "[LMercuryLine$State;") (by decide +kernel)
  have lk10 := hts (.fieldLink RX8 10 "MercuryLine" "now" "LMercuryLine$State;") (by decide +kernel)
  refine lv_aload_n hx hb dX8_recordState_0 rfl (lv_at hl 0 rfl) ?_
  refine va_get (D := D) (ci := 8) (v := .int (X 0 6)) (C := RX8) (T := TX8) (N := 8) hx hb hts inX8 hown hK.1 (TR.mk0 hR) 0 rfl rfl 6 (by decide) lk210 (fun _ h9 => h9) rfl dX8_recordState_1 ?_
  refine lv_aload_n hx hb dX8_recordState_4 rfl (lv_at hl 0 rfl) ?_
  refine va_get (D := D) (ci := 8) (v := .ref (β + 370)) (C := RX8) (T := TX8) (N := 8) hx hb hts inX8 hown hK.1 (TR.mk0 hR) 0 rfl rfl 3 (by decide) lk22 (fun _ h9 => h9) rfl dX8_recordState_5 ?_
  refine va_alen (v := 4) hx hb hK.1 (TR.mkh hR) 0 3 rfl rfl rfl dX8_recordState_8 ?_
  refine lv_icmp_lt (tgt := 16) hx hb dX8_recordState_9 (by decide) (fun c_1 => ?_) (fun c_1 => ?_)
  · refine lv_aload_n hx hb dX8_recordState_16 rfl (lv_at hl 0 rfl) ?_
    refine va_get (D := D) (ci := 8) (v := .int (X 0 6)) (C := RX8) (T := TX8) (N := 8) hx hb hts inX8 hown hK.1 (TR.mk0 hR) 0 rfl rfl 6 (by decide) lk210 (fun _ h9 => h9) rfl dX8_recordState_17 ?_
    refine lv_iconst (v := 0) hx hb dX8_recordState_20 (by decide) ?_
    refine lv_aload_n hx hb dX8_recordState_21 rfl (lv_at hl 0 rfl) ?_
    refine va_get (D := D) (ci := 8) (v := .ref (β + 370)) (C := RX8) (T := TX8) (N := 8) hx hb hts inX8 hown hK.1 (TR.mk0 hR) 0 rfl rfl 3 (by decide) lk22 (fun _ h9 => h9) rfl dX8_recordState_22 ?_
    refine va_alen (v := 4) hx hb hK.1 (TR.mkh hR) 0 3 rfl rfl rfl dX8_recordState_25 ?_
    refine lv_iconst (v := 1) hx hb dX8_recordState_26 (by decide) ?_
    refine lv_isub hx hb dX8_recordState_27 ?_
    rw [show (4 - 1 : Int32) = 3 from by decide]
    refine gm_ci (gm_callS (As := [.int (X 0 6), .int 0, .int 3]) (rest := []) ⟨hx, hb, hml, hown, hts⟩ hK (c_X8_within l D cy (X 0 6) 0 3) (va_cwS 3 hts gX8_recordState_X8_within rfl rfl rfl (by decide +kernel) ⟨Nat.le_of_ble_eq_true rfl, Nat.le_of_ble_eq_true rfl⟩) trivial rfl hl.1 rfl (Nat.le_of_ble_eq_true rfl) dX8_recordState_28 (Nat.zero_le _) (Nat.zero_le _)) hS (fun _ h => h.elim) (fun H locs _ _ hfr hS => ?_)
    have hR := gRep.keep hR hfr (fun _ _ h => h)
    refine lv_if_eq (tgt := 60) hx hb dX8_recordState_31 (by decide) (fun c_2 => ?_) (fun c_2 => ?_)
    · exact gm_vret hx hb hr hlocks hS (by (try simp only [p_X8_recordState, ↓if_pos c_1, ↓if_pos c_2]); exact hR) dX8_recordState_60
    · refine lv_aload_n hx hb dX8_recordState_34 rfl (lv_at hl 0 rfl) ?_
      refine va_get (D := D) (ci := 8) (v := .ref (β + 370)) (C := RX8) (T := TX8) (N := 8) hx hb hts inX8 hown hK.1 (TR.mk0 hR) 0 rfl rfl 3 (by decide) lk22 (fun _ h9 => h9) rfl dX8_recordState_35 ?_
      refine lv_aload_n hx hb dX8_recordState_38 rfl (lv_at hl 0 rfl) ?_
      refine va_get (D := D) (ci := 8) (v := .int (X 0 6)) (C := RX8) (T := TX8) (N := 8) hx hb hts inX8 hown hK.1 (TR.mk0 hR) 0 rfl rfl 6 (by decide) lk210 (fun _ h9 => h9) rfl dX8_recordState_39 ?_
      refine gm_aald (b := (β + off ((X 370 ((X 0 6).toNatClampNeg)).toNatClampNeg))) hx hb hK.1 (TR.mkh hR) 3 rfl (by
      refine vp_in_iff.mpr ?_
      try simp only [w_ne] at c_1 c_2
      simp only [Int32.le_iff_toInt_le, Int32.lt_iff_toInt_lt, ← Int32.toInt_inj, ti_m5, ti_0, ti_1, ti_2, ti_3, ti_4, ti_5, ti_6, ti_12, ti_19, ti_23, ti_24, ti_39, ti_40, ti_59, ti_60] at c_1 c_2 ⊢
      omega) rfl dX8_recordState_42 ?_
      refine lv_aload_n hx hb dX8_recordState_43 rfl (lv_at hl 0 rfl) ?_
      refine va_get (D := D) (ci := 8) (v := .ref (β + off 0)) (C := RX8) (T := TX8) (N := 8) hx hb hts inX8 hown hK.1 (TR.mk0 hR) 0 rfl rfl 0 (by decide) lk10 (fun _ h9 => h9) rfl dX8_recordState_44 ?_
      refine gm_cv (gm_call (As := [.ref (β + off 0)]) (rest := []) (ci := 3) (q := (RX3, TX3, 14)) ⟨hx, hb, hml, hown, hts⟩ hK (c_X3_copy l D cy (β + off ((X 370 ((X 0 6).toNatClampNeg)).toNatClampNeg)) (β + off 0) (vw ((X 370 ((X 0 6).toNatClampNeg)).toNatClampNeg) X) (vw 0 X) (by have q9 := off_ne (j := ((X 370 ((X 0 6).toNatClampNeg)).toNatClampNeg)) (k := 0) (by have q8 := (hh ((X 0 6).toNatClampNeg) (g_in3 c_2)).1; omega); omega)) (cwV 1 hts gX8_recordState_X3_copyFrom rfl rfl rfl (by decide +kernel) ⟨Nat.le_of_ble_eq_true rfl, Nat.le_of_ble_eq_true rfl⟩) (SR.mk0 (TR.st hR (hh _ (g_vl (by
      refine vp_in_iff.mpr ?_
      try simp only [w_ne] at c_1 c_2
      simp only [Int32.le_iff_toInt_le, Int32.lt_iff_toInt_lt, ← Int32.toInt_inj, ti_m5, ti_0, ti_1, ti_2, ti_3, ti_4, ti_5, ti_6, ti_12, ti_19, ti_23, ti_24, ti_39, ti_40, ti_59, ti_60] at c_1 c_2 ⊢
      omega))).2)) rfl ⟨TR.st hR (hh _ (g_vl (by
      refine vp_in_iff.mpr ?_
      try simp only [w_ne] at c_1 c_2
      simp only [Int32.le_iff_toInt_le, Int32.lt_iff_toInt_lt, ← Int32.toInt_inj, ti_m5, ti_0, ti_1, ti_2, ti_3, ti_4, ti_5, ti_6, ti_12, ti_19, ti_23, ti_24, ti_39, ti_40, ti_59, ti_60] at c_1 c_2 ⊢
      omega))).2, TR.st hR (by decide)⟩ rfl hl.1 rfl (Nat.le_of_ble_eq_true rfl) dX8_recordState_47 (Nat.zero_le _) (Nat.zero_le _)) hS (TA_D (hh _ (g_vl (by
      refine vp_in_iff.mpr ?_
      try simp only [w_ne] at c_1 c_2
      simp only [Int32.le_iff_toInt_le, Int32.lt_iff_toInt_lt, ← Int32.toInt_inj, ti_m5, ti_0, ti_1, ti_2, ti_3, ti_4, ti_5, ti_6, ti_12, ti_19, ti_23, ti_24, ti_39, ti_40, ti_59, ti_60] at c_1 c_2 ⊢
      omega))).2 (by decide)) (fun H locs hRR _ hfr hS => ?_)
      have hR := TR.mrgD hR (hh _ (g_vl (by
      refine vp_in_iff.mpr ?_
      try simp only [w_ne] at c_1 c_2
      simp only [Int32.le_iff_toInt_le, Int32.lt_iff_toInt_lt, ← Int32.toInt_inj, ti_m5, ti_0, ti_1, ti_2, ti_3, ti_4, ti_5, ti_6, ti_12, ti_19, ti_23, ti_24, ti_39, ti_40, ti_59, ti_60] at c_1 c_2 ⊢
      omega))).2 (by decide) hRR (by have q8 := (hh ((X 0 6).toNatClampNeg) (g_in3 c_2)).1; omega) hfr
      obtain ⟨X1, eX1⟩ : ∃ Y : gM, Y = putS X ((X 370 ((X 0 6).toNatClampNeg)).toNatClampNeg) (vw 0 X) := ⟨_, rfl⟩
      rw [← eX1] at hR
      refine lv_aload_n hx hb dX8_recordState_50 rfl (lv_at hl 0 rfl) ?_
      refine lv_dup hx hb dX8_recordState_51 rfl ?_
      refine va_get (D := D) (ci := 8) (v := .int (X1 0 6)) (C := RX8) (T := TX8) (N := 8) hx hb hts inX8 hown hK.1 (TR.mk0 hR) 0 rfl rfl 6 (by decide) lk210 (fun _ h9 => h9) rfl dX8_recordState_52 ?_
      refine lv_iconst (v := 1) hx hb dX8_recordState_55 (by decide) ?_
      refine lv_iadd hx hb dX8_recordState_56 ?_
      refine gm_put (v := .int ((X1 0 6) + 1)) (ty := .int) (ci := 8) (C := RX8) (T := TX8) (N := 8) hx hb hts inX8 tyX8 tyX8_ok nmX8 hown hK.1 hR injT hS (a := 0) (by decide) rfl (bT_0) rfl 6 (by decide) lk210 (fun _ h9 => h9) rfl (by decide +kernel) rfl rfl (Nat.le_of_ble_eq_true rfl) (j := 6) (x := (X1 0 6) + 1) (by rw [bT_0]; rfl) dX8_recordState_57 (fun H locs hR hS => ?_)
      obtain ⟨X2, eX2⟩ : ∃ Y : gM, Y = updM X1 0 6 ((X1 0 6) + 1) := ⟨_, rfl⟩
      rw [← eX2] at hR
      exact gm_vret hx hb hr hlocks hS (by (try simp only [p_X8_recordState, ↓if_pos c_1, ↓if_neg c_2, ← eX1, ← eX2]); exact hR) dX8_recordState_60
  · refine lv_aload_n hx hb dX8_recordState_12 rfl (lv_at hl 0 rfl) ?_
    refine gm_cv (gm_call (As := []) (rest := []) (ci := 8) (q := (RX8, TX8, 8)) ⟨hx, hb, hml, hown, hts⟩ hK (c_X8_dropOldestState l D cy β X hh) (cwV 0 hts gX8_recordState_X8_dropOldestState rfl rfl rfl (by decide +kernel) ⟨Nat.le_of_ble_eq_true rfl, Nat.le_of_ble_eq_true rfl⟩) (TR.mk0 hR) rfl hR rfl hl.1 rfl (Nat.le_of_ble_eq_true rfl) dX8_recordState_13 (Nat.zero_le _) (Nat.zero_le _)) hS (fun _ h => h) (fun H locs hR _ _ hS => ?_)
    obtain ⟨X3, eX3⟩ : ∃ Y : gM, Y = p_X8_dropOldestState X := ⟨_, rfl⟩
    rw [← eX3] at hR
    refine lv_aload_n hx hb dX8_recordState_16 rfl (lv_at hl 0 rfl) ?_
    refine va_get (D := D) (ci := 8) (v := .int (X3 0 6)) (C := RX8) (T := TX8) (N := 8) hx hb hts inX8 hown hK.1 (TR.mk0 hR) 0 rfl rfl 6 (by decide) lk210 (fun _ h9 => h9) rfl dX8_recordState_17 ?_
    refine lv_iconst (v := 0) hx hb dX8_recordState_20 (by decide) ?_
    refine lv_aload_n hx hb dX8_recordState_21 rfl (lv_at hl 0 rfl) ?_
    refine va_get (D := D) (ci := 8) (v := .ref (β + 370)) (C := RX8) (T := TX8) (N := 8) hx hb hts inX8 hown hK.1 (TR.mk0 hR) 0 rfl rfl 3 (by decide) lk22 (fun _ h9 => h9) rfl dX8_recordState_22 ?_
    refine va_alen (v := 4) hx hb hK.1 (TR.mkh hR) 0 3 rfl rfl rfl dX8_recordState_25 ?_
    refine lv_iconst (v := 1) hx hb dX8_recordState_26 (by decide) ?_
    refine lv_isub hx hb dX8_recordState_27 ?_
    rw [show (4 - 1 : Int32) = 3 from by decide]
    refine gm_ci (gm_callS (As := [.int (X3 0 6), .int 0, .int 3]) (rest := []) ⟨hx, hb, hml, hown, hts⟩ hK (c_X8_within l D cy (X3 0 6) 0 3) (va_cwS 3 hts gX8_recordState_X8_within rfl rfl rfl (by decide +kernel) ⟨Nat.le_of_ble_eq_true rfl, Nat.le_of_ble_eq_true rfl⟩) trivial rfl hl.1 rfl (Nat.le_of_ble_eq_true rfl) dX8_recordState_28 (Nat.zero_le _) (Nat.zero_le _)) hS (fun _ h => h.elim) (fun H locs _ _ hfr hS => ?_)
    have hR := gRep.keep hR hfr (fun _ _ h => h)
    refine lv_if_eq (tgt := 60) hx hb dX8_recordState_31 (by decide) (fun c_3 => ?_) (fun c_3 => ?_)
    · exact gm_vret hx hb hr hlocks hS (by (try simp only [p_X8_recordState, ↓if_neg c_1, ↓if_pos c_3, ← eX3]); exact hR) dX8_recordState_60
    · refine lv_aload_n hx hb dX8_recordState_34 rfl (lv_at hl 0 rfl) ?_
      refine va_get (D := D) (ci := 8) (v := .ref (β + 370)) (C := RX8) (T := TX8) (N := 8) hx hb hts inX8 hown hK.1 (TR.mk0 hR) 0 rfl rfl 3 (by decide) lk22 (fun _ h9 => h9) rfl dX8_recordState_35 ?_
      refine lv_aload_n hx hb dX8_recordState_38 rfl (lv_at hl 0 rfl) ?_
      refine va_get (D := D) (ci := 8) (v := .int (X3 0 6)) (C := RX8) (T := TX8) (N := 8) hx hb hts inX8 hown hK.1 (TR.mk0 hR) 0 rfl rfl 6 (by decide) lk210 (fun _ h9 => h9) rfl dX8_recordState_39 ?_
      refine gm_aald (b := (β + off ((X3 370 ((X3 0 6).toNatClampNeg)).toNatClampNeg))) hx hb hK.1 (TR.mkh hR) 3 rfl (by
      refine vp_in_iff.mpr ?_
      try simp only [w_ne] at c_1 c_3
      simp only [Int32.le_iff_toInt_le, Int32.lt_iff_toInt_lt, ← Int32.toInt_inj, ti_m5, ti_0, ti_1, ti_2, ti_3, ti_4, ti_5, ti_6, ti_12, ti_19, ti_23, ti_24, ti_39, ti_40, ti_59, ti_60] at c_1 c_3 ⊢
      omega) rfl dX8_recordState_42 ?_
      refine lv_aload_n hx hb dX8_recordState_43 rfl (lv_at hl 0 rfl) ?_
      refine va_get (D := D) (ci := 8) (v := .ref (β + off 0)) (C := RX8) (T := TX8) (N := 8) hx hb hts inX8 hown hK.1 (TR.mk0 hR) 0 rfl rfl 0 (by decide) lk10 (fun _ h9 => h9) rfl dX8_recordState_44 ?_
      refine gm_cv (gm_call (As := [.ref (β + off 0)]) (rest := []) (ci := 3) (q := (RX3, TX3, 14)) ⟨hx, hb, hml, hown, hts⟩ hK (c_X3_copy l D cy (β + off ((X3 370 ((X3 0 6).toNatClampNeg)).toNatClampNeg)) (β + off 0) (vw ((X3 370 ((X3 0 6).toNatClampNeg)).toNatClampNeg) X3) (vw 0 X3) (by have q9 := off_ne (j := ((X3 370 ((X3 0 6).toNatClampNeg)).toNatClampNeg)) (k := 0) (by have q8 := ((by rw [eX3]; exact HOK_drop hh : HOK X3) ((X3 0 6).toNatClampNeg) (g_in3 c_3)).1; omega); omega)) (cwV 1 hts gX8_recordState_X3_copyFrom rfl rfl rfl (by decide +kernel) ⟨Nat.le_of_ble_eq_true rfl, Nat.le_of_ble_eq_true rfl⟩) (SR.mk0 (TR.st hR ((by rw [eX3]; exact HOK_drop hh : HOK X3) _ (g_vl (by
      refine vp_in_iff.mpr ?_
      try simp only [w_ne] at c_1 c_3
      simp only [Int32.le_iff_toInt_le, Int32.lt_iff_toInt_lt, ← Int32.toInt_inj, ti_m5, ti_0, ti_1, ti_2, ti_3, ti_4, ti_5, ti_6, ti_12, ti_19, ti_23, ti_24, ti_39, ti_40, ti_59, ti_60] at c_1 c_3 ⊢
      omega))).2)) rfl ⟨TR.st hR ((by rw [eX3]; exact HOK_drop hh : HOK X3) _ (g_vl (by
      refine vp_in_iff.mpr ?_
      try simp only [w_ne] at c_1 c_3
      simp only [Int32.le_iff_toInt_le, Int32.lt_iff_toInt_lt, ← Int32.toInt_inj, ti_m5, ti_0, ti_1, ti_2, ti_3, ti_4, ti_5, ti_6, ti_12, ti_19, ti_23, ti_24, ti_39, ti_40, ti_59, ti_60] at c_1 c_3 ⊢
      omega))).2, TR.st hR (by decide)⟩ rfl hl.1 rfl (Nat.le_of_ble_eq_true rfl) dX8_recordState_47 (Nat.zero_le _) (Nat.zero_le _)) hS (TA_D ((by rw [eX3]; exact HOK_drop hh : HOK X3) _ (g_vl (by
      refine vp_in_iff.mpr ?_
      try simp only [w_ne] at c_1 c_3
      simp only [Int32.le_iff_toInt_le, Int32.lt_iff_toInt_lt, ← Int32.toInt_inj, ti_m5, ti_0, ti_1, ti_2, ti_3, ti_4, ti_5, ti_6, ti_12, ti_19, ti_23, ti_24, ti_39, ti_40, ti_59, ti_60] at c_1 c_3 ⊢
      omega))).2 (by decide)) (fun H locs hRR _ hfr hS => ?_)
      have hR := TR.mrgD hR ((by rw [eX3]; exact HOK_drop hh : HOK X3) _ (g_vl (by
      refine vp_in_iff.mpr ?_
      try simp only [w_ne] at c_1 c_3
      simp only [Int32.le_iff_toInt_le, Int32.lt_iff_toInt_lt, ← Int32.toInt_inj, ti_m5, ti_0, ti_1, ti_2, ti_3, ti_4, ti_5, ti_6, ti_12, ti_19, ti_23, ti_24, ti_39, ti_40, ti_59, ti_60] at c_1 c_3 ⊢
      omega))).2 (by decide) hRR (by have q8 := ((by rw [eX3]; exact HOK_drop hh : HOK X3) ((X3 0 6).toNatClampNeg) (g_in3 c_3)).1; omega) hfr
      obtain ⟨X4, eX4⟩ : ∃ Y : gM, Y = putS X3 ((X3 370 ((X3 0 6).toNatClampNeg)).toNatClampNeg) (vw 0 X3) := ⟨_, rfl⟩
      rw [← eX4] at hR
      refine lv_aload_n hx hb dX8_recordState_50 rfl (lv_at hl 0 rfl) ?_
      refine lv_dup hx hb dX8_recordState_51 rfl ?_
      refine va_get (D := D) (ci := 8) (v := .int (X4 0 6)) (C := RX8) (T := TX8) (N := 8) hx hb hts inX8 hown hK.1 (TR.mk0 hR) 0 rfl rfl 6 (by decide) lk210 (fun _ h9 => h9) rfl dX8_recordState_52 ?_
      refine lv_iconst (v := 1) hx hb dX8_recordState_55 (by decide) ?_
      refine lv_iadd hx hb dX8_recordState_56 ?_
      refine gm_put (v := .int ((X4 0 6) + 1)) (ty := .int) (ci := 8) (C := RX8) (T := TX8) (N := 8) hx hb hts inX8 tyX8 tyX8_ok nmX8 hown hK.1 hR injT hS (a := 0) (by decide) rfl (bT_0) rfl 6 (by decide) lk210 (fun _ h9 => h9) rfl (by decide +kernel) rfl rfl (Nat.le_of_ble_eq_true rfl) (j := 6) (x := (X4 0 6) + 1) (by rw [bT_0]; rfl) dX8_recordState_57 (fun H locs hR hS => ?_)
      obtain ⟨X5, eX5⟩ : ∃ Y : gM, Y = updM X4 0 6 ((X4 0 6) + 1) := ⟨_, rfl⟩
      rw [← eX5] at hR
      exact gm_vret hx hb hr hlocks hS (by (try simp only [p_X8_recordState, ↓if_neg c_1, ↓if_neg c_3, ← eX3, ← eX4, ← eX5]); exact hR) dX8_recordState_60
