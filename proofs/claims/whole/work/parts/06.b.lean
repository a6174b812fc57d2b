def f_X9_slotAt (X : gM) (a1 : Int32) : Int32 :=
  ((f_X9_ofLine X (a1 / 10) 1) + (X 1 (((f_X9_stationAt a1) + 0).toNatClampNeg))) - ((f_X9_ofLine X (a1 / 10) 1) + (X 1 (((f_X9_stationAt a1) + 0).toNatClampNeg))) / (f_X9_ofLine X (a1 / 10) 0) * (f_X9_ofLine X (a1 / 10) 0)
def ok_X9_slotAt (X : gM) (a1 : Int32) : Prop :=
  (ok_X9_ofLine X (a1 / 10) 1) ∧
  (vp_in ((f_X9_stationAt a1) + 0) 974) ∧
  (ok_X9_ofLine X (a1 / 10) 0) ∧
  (¬ (f_X9_ofLine X (a1 / 10) 0) = 0) ∧
  True
set_option maxHeartbeats 4000000 in
set_option maxRecDepth 100000 in
theorem c_X9_slotAt (l : Launch) (D : va_G) (cy : Nat → ClassId) (μ : Nat) (X : gM) (a1 : Int32)  (hok : ok_X9_slotAt X a1) : Met l yX9_slotAt wsX9_slotAt ({ frames := 1, cells := 0, slots := 0, locals := 22 }) (gP [.ref μ, .int a1] D cy (MR D cy μ X)) (gQi (f_X9_slotAt X a1) (fun _ => True) gNo) 0 0 gNo := by
  refine gm_met (cc := cX9_slotAt) (maxL := 3) (ret := (some .int)) [.ref μ, .int a1] (by decide) rfl (Nat.le_of_ble_eq_true rfl) ?_
  intro p e s m args below meth c0 ls C hR hl
  obtain ⟨hx, hb, hr, hts, hown, hlocks, hml, hK⟩ := C
  have hl : lv_has ls 3 [(0, .ref μ), (1, .int a1)] := hl
  have hS : va_S gNo s.heap s.heap [] := va_S.rf
  have lk7 := hts (.fieldLink RX9 7 "MercuryLineModel" "s" "[I") (by decide +kernel)
  have inX9 : ∀ w ∈ u_ws RX9 TX9 15, w ∈ wsX9_slotAt := by decide +kernel
  unfold ok_X9_slotAt at hok
  refine lv_iload_n hx hb dX9_slotAt_0 rfl (lv_at hl 1 rfl) ?_
  refine lv_bipush (v := 10) hx hb dX9_slotAt_1 (by decide) ?_
  refine lv_idiv hx hb dX9_slotAt_3 (by decide) ?_
  refine lv_istore_n (lv' := [(2, .int (a1 / 10)), (0, .ref μ), (1, .int a1)]) hx hb dX9_slotAt_4 rfl hl (by decide) rfl (fun ls hl => ?_)
  refine lv_aload_n hx hb dX9_slotAt_5 rfl (lv_at hl 1 rfl) ?_
  refine lv_iload_n hx hb dX9_slotAt_6 rfl (lv_at hl 0 rfl) ?_
  refine lv_iconst (v := 1) hx hb dX9_slotAt_7 (by decide) ?_
  obtain ⟨h_1, hok⟩ := hok
  refine gm_ci (gm_call (As := [.int (a1 / 10), .int 1]) (rest := []) (ci := 9) (q := (RX9, TX9, 15)) ⟨hx, hb, hml, hown, hts⟩ hK (c_X9_ofLine l D cy μ X (a1 / 10) 1 h_1) (cwV 2 hts gX9_slotAt_X9_ofLine rfl rfl rfl (by decide +kernel) ⟨Nat.le_of_ble_eq_true rfl, Nat.le_of_ble_eq_true rfl⟩) (MR.mk0 hR) rfl hR rfl hl.1 rfl (Nat.le_of_ble_eq_true rfl) dX9_slotAt_8 (Nat.zero_le _) (Nat.zero_le _)) hS (fun _ h => h.elim) (fun H locs _ _ hfr hS => ?_)
  have hR := gRep.keep hR hfr (fun _ _ h => h)
  refine lv_aload_n hx hb dX9_slotAt_11 rfl (lv_at hl 1 rfl) ?_
  refine va_get (D := D) (ci := 9) (v := .ref (μ + 1)) (C := RX9) (T := TX9) (N := 15) hx hb hts inX9 hown hK.1 (MR.mk0 hR) 0 rfl rfl 0 (by decide) lk7 (fun _ h9 => h9) rfl dX9_slotAt_12 ?_
  refine lv_iload_n hx hb dX9_slotAt_15 rfl (lv_at hl 2 rfl) ?_
  refine gm_ci (gm_callS (As := [.int a1]) (rest := [.ref (μ + 1), .int (f_X9_ofLine X (a1 / 10) 1)]) ⟨hx, hb, hml, hown, hts⟩ hK (c_X9_stationAt l D cy a1) (va_cwS 1 hts gX9_slotAt_X9_stationAt rfl rfl rfl (by decide +kernel) ⟨Nat.le_of_ble_eq_true rfl, Nat.le_of_ble_eq_true rfl⟩) trivial rfl hl.1 rfl (Nat.le_of_ble_eq_true rfl) dX9_slotAt_16 (Nat.zero_le _) (Nat.zero_le _)) hS (fun _ h => h.elim) (fun H locs _ _ hfr hS => ?_)
  have hR := gRep.keep hR hfr (fun _ _ h => h)
  refine lv_iconst (v := 0) hx hb dX9_slotAt_19 (by decide) ?_
  refine lv_iadd hx hb dX9_slotAt_20 ?_
  obtain ⟨h_2, hok⟩ := hok
  refine gm_iald hx hb hK.1 (MR.mk1 hR (c := 1) (by decide) bM_1) h_2 dX9_slotAt_21 ?_
  refine lv_iadd hx hb dX9_slotAt_22 ?_
  refine lv_aload_n hx hb dX9_slotAt_23 rfl (lv_at hl 1 rfl) ?_
  refine lv_iload_n hx hb dX9_slotAt_24 rfl (lv_at hl 0 rfl) ?_
  refine lv_iconst (v := 0) hx hb dX9_slotAt_25 (by decide) ?_
  obtain ⟨h_3, hok⟩ := hok
  refine gm_ci (gm_call (As := [.int (a1 / 10), .int 0]) (rest := [.int ((f_X9_ofLine X (a1 / 10) 1) + (X 1 (((f_X9_stationAt a1) + 0).toNatClampNeg)))]) (ci := 9) (q := (RX9, TX9, 15)) ⟨hx, hb, hml, hown, hts⟩ hK (c_X9_ofLine l D cy μ X (a1 / 10) 0 h_3) (cwV 2 hts gX9_slotAt_X9_ofLine rfl rfl rfl (by decide +kernel) ⟨Nat.le_of_ble_eq_true rfl, Nat.le_of_ble_eq_true rfl⟩) (MR.mk0 hR) rfl hR rfl hl.1 rfl (Nat.le_of_ble_eq_true rfl) dX9_slotAt_26 (Nat.zero_le _) (Nat.zero_le _)) hS (fun _ h => h.elim) (fun H locs _ _ hfr hS => ?_)
  have hR := gRep.keep hR hfr (fun _ _ h => h)
  obtain ⟨h_4, hok⟩ := hok
  refine lv_irem hx hb dX9_slotAt_29 h_4 ?_
  exact gm_iret hx hb hr hlocks hS (by (try simp only [f_X9_slotAt]); (try rfl)) trivial dX9_slotAt_30
def lf_X9_inState_4 (X : gM) (a1 : Int32) (K : (Int32) → (Nat) → (Int32)) : Nat → (Int32) → (Nat) → (Int32)
  | 0, x_2, k_3 => K x_2 k_3
  | n + 1, x_2, k_3 =>
    if X 1 1 ≤ nI k_3 then
      K x_2 k_3
    else
      if f_X9_of X (nI k_3) 6 = a1 then
        lf_X9_inState_4 X a1 K n (x_2 + 1) (k_3 + 1)
      else
        lf_X9_inState_4 X a1 K n (x_2 + 0) (k_3 + 1)
def lok_X9_inState_4 (X : gM) (a1 : Int32) (KO : (Int32) → (Nat) → Prop) : Nat → (Int32) → (Nat) → Prop
  | 0, x_2, k_3 => True
  | n + 1, x_2, k_3 =>
    (if X 1 1 ≤ nI k_3 then
      KO x_2 k_3
    else
      (ok_X9_of X (nI k_3) 6) ∧
      (if f_X9_of X (nI k_3) 6 = a1 then
        lok_X9_inState_4 X a1 KO n (x_2 + 1) (k_3 + 1)
      else
        lok_X9_inState_4 X a1 KO n (x_2 + 0) (k_3 + 1)))
def f_X9_inState (X : gM) (a1 : Int32) : Int32 :=
  lf_X9_inState_4 X a1 (fun x_2w1 k_3w1 =>
        x_2w1) 2147483648 0 0
def ok_X9_inState (X : gM) (a1 : Int32) : Prop :=
  lok_X9_inState_4 X a1 (fun x_2w1 k_3w1 =>
        True) 2147483648 0 0
set_option maxHeartbeats 4000000 in
set_option maxRecDepth 100000 in
theorem lp_X9_inState_4 {p : Program} {l : Launch} {e : Env} {s : State} {m : MethodId} {args : Array Value} {below : List Frame} {meth : Method} {c0 : Code} {D : va_G} {cy : Nat → ClassId} (C : gCtx cX9_inState 4 (some .int) RX9 wsX9_inState D cy p s m args meth c0) (μ : Nat) (X : gM) (a1 : Int32) 
    (KO : (Int32) → (Nat) → Prop) (K : (Int32) → (Nat) → (Int32)) (hexit : ∀ (x_2 : Int32) (k_3 : Nat), k_3 ≤ 2147483647 → KO x_2 k_3 → ∀ (H : Heap) (locs : List Loc) (ls : Array Slot), MR D cy μ X H → va_S gNo s.heap H locs → lv_has ls 4 [(0, .ref μ), (1, .int a1), (2, .int x_2), (3, .int (nI k_3))] → W p l e { frames := 1, cells := 0, slots := 0, locals := 22 } s m args below meth c0 H locs 0 0 (MQ below (gQi (K x_2 k_3) (fun _ => True) gNo) args s 0 0 gNo) (F0 m 39 ls [])) :
    ∀ (n : Nat) (x_2 : Int32) (k_3 : Nat), k_3 ≤ 2147483647 → lok_X9_inState_4 X a1 KO n x_2 k_3 → 2147483647 < k_3 + n → ∀ (H : Heap) (locs : List Loc) (ls : Array Slot), MR D cy μ X H → va_S gNo s.heap H locs → lv_has ls 4 [(0, .ref μ), (1, .int a1), (2, .int x_2), (3, .int (nI k_3))] → W p l e { frames := 1, cells := 0, slots := 0, locals := 22 } s m args below meth c0 H locs 0 0 (MQ below (gQi (lf_X9_inState_4 X a1 K n x_2 k_3) (fun _ => True) gNo) args s 0 0 gNo) (F0 m 4 ls []) := by
  obtain ⟨hx, hb, hr, hts, hown, hlocks, hml, hK⟩ := C
  have lk7 := hts (.fieldLink RX9 7 "MercuryLineModel" "s" "[I") (by decide +kernel)
  have inX9 : ∀ w ∈ u_ws RX9 TX9 15, w ∈ wsX9_inState := by decide +kernel
  intro n
  induction n with
  | zero =>
    intro x_2 k_3 hb_3 hok hme
    exact absurd hme (by omega)
  | succ n ih =>
    intro x_2 k_3 hb_3 hok hme H locs ls hR hS hl
    unfold lok_X9_inState_4 at hok
    refine lv_iload_n hx hb dX9_inState_4 rfl (lv_at hl 3 rfl) ?_
    refine lv_aload_n hx hb dX9_inState_5 rfl (lv_at hl 0 rfl) ?_
    refine va_get (D := D) (ci := 9) (v := .ref (μ + 1)) (C := RX9) (T := TX9) (N := 15) hx hb hts inX9 hown hK.1 (MR.mk0 hR) 0 rfl rfl 0 (by decide) lk7 (fun _ h9 => h9) rfl dX9_inState_6 ?_
    refine lv_iconst (v := 1) hx hb dX9_inState_9 (by decide) ?_
    refine gm_iald hx hb hK.1 (MR.mk1 hR (c := 1) (by decide) bM_1) (vp_in_iff.mpr (by decide)) dX9_inState_10 ?_
    rw [show (1 : Int32).toNatClampNeg = 1 from by decide]
    refine lv_icmp_ge (tgt := 39) hx hb dX9_inState_11 (by decide) (fun c_1 => ?_) (fun c_1 => ?_)
    · try rw [if_pos c_1] at hok
      refine gm_q (Q2 := MQ below (gQi (K x_2 k_3) (fun _ => True) gNo) args s 0 0 gNo) (by simp only [lf_X9_inState_4, ↓if_pos c_1]) ?_
      exact hexit x_2 k_3 hb_3 hok _ _ _ hR hS (lv_sub hl [0, 1, 2, 3] rfl)
    · try rw [if_neg c_1] at hok
      have lt_2 : k_3 < 2147483647 := g_big (Nat.lt_of_le_of_lt hb_3 (by decide)) c_1
      refine lv_iload_n hx hb dX9_inState_14 rfl (lv_at hl 2 rfl) ?_
      refine lv_aload_n hx hb dX9_inState_15 rfl (lv_at hl 0 rfl) ?_
      refine lv_iload_n hx hb dX9_inState_16 rfl (lv_at hl 3 rfl) ?_
      refine lv_bipush (v := 6) hx hb dX9_inState_17 (by decide) ?_
      obtain ⟨h_3, hok⟩ := hok
      refine gm_ci (gm_call (As := [.int (nI k_3), .int 6]) (rest := [.int x_2]) (ci := 9) (q := (RX9, TX9, 15)) ⟨hx, hb, hml, hown, hts⟩ hK (c_X9_of l D cy μ X (nI k_3) 6 h_3) (cwV 2 hts gX9_inState_X9_of rfl rfl rfl (by decide +kernel) ⟨Nat.le_of_ble_eq_true rfl, Nat.le_of_ble_eq_true rfl⟩) (MR.mk0 hR) rfl hR rfl hl.1 rfl (Nat.le_of_ble_eq_true rfl) dX9_inState_19 (Nat.zero_le _) (Nat.zero_le _)) hS (fun _ h => h.elim) (fun H locs _ _ hfr hS => ?_)
      have hR := gRep.keep hR hfr (fun _ _ h => h)
      refine lv_iload_n hx hb dX9_inState_22 rfl (lv_at hl 1 rfl) ?_
      refine lv_icmp_ne (tgt := 30) hx hb dX9_inState_23 (by decide) (fun c_4 => ?_) (fun c_4 => ?_)
      · try rw [if_neg c_4] at hok
        refine lv_iconst (v := 0) hx hb dX9_inState_30 (by decide) ?_
        refine lv_iadd hx hb dX9_inState_31 ?_
        refine lv_istore_n (lv' := [(2, .int (x_2 + 0)), (0, .ref μ), (1, .int a1), (3, .int (nI k_3))]) hx hb dX9_inState_32 rfl hl (by decide) rfl (fun ls hl => ?_)
        refine lv_iinc (v := nI (k_3 + 1)) (lv' := [(3, .int (nI (k_3 + 1))), (2, .int (x_2 + 0)), (0, .ref μ), (1, .int a1)]) hx hb dX9_inState_33 hl (k := 3) rfl (nI_1 _) (by decide) rfl (fun ls hl => ?_)
        refine lv_goto (tgt := 4) hx hb dX9_inState_36 (by decide) ?_
        refine gm_q (Q2 := MQ below (gQi (lf_X9_inState_4 X a1 K n (x_2 + 0) (k_3 + 1)) (fun _ => True) gNo) args s 0 0 gNo) (by simp only [lf_X9_inState_4, ↓if_neg c_1, ↓if_neg c_4]) ?_
        exact ih (x_2 + 0) (k_3 + 1) lt_2 hok (by omega) _ _ _ hR hS (lv_sub hl [2, 3, 1, 0] rfl)
      · try rw [if_pos c_4] at hok
        refine lv_iconst (v := 1) hx hb dX9_inState_26 (by decide) ?_
        refine lv_goto (tgt := 31) hx hb dX9_inState_27 (by decide) ?_
        refine lv_iadd hx hb dX9_inState_31 ?_
        refine lv_istore_n (lv' := [(2, .int (x_2 + 1)), (0, .ref μ), (1, .int a1), (3, .int (nI k_3))]) hx hb dX9_inState_32 rfl hl (by decide) rfl (fun ls hl => ?_)
        refine lv_iinc (v := nI (k_3 + 1)) (lv' := [(3, .int (nI (k_3 + 1))), (2, .int (x_2 + 1)), (0, .ref μ), (1, .int a1)]) hx hb dX9_inState_33 hl (k := 3) rfl (nI_1 _) (by decide) rfl (fun ls hl => ?_)
        refine lv_goto (tgt := 4) hx hb dX9_inState_36 (by decide) ?_
        refine gm_q (Q2 := MQ below (gQi (lf_X9_inState_4 X a1 K n (x_2 + 1) (k_3 + 1)) (fun _ => True) gNo) args s 0 0 gNo) (by simp only [lf_X9_inState_4, ↓if_neg c_1, ↓if_pos c_4]) ?_
        exact ih (x_2 + 1) (k_3 + 1) lt_2 hok (by omega) _ _ _ hR hS (lv_sub hl [2, 3, 1, 0] rfl)
set_option maxHeartbeats 4000000 in
set_option maxRecDepth 100000 in
theorem c_X9_inState (l : Launch) (D : va_G) (cy : Nat → ClassId) (μ : Nat) (X : gM) (a1 : Int32)  (hok : ok_X9_inState X a1) : Met l yX9_inState wsX9_inState ({ frames := 1, cells := 0, slots := 0, locals := 22 }) (gP [.ref μ, .int a1] D cy (MR D cy μ X)) (gQi (f_X9_inState X a1) (fun _ => True) gNo) 0 0 gNo := by
  refine gm_met (cc := cX9_inState) (maxL := 4) (ret := (some .int)) [.ref μ, .int a1] (by decide) rfl (Nat.le_of_ble_eq_true rfl) ?_
  intro p e s m args below meth c0 ls C hR hl
  obtain ⟨hx, hb, hr, hts, hown, hlocks, hml, hK⟩ := C
  have hl : lv_has ls 4 [(0, .ref μ), (1, .int a1)] := hl
  have hS : va_S gNo s.heap s.heap [] := va_S.rf
  unfold ok_X9_inState at hok
  refine lv_iconst (v := 0) hx hb dX9_inState_0 (by decide) ?_
  refine lv_istore_n (lv' := [(2, .int 0), (0, .ref μ), (1, .int a1)]) hx hb dX9_inState_1 rfl hl (by decide) rfl (fun ls hl => ?_)
  refine lv_iconst (v := 0) hx hb dX9_inState_2 (by decide) ?_
  refine lv_istore_n (lv' := [(3, .int 0), (2, .int 0), (0, .ref μ), (1, .int a1)]) hx hb dX9_inState_3 rfl hl (by decide) rfl (fun ls hl => ?_)
  refine gm_q (Q2 := MQ below (gQi (lf_X9_inState_4 X a1 (fun x_2w1 k_3w1 =>
        x_2w1) 2147483648 0 0) (fun _ => True) gNo) args s 0 0 gNo) (by simp only [f_X9_inState]) ?_
  refine lp_X9_inState_4 ⟨hx, hb, hr, hts, hown, hlocks, hml, hK⟩ μ X a1  _ _ (fun x_2w1 k_3w1 hbk_3w1 hok H locs ls hR hS hl => ?_) 2147483648 0 0 (by decide) hok (by omega) _ _ _ hR hS (lv_sub hl [2, 3, 1, 0] rfl)
  refine lv_iload_n hx hb dX9_inState_39 rfl (lv_at hl 2 rfl) ?_
  exact gm_iret hx hb hr hlocks hS (by (try simp only [f_X9_inState]); (try rfl)) trivial dX9_inState_40
def lf_X9_on_5 (X : gM) (a1 : Int32) (a2 : Int32) (K : (Int32) → (Nat) → (Int32)) : Nat → (Int32) → (Nat) → (Int32)
  | 0, x_3, k_4 => K x_3 k_4
  | n + 1, x_3, k_4 =>
    if X 1 1 ≤ nI k_4 then
      K x_3 k_4
    else
      if f_X9_of X (nI k_4) 6 = a2 then
        if f_X9_of X (nI k_4) 7 = a1 then
          lf_X9_on_5 X a1 a2 K n (x_3 + 1) (k_4 + 1)
        else
          lf_X9_on_5 X a1 a2 K n (x_3 + 0) (k_4 + 1)
      else
        lf_X9_on_5 X a1 a2 K n (x_3 + 0) (k_4 + 1)
def lok_X9_on_5 (X : gM) (a1 : Int32) (a2 : Int32) (KO : (Int32) → (Nat) → Prop) : Nat → (Int32) → (Nat) → Prop
  | 0, x_3, k_4 => True
  | n + 1, x_3, k_4 =>
    (if X 1 1 ≤ nI k_4 then
      KO x_3 k_4
    else
      (ok_X9_of X (nI k_4) 6) ∧
      (if f_X9_of X (nI k_4) 6 = a2 then
        (ok_X9_of X (nI k_4) 7) ∧
        (if f_X9_of X (nI k_4) 7 = a1 then
          lok_X9_on_5 X a1 a2 KO n (x_3 + 1) (k_4 + 1)
        else
          lok_X9_on_5 X a1 a2 KO n (x_3 + 0) (k_4 + 1))
      else
        lok_X9_on_5 X a1 a2 KO n (x_3 + 0) (k_4 + 1)))
def f_X9_on (X : gM) (a1 : Int32) (a2 : Int32) : Int32 :=
  lf_X9_on_5 X a1 a2 (fun x_3w1 k_4w1 =>
        x_3w1) 2147483648 0 0
def ok_X9_on (X : gM) (a1 : Int32) (a2 : Int32) : Prop :=
  lok_X9_on_5 X a1 a2 (fun x_3w1 k_4w1 =>
        True) 2147483648 0 0
set_option maxHeartbeats 4000000 in
set_option maxRecDepth 100000 in
theorem lp_X9_on_5 {p : Program} {l : Launch} {e : Env} {s : State} {m : MethodId} {args : Array Value} {below : List Frame} {meth : Method} {c0 : Code} {D : va_G} {cy : Nat → ClassId} (C : gCtx cX9_on 5 (some .int) RX9 wsX9_on D cy p s m args meth c0) (μ : Nat) (X : gM) (a1 : Int32) (a2 : Int32) 
    (KO : (Int32) → (Nat) → Prop) (K : (Int32) → (Nat) → (Int32)) (hexit : ∀ (x_3 : Int32) (k_4 : Nat), k_4 ≤ 2147483647 → KO x_3 k_4 → ∀ (H : Heap) (locs : List Loc) (ls : Array Slot), MR D cy μ X H → va_S gNo s.heap H locs → lv_has ls 5 [(0, .ref μ), (1, .int a1), (2, .int a2), (3, .int x_3), (4, .int (nI k_4))] → W p l e { frames := 1, cells := 0, slots := 0, locals := 22 } s m args below meth c0 H locs 0 0 (MQ below (gQi (K x_3 k_4) (fun _ => True) gNo) args s 0 0 gNo) (F0 m 54 ls [])) :
    ∀ (n : Nat) (x_3 : Int32) (k_4 : Nat), k_4 ≤ 2147483647 → lok_X9_on_5 X a1 a2 KO n x_3 k_4 → 2147483647 < k_4 + n → ∀ (H : Heap) (locs : List Loc) (ls : Array Slot), MR D cy μ X H → va_S gNo s.heap H locs → lv_has ls 5 [(0, .ref μ), (1, .int a1), (2, .int a2), (3, .int x_3), (4, .int (nI k_4))] → W p l e { frames := 1, cells := 0, slots := 0, locals := 22 } s m args below meth c0 H locs 0 0 (MQ below (gQi (lf_X9_on_5 X a1 a2 K n x_3 k_4) (fun _ => True) gNo) args s 0 0 gNo) (F0 m 5 ls []) := by
  obtain ⟨hx, hb, hr, hts, hown, hlocks, hml, hK⟩ := C
  have lk7 := hts (.fieldLink RX9 7 "MercuryLineModel" "s" "[I") (by decide +kernel)
  have inX9 : ∀ w ∈ u_ws RX9 TX9 15, w ∈ wsX9_on := by decide +kernel
  intro n
  induction n with
  | zero =>
    intro x_3 k_4 hb_4 hok hme
    exact absurd hme (by omega)
  | succ n ih =>
    intro x_3 k_4 hb_4 hok hme H locs ls hR hS hl
    unfold lok_X9_on_5 at hok
    refine lv_iload hx hb dX9_on_5 (lv_at hl 4 rfl) ?_
    refine lv_aload_n hx hb dX9_on_7 rfl (lv_at hl 0 rfl) ?_
    refine va_get (D := D) (ci := 9) (v := .ref (μ + 1)) (C := RX9) (T := TX9) (N := 15) hx hb hts inX9 hown hK.1 (MR.mk0 hR) 0 rfl rfl 0 (by decide) lk7 (fun _ h9 => h9) rfl dX9_on_8 ?_
    refine lv_iconst (v := 1) hx hb dX9_on_11 (by decide) ?_
    refine gm_iald hx hb hK.1 (MR.mk1 hR (c := 1) (by decide) bM_1) (vp_in_iff.mpr (by decide)) dX9_on_12 ?_
    rw [show (1 : Int32).toNatClampNeg = 1 from by decide]
    refine lv_icmp_ge (tgt := 54) hx hb dX9_on_13 (by decide) (fun c_1 => ?_) (fun c_1 => ?_)
    · try rw [if_pos c_1] at hok
      refine gm_q (Q2 := MQ below (gQi (K x_3 k_4) (fun _ => True) gNo) args s 0 0 gNo) (by simp only [lf_X9_on_5, ↓if_pos c_1]) ?_
      exact hexit x_3 k_4 hb_4 hok _ _ _ hR hS (lv_sub hl [0, 1, 2, 3, 4] rfl)
    · try rw [if_neg c_1] at hok
      have lt_2 : k_4 < 2147483647 := g_big (Nat.lt_of_le_of_lt hb_4 (by decide)) c_1
      refine lv_iload_n hx hb dX9_on_16 rfl (lv_at hl 3 rfl) ?_
      refine lv_aload_n hx hb dX9_on_17 rfl (lv_at hl 0 rfl) ?_
      refine lv_iload hx hb dX9_on_18 (lv_at hl 4 rfl) ?_
      refine lv_bipush (v := 6) hx hb dX9_on_20 (by decide) ?_
      obtain ⟨h_3, hok⟩ := hok
      refine gm_ci (gm_call (As := [.int (nI k_4), .int 6]) (rest := [.int x_3]) (ci := 9) (q := (RX9, TX9, 15)) ⟨hx, hb, hml, hown, hts⟩ hK (c_X9_of l D cy μ X (nI k_4) 6 h_3) (cwV 2 hts gX9_on_X9_of rfl rfl rfl (by decide +kernel) ⟨Nat.le_of_ble_eq_true rfl, Nat.le_of_ble_eq_true rfl⟩) (MR.mk0 hR) rfl hR rfl hl.1 rfl (Nat.le_of_ble_eq_true rfl) dX9_on_22 (Nat.zero_le _) (Nat.zero_le _)) hS (fun _ h => h.elim) (fun H locs _ _ hfr hS => ?_)
      have hR := gRep.keep hR hfr (fun _ _ h => h)
      refine lv_iload_n hx hb dX9_on_25 rfl (lv_at hl 2 rfl) ?_
      refine lv_icmp_ne (tgt := 45) hx hb dX9_on_26 (by decide) (fun c_4 => ?_) (fun c_4 => ?_)
      · try rw [if_neg c_4] at hok
        refine lv_iconst (v := 0) hx hb dX9_on_45 (by decide) ?_
        refine lv_iadd hx hb dX9_on_46 ?_
        refine lv_istore_n (lv' := [(3, .int (x_3 + 0)), (0, .ref μ), (1, .int a1), (2, .int a2), (4, .int (nI k_4))]) hx hb dX9_on_47 rfl hl (by decide) rfl (fun ls hl => ?_)
        refine lv_iinc (v := nI (k_4 + 1)) (lv' := [(4, .int (nI (k_4 + 1))), (3, .int (x_3 + 0)), (0, .ref μ), (1, .int a1), (2, .int a2)]) hx hb dX9_on_48 hl (k := 4) rfl (nI_1 _) (by decide) rfl (fun ls hl => ?_)
        refine lv_goto (tgt := 5) hx hb dX9_on_51 (by decide) ?_
        refine gm_q (Q2 := MQ below (gQi (lf_X9_on_5 X a1 a2 K n (x_3 + 0) (k_4 + 1)) (fun _ => True) gNo) args s 0 0 gNo) (by simp only [lf_X9_on_5, ↓if_neg c_1, ↓if_neg c_4]) ?_
        exact ih (x_3 + 0) (k_4 + 1) lt_2 hok (by omega) _ _ _ hR hS (lv_sub hl [2, 3, 4, 1, 0] rfl)
      · try rw [if_pos c_4] at hok
        refine lv_aload_n hx hb dX9_on_29 rfl (lv_at hl 0 rfl) ?_
        refine lv_iload hx hb dX9_on_30 (lv_at hl 4 rfl) ?_
        refine lv_bipush (v := 7) hx hb dX9_on_32 (by decide) ?_
        obtain ⟨h_5, hok⟩ := hok
        refine gm_ci (gm_call (As := [.int (nI k_4), .int 7]) (rest := [.int x_3]) (ci := 9) (q := (RX9, TX9, 15)) ⟨hx, hb, hml, hown, hts⟩ hK (c_X9_of l D cy μ X (nI k_4) 7 h_5) (cwV 2 hts gX9_on_X9_of rfl rfl rfl (by decide +kernel) ⟨Nat.le_of_ble_eq_true rfl, Nat.le_of_ble_eq_true rfl⟩) (MR.mk0 hR) rfl hR rfl hl.1 rfl (Nat.le_of_ble_eq_true rfl) dX9_on_34 (Nat.zero_le _) (Nat.zero_le _)) hS (fun _ h => h.elim) (fun H locs _ _ hfr hS => ?_)
        have hR := gRep.keep hR hfr (fun _ _ h => h)
        refine lv_iload_n hx hb dX9_on_37 rfl (lv_at hl 1 rfl) ?_
        refine lv_icmp_ne (tgt := 45) hx hb dX9_on_38 (by decide) (fun c_6 => ?_) (fun c_6 => ?_)
        · try rw [if_neg c_6] at hok
          refine lv_iconst (v := 0) hx hb dX9_on_45 (by decide) ?_
          refine lv_iadd hx hb dX9_on_46 ?_
          refine lv_istore_n (lv' := [(3, .int (x_3 + 0)), (0, .ref μ), (1, .int a1), (2, .int a2), (4, .int (nI k_4))]) hx hb dX9_on_47 rfl hl (by decide) rfl (fun ls hl => ?_)
          refine lv_iinc (v := nI (k_4 + 1)) (lv' := [(4, .int (nI (k_4 + 1))), (3, .int (x_3 + 0)), (0, .ref μ), (1, .int a1), (2, .int a2)]) hx hb dX9_on_48 hl (k := 4) rfl (nI_1 _) (by decide) rfl (fun ls hl => ?_)
          refine lv_goto (tgt := 5) hx hb dX9_on_51 (by decide) ?_
          refine gm_q (Q2 := MQ below (gQi (lf_X9_on_5 X a1 a2 K n (x_3 + 0) (k_4 + 1)) (fun _ => True) gNo) args s 0 0 gNo) (by simp only [lf_X9_on_5, ↓if_neg c_1, ↓if_pos c_4, ↓if_neg c_6]) ?_
          exact ih (x_3 + 0) (k_4 + 1) lt_2 hok (by omega) _ _ _ hR hS (lv_sub hl [2, 3, 4, 1, 0] rfl)
        · try rw [if_pos c_6] at hok
          refine lv_iconst (v := 1) hx hb dX9_on_41 (by decide) ?_
          refine lv_goto (tgt := 46) hx hb dX9_on_42 (by decide) ?_
          refine lv_iadd hx hb dX9_on_46 ?_
          refine lv_istore_n (lv' := [(3, .int (x_3 + 1)), (0, .ref μ), (1, .int a1), (2, .int a2), (4, .int (nI k_4))]) hx hb dX9_on_47 rfl hl (by decide) rfl (fun ls hl => ?_)
          refine lv_iinc (v := nI (k_4 + 1)) (lv' := [(4, .int (nI (k_4 + 1))), (3, .int (x_3 + 1)), (0, .ref μ), (1, .int a1), (2, .int a2)]) hx hb dX9_on_48 hl (k := 4) rfl (nI_1 _) (by decide) rfl (fun ls hl => ?_)
          refine lv_goto (tgt := 5) hx hb dX9_on_51 (by decide) ?_
          refine gm_q (Q2 := MQ below (gQi (lf_X9_on_5 X a1 a2 K n (x_3 + 1) (k_4 + 1)) (fun _ => True) gNo) args s 0 0 gNo) (by simp only [lf_X9_on_5, ↓if_neg c_1, ↓if_pos c_4, ↓if_pos c_6]) ?_
          exact ih (x_3 + 1) (k_4 + 1) lt_2 hok (by omega) _ _ _ hR hS (lv_sub hl [2, 3, 4, 1, 0] rfl)
set_option maxHeartbeats 4000000 in
set_option maxRecDepth 100000 in
theorem c_X9_on (l : Launch) (D : va_G) (cy : Nat → ClassId) (μ : Nat) (X : gM) (a1 : Int32) (a2 : Int32)  (hok : ok_X9_on X a1 a2) : Met l yX9_on wsX9_on ({ frames := 1, cells := 0, slots := 0, locals := 22 }) (gP [.ref μ, .int a1, .int a2] D cy (MR D cy μ X)) (gQi (f_X9_on X a1 a2) (fun _ => True) gNo) 0 0 gNo := by
  refine gm_met (cc := cX9_on) (maxL := 5) (ret := (some .int)) [.ref μ, .int a1, .int a2] (by decide) rfl (Nat.le_of_ble_eq_true rfl) ?_
  intro p e s m args below meth c0 ls C hR hl
  obtain ⟨hx, hb, hr, hts, hown, hlocks, hml, hK⟩ := C
  have hl : lv_has ls 5 [(0, .ref μ), (1, .int a1), (2, .int a2)] := hl
  have hS : va_S gNo s.heap s.heap [] := va_S.rf
  unfold ok_X9_on at hok
  refine lv_iconst (v := 0) hx hb dX9_on_0 (by decide) ?_
  refine lv_istore_n (lv' := [(3, .int 0), (0, .ref μ), (1, .int a1), (2, .int a2)]) hx hb dX9_on_1 rfl hl (by decide) rfl (fun ls hl => ?_)
  refine lv_iconst (v := 0) hx hb dX9_on_2 (by decide) ?_
  refine lv_istore (lv' := [(4, .int 0), (3, .int 0), (0, .ref μ), (1, .int a1), (2, .int a2)]) hx hb dX9_on_3 hl (by decide) rfl (fun ls hl => ?_)
  refine gm_q (Q2 := MQ below (gQi (lf_X9_on_5 X a1 a2 (fun x_3w1 k_4w1 =>
        x_3w1) 2147483648 0 0) (fun _ => True) gNo) args s 0 0 gNo) (by simp only [f_X9_on]) ?_
  refine lp_X9_on_5 ⟨hx, hb, hr, hts, hown, hlocks, hml, hK⟩ μ X a1 a2  _ _ (fun x_3w1 k_4w1 hbk_4w1 hok H locs ls hR hS hl => ?_) 2147483648 0 0 (by decide) hok (by omega) _ _ _ hR hS (lv_sub hl [2, 3, 4, 1, 0] rfl)
  refine lv_iload_n hx hb dX9_on_54 rfl (lv_at hl 3 rfl) ?_
  exact gm_iret hx hb hr hlocks hS (by (try simp only [f_X9_on]); (try rfl)) trivial dX9_on_55
def f_X9_isWaiting (X : gM) (a1 : Int32) (a2 : Int32) : Int32 :=
  if f_X9_of X a1 6 = 0 then
    if f_X9_of X a1 2 = a2 then
      1
    else
      0
  else
    0
def ok_X9_isWaiting (X : gM) (a1 : Int32) (a2 : Int32) : Prop :=
  (ok_X9_of X a1 6) ∧
  (if f_X9_of X a1 6 = 0 then
    (ok_X9_of X a1 2) ∧
    True
  else
    True)
set_option maxHeartbeats 4000000 in
set_option maxRecDepth 100000 in
theorem c_X9_isWaiting (l : Launch) (D : va_G) (cy : Nat → ClassId) (μ : Nat) (X : gM) (a1 : Int32) (a2 : Int32)  (hok : ok_X9_isWaiting X a1 a2) : Met l yX9_isWaiting wsX9_isWaiting ({ frames := 1, cells := 0, slots := 0, locals := 22 }) (gP [.ref μ, .int a1, .int a2] D cy (MR D cy μ X)) (gQi (f_X9_isWaiting X a1 a2) (fun _ => True) gNo) 0 0 gNo := by
  refine gm_met (cc := cX9_isWaiting) (maxL := 3) (ret := (some .boolean)) [.ref μ, .int a1, .int a2] (by decide) rfl (Nat.le_of_ble_eq_true rfl) ?_
  intro p e s m args below meth c0 ls C hR hl
  obtain ⟨hx, hb, hr, hts, hown, hlocks, hml, hK⟩ := C
  have hl : lv_has ls 3 [(0, .ref μ), (1, .int a1), (2, .int a2)] := hl
  have hS : va_S gNo s.heap s.heap [] := va_S.rf
  unfold ok_X9_isWaiting at hok
  refine lv_aload_n hx hb dX9_isWaiting_0 rfl (lv_at hl 0 rfl) ?_
  refine lv_iload_n hx hb dX9_isWaiting_1 rfl (lv_at hl 1 rfl) ?_
  refine lv_bipush (v := 6) hx hb dX9_isWaiting_2 (by decide) ?_
  obtain ⟨h_1, hok⟩ := hok
  refine gm_ci (gm_call (As := [.int a1, .int 6]) (rest := []) (ci := 9) (q := (RX9, TX9, 15)) ⟨hx, hb, hml, hown, hts⟩ hK (c_X9_of l D cy μ X a1 6 h_1) (cwV 2 hts gX9_isWaiting_X9_of rfl rfl rfl (by decide +kernel) ⟨Nat.le_of_ble_eq_true rfl, Nat.le_of_ble_eq_true rfl⟩) (MR.mk0 hR) rfl hR rfl hl.1 rfl (Nat.le_of_ble_eq_true rfl) dX9_isWaiting_4 (Nat.zero_le _) (Nat.zero_le _)) hS (fun _ h => h.elim) (fun H locs _ _ hfr hS => ?_)
  have hR := gRep.keep hR hfr (fun _ _ h => h)
  refine lv_if_ne (tgt := 24) hx hb dX9_isWaiting_7 (by decide) (fun c_2 => ?_) (fun c_2 => ?_)
  · try rw [if_neg c_2] at hok
    refine lv_iconst (v := 0) hx hb dX9_isWaiting_24 (by decide) ?_
    exact gm_zret hx hb hr hlocks rfl hS (by (try simp only [f_X9_isWaiting, ↓if_neg c_2]); (try rfl)) trivial dX9_isWaiting_25
  · try rw [if_pos c_2] at hok
    refine lv_aload_n hx hb dX9_isWaiting_10 rfl (lv_at hl 0 rfl) ?_
    refine lv_iload_n hx hb dX9_isWaiting_11 rfl (lv_at hl 1 rfl) ?_
    refine lv_iconst (v := 2) hx hb dX9_isWaiting_12 (by decide) ?_
    obtain ⟨h_3, hok⟩ := hok
    refine gm_ci (gm_call (As := [.int a1, .int 2]) (rest := []) (ci := 9) (q := (RX9, TX9, 15)) ⟨hx, hb, hml, hown, hts⟩ hK (c_X9_of l D cy μ X a1 2 h_3) (cwV 2 hts gX9_isWaiting_X9_of rfl rfl rfl (by decide +kernel) ⟨Nat.le_of_ble_eq_true rfl, Nat.le_of_ble_eq_true rfl⟩) (MR.mk0 hR) rfl hR rfl hl.1 rfl (Nat.le_of_ble_eq_true rfl) dX9_isWaiting_13 (Nat.zero_le _) (Nat.zero_le _)) hS (fun _ h => h.elim) (fun H locs _ _ hfr hS => ?_)
    have hR := gRep.keep hR hfr (fun _ _ h => h)
    refine lv_iload_n hx hb dX9_isWaiting_16 rfl (lv_at hl 2 rfl) ?_
    refine lv_icmp_ne (tgt := 24) hx hb dX9_isWaiting_17 (by decide) (fun c_4 => ?_) (fun c_4 => ?_)
    · try rw [if_neg c_4] at hok
      refine lv_iconst (v := 0) hx hb dX9_isWaiting_24 (by decide) ?_
      exact gm_zret hx hb hr hlocks rfl hS (by (try simp only [f_X9_isWaiting, ↓if_pos c_2, ↓if_neg c_4]); (try rfl)) trivial dX9_isWaiting_25
    · try rw [if_pos c_4] at hok
      refine lv_iconst (v := 1) hx hb dX9_isWaiting_20 (by decide) ?_
      refine lv_goto (tgt := 25) hx hb dX9_isWaiting_21 (by decide) ?_
      exact gm_zret hx hb hr hlocks rfl hS (by (try simp only [f_X9_isWaiting, ↓if_pos c_2, ↓if_pos c_4]); (try rfl)) trivial dX9_isWaiting_25
def lf_X9_ahead_5 (X : gM) (a1 : Int32) (a2 : Int32) (K : (Int32) → (Nat) → (Int32)) : Nat → (Int32) → (Nat) → (Int32)
  | 0, x_3, k_4 => K x_3 k_4
  | n + 1, x_3, k_4 =>
    if X 1 1 ≤ nI k_4 then
      K x_3 k_4
    else
      if f_X9_of X a1 1 < f_X9_of X (nI k_4) 1 then
        if f_X9_isWaiting X (nI k_4) a2 = 0 then
          lf_X9_ahead_5 X a1 a2 K n (x_3 + 0) (k_4 + 1)
        else
          lf_X9_ahead_5 X a1 a2 K n (x_3 + 1) (k_4 + 1)
      else
        if f_X9_of X (nI k_4) 1 = f_X9_of X a1 1 then
          if a1 ≤ nI k_4 then
            lf_X9_ahead_5 X a1 a2 K n (x_3 + 0) (k_4 + 1)
          else
            if f_X9_isWaiting X (nI k_4) a2 = 0 then
              lf_X9_ahead_5 X a1 a2 K n (x_3 + 0) (k_4 + 1)
            else
              lf_X9_ahead_5 X a1 a2 K n (x_3 + 1) (k_4 + 1)
        else
          lf_X9_ahead_5 X a1 a2 K n (x_3 + 0) (k_4 + 1)
def lok_X9_ahead_5 (X : gM) (a1 : Int32) (a2 : Int32) (KO : (Int32) → (Nat) → Prop) : Nat → (Int32) → (Nat) → Prop
  | 0, x_3, k_4 => True
  | n + 1, x_3, k_4 =>
    (if X 1 1 ≤ nI k_4 then
      KO x_3 k_4
    else
      (ok_X9_of X (nI k_4) 1) ∧
      (ok_X9_of X a1 1) ∧
      (if f_X9_of X a1 1 < f_X9_of X (nI k_4) 1 then
        (ok_X9_isWaiting X (nI k_4) a2) ∧
        (if f_X9_isWaiting X (nI k_4) a2 = 0 then
          lok_X9_ahead_5 X a1 a2 KO n (x_3 + 0) (k_4 + 1)
        else
          lok_X9_ahead_5 X a1 a2 KO n (x_3 + 1) (k_4 + 1))
      else
        (ok_X9_of X (nI k_4) 1) ∧
        (ok_X9_of X a1 1) ∧
        (if f_X9_of X (nI k_4) 1 = f_X9_of X a1 1 then
          (if a1 ≤ nI k_4 then
            lok_X9_ahead_5 X a1 a2 KO n (x_3 + 0) (k_4 + 1)
          else
            (ok_X9_isWaiting X (nI k_4) a2) ∧
            (if f_X9_isWaiting X (nI k_4) a2 = 0 then
              lok_X9_ahead_5 X a1 a2 KO n (x_3 + 0) (k_4 + 1)
            else
              lok_X9_ahead_5 X a1 a2 KO n (x_3 + 1) (k_4 + 1)))
        else
          lok_X9_ahead_5 X a1 a2 KO n (x_3 + 0) (k_4 + 1))))
def f_X9_ahead (X : gM) (a1 : Int32) (a2 : Int32) : Int32 :=
  lf_X9_ahead_5 X a1 a2 (fun x_3w1 k_4w1 =>
        x_3w1) 2147483648 0 0
def ok_X9_ahead (X : gM) (a1 : Int32) (a2 : Int32) : Prop :=
  lok_X9_ahead_5 X a1 a2 (fun x_3w1 k_4w1 =>
        True) 2147483648 0 0
set_option maxHeartbeats 4000000 in
set_option maxRecDepth 100000 in
theorem lp_X9_ahead_5 {p : Program} {l : Launch} {e : Env} {s : State} {m : MethodId} {args : Array Value} {below : List Frame} {meth : Method} {c0 : Code} {D : va_G} {cy : Nat → ClassId} (C : gCtx cX9_ahead 6 (some .int) RX9 wsX9_ahead D cy p s m args meth c0) (μ : Nat) (X : gM) (a1 : Int32) (a2 : Int32) 
    (KO : (Int32) → (Nat) → Prop) (K : (Int32) → (Nat) → (Int32)) (hexit : ∀ (x_3 : Int32) (k_4 : Nat), k_4 ≤ 2147483647 → KO x_3 k_4 → ∀ (H : Heap) (locs : List Loc) (ls : Array Slot), MR D cy μ X H → va_S gNo s.heap H locs → lv_has ls 6 [(0, .ref μ), (1, .int a1), (2, .int a2), (3, .int x_3), (4, .int (nI k_4))] → W p l e { frames := 2, cells := 0, slots := 0, locals := 44 } s m args below meth c0 H locs 0 0 (MQ below (gQi (K x_3 k_4) (fun _ => True) gNo) args s 0 0 gNo) (F0 m 90 ls [])) :
    ∀ (n : Nat) (x_3 : Int32) (k_4 : Nat), k_4 ≤ 2147483647 → lok_X9_ahead_5 X a1 a2 KO n x_3 k_4 → 2147483647 < k_4 + n → ∀ (H : Heap) (locs : List Loc) (ls : Array Slot), MR D cy μ X H → va_S gNo s.heap H locs → lv_has ls 6 [(0, .ref μ), (1, .int a1), (2, .int a2), (3, .int x_3), (4, .int (nI k_4))] → W p l e { frames := 2, cells := 0, slots := 0, locals := 44 } s m args below meth c0 H locs 0 0 (MQ below (gQi (lf_X9_ahead_5 X a1 a2 K n x_3 k_4) (fun _ => True) gNo) args s 0 0 gNo) (F0 m 5 ls []) := by
  obtain ⟨hx, hb, hr, hts, hown, hlocks, hml, hK⟩ := C
  have lk7 := hts (.fieldLink RX9 7 "MercuryLineModel" "s" "[I") (by decide +kernel)
  have inX9 : ∀ w ∈ u_ws RX9 TX9 15, w ∈ wsX9_ahead := by decide +kernel
  intro n
  induction n with
  | zero =>
    intro x_3 k_4 hb_4 hok hme
    exact absurd hme (by omega)
  | succ n ih =>
    intro x_3 k_4 hb_4 hok hme H locs ls hR hS hl
    unfold lok_X9_ahead_5 at hok
    refine lv_iload hx hb dX9_ahead_5 (lv_at hl 4 rfl) ?_
    refine lv_aload_n hx hb dX9_ahead_7 rfl (lv_at hl 0 rfl) ?_
    refine va_get (D := D) (ci := 9) (v := .ref (μ + 1)) (C := RX9) (T := TX9) (N := 15) hx hb hts inX9 hown hK.1 (MR.mk0 hR) 0 rfl rfl 0 (by decide) lk7 (fun _ h9 => h9) rfl dX9_ahead_8 ?_
    refine lv_iconst (v := 1) hx hb dX9_ahead_11 (by decide) ?_
    refine gm_iald hx hb hK.1 (MR.mk1 hR (c := 1) (by decide) bM_1) (vp_in_iff.mpr (by decide)) dX9_ahead_12 ?_
    rw [show (1 : Int32).toNatClampNeg = 1 from by decide]
    refine lv_icmp_ge (tgt := 90) hx hb dX9_ahead_13 (by decide) (fun c_1 => ?_) (fun c_1 => ?_)
    · try rw [if_pos c_1] at hok
      refine gm_q (Q2 := MQ below (gQi (K x_3 k_4) (fun _ => True) gNo) args s 0 0 gNo) (by simp only [lf_X9_ahead_5, ↓if_pos c_1]) ?_
      exact hexit x_3 k_4 hb_4 hok _ _ _ hR hS (lv_sub hl [0, 1, 2, 3, 4] rfl)
    · try rw [if_neg c_1] at hok
      have lt_2 : k_4 < 2147483647 := g_big (Nat.lt_of_le_of_lt hb_4 (by decide)) c_1
      refine lv_aload_n hx hb dX9_ahead_16 rfl (lv_at hl 0 rfl) ?_
      refine lv_iload hx hb dX9_ahead_17 (lv_at hl 4 rfl) ?_
      refine lv_iconst (v := 1) hx hb dX9_ahead_19 (by decide) ?_
      obtain ⟨h_3, hok⟩ := hok
      refine gm_ci (gm_call (As := [.int (nI k_4), .int 1]) (rest := []) (ci := 9) (q := (RX9, TX9, 15)) ⟨hx, hb, hml, hown, hts⟩ hK (c_X9_of l D cy μ X (nI k_4) 1 h_3) (cwV 2 hts gX9_ahead_X9_of rfl rfl rfl (by decide +kernel) ⟨Nat.le_of_ble_eq_true rfl, Nat.le_of_ble_eq_true rfl⟩) (MR.mk0 hR) rfl hR rfl hl.1 rfl (Nat.le_of_ble_eq_true rfl) dX9_ahead_20 (Nat.zero_le _) (Nat.zero_le _)) hS (fun _ h => h.elim) (fun H locs _ _ hfr hS => ?_)
      have hR := gRep.keep hR hfr (fun _ _ h => h)
      refine lv_aload_n hx hb dX9_ahead_23 rfl (lv_at hl 0 rfl) ?_
      refine lv_iload_n hx hb dX9_ahead_24 rfl (lv_at hl 1 rfl) ?_
      refine lv_iconst (v := 1) hx hb dX9_ahead_25 (by decide) ?_
      obtain ⟨h_4, hok⟩ := hok
      refine gm_ci (gm_call (As := [.int a1, .int 1]) (rest := [.int (f_X9_of X (nI k_4) 1)]) (ci := 9) (q := (RX9, TX9, 15)) ⟨hx, hb, hml, hown, hts⟩ hK (c_X9_of l D cy μ X a1 1 h_4) (cwV 2 hts gX9_ahead_X9_of rfl rfl rfl (by decide +kernel) ⟨Nat.le_of_ble_eq_true rfl, Nat.le_of_ble_eq_true rfl⟩) (MR.mk0 hR) rfl hR rfl hl.1 rfl (Nat.le_of_ble_eq_true rfl) dX9_ahead_26 (Nat.zero_le _) (Nat.zero_le _)) hS (fun _ h => h.elim) (fun H locs _ _ hfr hS => ?_)
      have hR := gRep.keep hR hfr (fun _ _ h => h)
      refine lv_icmp_gt (tgt := 54) hx hb dX9_ahead_29 (by decide) (fun c_5 => ?_) (fun c_5 => ?_)
      · try rw [if_pos c_5] at hok
        refine lv_iconst (v := 1) hx hb dX9_ahead_54 (by decide) ?_
        refine lv_goto (tgt := 59) hx hb dX9_ahead_55 (by decide) ?_
        refine lv_istore (lv' := [(5, .int 1), (0, .ref μ), (1, .int a1), (2, .int a2), (3, .int x_3), (4, .int (nI k_4))]) hx hb dX9_ahead_59 hl (by decide) rfl (fun ls hl => ?_)
        refine lv_iload_n hx hb dX9_ahead_61 rfl (lv_at hl 4 rfl) ?_
        refine lv_iload hx hb dX9_ahead_62 (lv_at hl 0 rfl) ?_
        refine lv_if_eq (tgt := 81) hx hb dX9_ahead_64 (by decide) (fun c_6 => ?_) (fun c_6 => ?_)
        · exact absurd c_6 (by decide)
        · refine lv_aload_n hx hb dX9_ahead_67 rfl (lv_at hl 1 rfl) ?_
          refine lv_iload hx hb dX9_ahead_68 (lv_at hl 5 rfl) ?_
          refine lv_iload_n hx hb dX9_ahead_70 rfl (lv_at hl 3 rfl) ?_
          obtain ⟨h_7, hok⟩ := hok
          refine gm_ci (gm_call (As := [.int (nI k_4), .int a2]) (rest := [.int x_3]) (ci := 9) (q := (RX9, TX9, 15)) ⟨hx, hb, hml, hown, hts⟩ hK (c_X9_isWaiting l D cy μ X (nI k_4) a2 h_7) (cwV 2 hts gX9_ahead_X9_isWaiting rfl rfl rfl (by decide +kernel) ⟨Nat.le_of_ble_eq_true rfl, Nat.le_of_ble_eq_true rfl⟩) (MR.mk0 hR) rfl hR rfl hl.1 rfl (Nat.le_of_ble_eq_true rfl) dX9_ahead_71 (Nat.zero_le _) (Nat.zero_le _)) hS (fun _ h => h.elim) (fun H locs _ _ hfr hS => ?_)
          have hR := gRep.keep hR hfr (fun _ _ h => h)
          refine lv_if_eq (tgt := 81) hx hb dX9_ahead_74 (by decide) (fun c_8 => ?_) (fun c_8 => ?_)
          · try rw [if_pos c_8] at hok
            refine lv_iconst (v := 0) hx hb dX9_ahead_81 (by decide) ?_
            refine lv_iadd hx hb dX9_ahead_82 ?_
            refine lv_istore_n (lv' := [(3, .int (x_3 + 0)), (5, .int 1), (0, .ref μ), (1, .int a1), (2, .int a2), (4, .int (nI k_4))]) hx hb dX9_ahead_83 rfl hl (by decide) rfl (fun ls hl => ?_)
            refine lv_iinc (v := nI (k_4 + 1)) (lv' := [(4, .int (nI (k_4 + 1))), (3, .int (x_3 + 0)), (5, .int 1), (0, .ref μ), (1, .int a1), (2, .int a2)]) hx hb dX9_ahead_84 hl (k := 5) rfl (nI_1 _) (by decide) rfl (fun ls hl => ?_)
            refine lv_goto (tgt := 5) hx hb dX9_ahead_87 (by decide) ?_
            refine gm_q (Q2 := MQ below (gQi (lf_X9_ahead_5 X a1 a2 K n (x_3 + 0) (k_4 + 1)) (fun _ => True) gNo) args s 0 0 gNo) (by simp only [lf_X9_ahead_5, ↓if_neg c_1, ↓if_pos c_5, ↓if_pos c_8]) ?_
            exact ih (x_3 + 0) (k_4 + 1) lt_2 hok (by omega) _ _ _ hR hS (lv_sub hl [3, 4, 5, 1, 0] rfl)
          · try rw [if_neg c_8] at hok
            refine lv_iconst (v := 1) hx hb dX9_ahead_77 (by decide) ?_
            refine lv_goto (tgt := 82) hx hb dX9_ahead_78 (by decide) ?_
            refine lv_iadd hx hb dX9_ahead_82 ?_
            refine lv_istore_n (lv' := [(3, .int (x_3 + 1)), (5, .int 1), (0, .ref μ), (1, .int a1), (2, .int a2), (4, .int (nI k_4))]) hx hb dX9_ahead_83 rfl hl (by decide) rfl (fun ls hl => ?_)
            refine lv_iinc (v := nI (k_4 + 1)) (lv' := [(4, .int (nI (k_4 + 1))), (3, .int (x_3 + 1)), (5, .int 1), (0, .ref μ), (1, .int a1), (2, .int a2)]) hx hb dX9_ahead_84 hl (k := 5) rfl (nI_1 _) (by decide) rfl (fun ls hl => ?_)
            refine lv_goto (tgt := 5) hx hb dX9_ahead_87 (by decide) ?_
            refine gm_q (Q2 := MQ below (gQi (lf_X9_ahead_5 X a1 a2 K n (x_3 + 1) (k_4 + 1)) (fun _ => True) gNo) args s 0 0 gNo) (by simp only [lf_X9_ahead_5, ↓if_neg c_1, ↓if_pos c_5, ↓if_neg c_8]) ?_
            exact ih (x_3 + 1) (k_4 + 1) lt_2 hok (by omega) _ _ _ hR hS (lv_sub hl [3, 4, 5, 1, 0] rfl)
      · try rw [if_neg c_5] at hok
        refine lv_aload_n hx hb dX9_ahead_32 rfl (lv_at hl 0 rfl) ?_
        refine lv_iload hx hb dX9_ahead_33 (lv_at hl 4 rfl) ?_
        refine lv_iconst (v := 1) hx hb dX9_ahead_35 (by decide) ?_
        obtain ⟨h_9, hok⟩ := hok
        refine gm_ci (gm_call (As := [.int (nI k_4), .int 1]) (rest := []) (ci := 9) (q := (RX9, TX9, 15)) ⟨hx, hb, hml, hown, hts⟩ hK (c_X9_of l D cy μ X (nI k_4) 1 h_9) (cwV 2 hts gX9_ahead_X9_of rfl rfl rfl (by decide +kernel) ⟨Nat.le_of_ble_eq_true rfl, Nat.le_of_ble_eq_true rfl⟩) (MR.mk0 hR) rfl hR rfl hl.1 rfl (Nat.le_of_ble_eq_true rfl) dX9_ahead_36 (Nat.zero_le _) (Nat.zero_le _)) hS (fun _ h => h.elim) (fun H locs _ _ hfr hS => ?_)
        have hR := gRep.keep hR hfr (fun _ _ h => h)
        refine lv_aload_n hx hb dX9_ahead_39 rfl (lv_at hl 0 rfl) ?_
        refine lv_iload_n hx hb dX9_ahead_40 rfl (lv_at hl 1 rfl) ?_
        refine lv_iconst (v := 1) hx hb dX9_ahead_41 (by decide) ?_
        obtain ⟨h_10, hok⟩ := hok
        refine gm_ci (gm_call (As := [.int a1, .int 1]) (rest := [.int (f_X9_of X (nI k_4) 1)]) (ci := 9) (q := (RX9, TX9, 15)) ⟨hx, hb, hml, hown, hts⟩ hK (c_X9_of l D cy μ X a1 1 h_10) (cwV 2 hts gX9_ahead_X9_of rfl rfl rfl (by decide +kernel) ⟨Nat.le_of_ble_eq_true rfl, Nat.le_of_ble_eq_true rfl⟩) (MR.mk0 hR) rfl hR rfl hl.1 rfl (Nat.le_of_ble_eq_true rfl) dX9_ahead_42 (Nat.zero_le _) (Nat.zero_le _)) hS (fun _ h => h.elim) (fun H locs _ _ hfr hS => ?_)
        have hR := gRep.keep hR hfr (fun _ _ h => h)
        refine lv_icmp_ne (tgt := 58) hx hb dX9_ahead_45 (by decide) (fun c_11 => ?_) (fun c_11 => ?_)
        · try rw [if_neg c_11] at hok
          refine lv_iconst (v := 0) hx hb dX9_ahead_58 (by decide) ?_
          refine lv_istore (lv' := [(5, .int 0), (0, .ref μ), (1, .int a1), (2, .int a2), (3, .int x_3), (4, .int (nI k_4))]) hx hb dX9_ahead_59 hl (by decide) rfl (fun ls hl => ?_)
          refine lv_iload_n hx hb dX9_ahead_61 rfl (lv_at hl 4 rfl) ?_
          refine lv_iload hx hb dX9_ahead_62 (lv_at hl 0 rfl) ?_
          refine lv_if_eq (tgt := 81) hx hb dX9_ahead_64 (by decide) (fun c_12 => ?_) (fun c_12 => ?_)
          · refine lv_iconst (v := 0) hx hb dX9_ahead_81 (by decide) ?_
            refine lv_iadd hx hb dX9_ahead_82 ?_
            refine lv_istore_n (lv' := [(3, .int (x_3 + 0)), (5, .int 0), (0, .ref μ), (1, .int a1), (2, .int a2), (4, .int (nI k_4))]) hx hb dX9_ahead_83 rfl hl (by decide) rfl (fun ls hl => ?_)
            refine lv_iinc (v := nI (k_4 + 1)) (lv' := [(4, .int (nI (k_4 + 1))), (3, .int (x_3 + 0)), (5, .int 0), (0, .ref μ), (1, .int a1), (2, .int a2)]) hx hb dX9_ahead_84 hl (k := 5) rfl (nI_1 _) (by decide) rfl (fun ls hl => ?_)
            refine lv_goto (tgt := 5) hx hb dX9_ahead_87 (by decide) ?_
            refine gm_q (Q2 := MQ below (gQi (lf_X9_ahead_5 X a1 a2 K n (x_3 + 0) (k_4 + 1)) (fun _ => True) gNo) args s 0 0 gNo) (by simp only [lf_X9_ahead_5, ↓if_neg c_1, ↓if_neg c_5, ↓if_neg c_11]) ?_
            exact ih (x_3 + 0) (k_4 + 1) lt_2 hok (by omega) _ _ _ hR hS (lv_sub hl [3, 4, 5, 1, 0] rfl)
          · exact absurd c_12 (by decide)
        · try rw [if_pos c_11] at hok
          refine lv_iload hx hb dX9_ahead_48 (lv_at hl 4 rfl) ?_
          refine lv_iload_n hx hb dX9_ahead_50 rfl (lv_at hl 1 rfl) ?_
          refine lv_icmp_ge (tgt := 58) hx hb dX9_ahead_51 (by decide) (fun c_13 => ?_) (fun c_13 => ?_)
          · try rw [if_pos c_13] at hok
            refine lv_iconst (v := 0) hx hb dX9_ahead_58 (by decide) ?_
            refine lv_istore (lv' := [(5, .int 0), (0, .ref μ), (1, .int a1), (2, .int a2), (3, .int x_3), (4, .int (nI k_4))]) hx hb dX9_ahead_59 hl (by decide) rfl (fun ls hl => ?_)
            refine lv_iload_n hx hb dX9_ahead_61 rfl (lv_at hl 4 rfl) ?_
            refine lv_iload hx hb dX9_ahead_62 (lv_at hl 0 rfl) ?_
            refine lv_if_eq (tgt := 81) hx hb dX9_ahead_64 (by decide) (fun c_14 => ?_) (fun c_14 => ?_)
            · refine lv_iconst (v := 0) hx hb dX9_ahead_81 (by decide) ?_
              refine lv_iadd hx hb dX9_ahead_82 ?_
              refine lv_istore_n (lv' := [(3, .int (x_3 + 0)), (5, .int 0), (0, .ref μ), (1, .int a1), (2, .int a2), (4, .int (nI k_4))]) hx hb dX9_ahead_83 rfl hl (by decide) rfl (fun ls hl => ?_)
              refine lv_iinc (v := nI (k_4 + 1)) (lv' := [(4, .int (nI (k_4 + 1))), (3, .int (x_3 + 0)), (5, .int 0), (0, .ref μ), (1, .int a1), (2, .int a2)]) hx hb dX9_ahead_84 hl (k := 5) rfl (nI_1 _) (by decide) rfl (fun ls hl => ?_)
              refine lv_goto (tgt := 5) hx hb dX9_ahead_87 (by decide) ?_
              refine gm_q (Q2 := MQ below (gQi (lf_X9_ahead_5 X a1 a2 K n (x_3 + 0) (k_4 + 1)) (fun _ => True) gNo) args s 0 0 gNo) (by simp only [lf_X9_ahead_5, ↓if_neg c_1, ↓if_neg c_5, ↓if_pos c_11, ↓if_pos c_13]) ?_
              exact ih (x_3 + 0) (k_4 + 1) lt_2 hok (by omega) _ _ _ hR hS (lv_sub hl [3, 4, 5, 1, 0] rfl)
            · exact absurd c_14 (by decide)
          · try rw [if_neg c_13] at hok
            have lt_15 : k_4 < 2147483647 := g_big (Nat.lt_of_le_of_lt hb_4 (by decide)) c_13
            refine lv_iconst (v := 1) hx hb dX9_ahead_54 (by decide) ?_
            refine lv_goto (tgt := 59) hx hb dX9_ahead_55 (by decide) ?_
            refine lv_istore (lv' := [(5, .int 1), (0, .ref μ), (1, .int a1), (2, .int a2), (3, .int x_3), (4, .int (nI k_4))]) hx hb dX9_ahead_59 hl (by decide) rfl (fun ls hl => ?_)
            refine lv_iload_n hx hb dX9_ahead_61 rfl (lv_at hl 4 rfl) ?_
            refine lv_iload hx hb dX9_ahead_62 (lv_at hl 0 rfl) ?_
            refine lv_if_eq (tgt := 81) hx hb dX9_ahead_64 (by decide) (fun c_16 => ?_) (fun c_16 => ?_)
            · exact absurd c_16 (by decide)
            · refine lv_aload_n hx hb dX9_ahead_67 rfl (lv_at hl 1 rfl) ?_
              refine lv_iload hx hb dX9_ahead_68 (lv_at hl 5 rfl) ?_
              refine lv_iload_n hx hb dX9_ahead_70 rfl (lv_at hl 3 rfl) ?_
              obtain ⟨h_17, hok⟩ := hok
              refine gm_ci (gm_call (As := [.int (nI k_4), .int a2]) (rest := [.int x_3]) (ci := 9) (q := (RX9, TX9, 15)) ⟨hx, hb, hml, hown, hts⟩ hK (c_X9_isWaiting l D cy μ X (nI k_4) a2 h_17) (cwV 2 hts gX9_ahead_X9_isWaiting rfl rfl rfl (by decide +kernel) ⟨Nat.le_of_ble_eq_true rfl, Nat.le_of_ble_eq_true rfl⟩) (MR.mk0 hR) rfl hR rfl hl.1 rfl (Nat.le_of_ble_eq_true rfl) dX9_ahead_71 (Nat.zero_le _) (Nat.zero_le _)) hS (fun _ h => h.elim) (fun H locs _ _ hfr hS => ?_)
              have hR := gRep.keep hR hfr (fun _ _ h => h)
              refine lv_if_eq (tgt := 81) hx hb dX9_ahead_74 (by decide) (fun c_18 => ?_) (fun c_18 => ?_)
              · try rw [if_pos c_18] at hok
                refine lv_iconst (v := 0) hx hb dX9_ahead_81 (by decide) ?_
                refine lv_iadd hx hb dX9_ahead_82 ?_
                refine lv_istore_n (lv' := [(3, .int (x_3 + 0)), (5, .int 1), (0, .ref μ), (1, .int a1), (2, .int a2), (4, .int (nI k_4))]) hx hb dX9_ahead_83 rfl hl (by decide) rfl (fun ls hl => ?_)
                refine lv_iinc (v := nI (k_4 + 1)) (lv' := [(4, .int (nI (k_4 + 1))), (3, .int (x_3 + 0)), (5, .int 1), (0, .ref μ), (1, .int a1), (2, .int a2)]) hx hb dX9_ahead_84 hl (k := 5) rfl (nI_1 _) (by decide) rfl (fun ls hl => ?_)
                refine lv_goto (tgt := 5) hx hb dX9_ahead_87 (by decide) ?_
                refine gm_q (Q2 := MQ below (gQi (lf_X9_ahead_5 X a1 a2 K n (x_3 + 0) (k_4 + 1)) (fun _ => True) gNo) args s 0 0 gNo) (by simp only [lf_X9_ahead_5, ↓if_neg c_1, ↓if_neg c_5, ↓if_pos c_11, ↓if_neg c_13, ↓if_pos c_18]) ?_
                exact ih (x_3 + 0) (k_4 + 1) lt_2 hok (by omega) _ _ _ hR hS (lv_sub hl [3, 4, 5, 1, 0] rfl)
              · try rw [if_neg c_18] at hok
                refine lv_iconst (v := 1) hx hb dX9_ahead_77 (by decide) ?_
                refine lv_goto (tgt := 82) hx hb dX9_ahead_78 (by decide) ?_
                refine lv_iadd hx hb dX9_ahead_82 ?_
                refine lv_istore_n (lv' := [(3, .int (x_3 + 1)), (5, .int 1), (0, .ref μ), (1, .int a1), (2, .int a2), (4, .int (nI k_4))]) hx hb dX9_ahead_83 rfl hl (by decide) rfl (fun ls hl => ?_)
                refine lv_iinc (v := nI (k_4 + 1)) (lv' := [(4, .int (nI (k_4 + 1))), (3, .int (x_3 + 1)), (5, .int 1), (0, .ref μ), (1, .int a1), (2, .int a2)]) hx hb dX9_ahead_84 hl (k := 5) rfl (nI_1 _) (by decide) rfl (fun ls hl => ?_)
                refine lv_goto (tgt := 5) hx hb dX9_ahead_87 (by decide) ?_
                refine gm_q (Q2 := MQ below (gQi (lf_X9_ahead_5 X a1 a2 K n (x_3 + 1) (k_4 + 1)) (fun _ => True) gNo) args s 0 0 gNo) (by simp only [lf_X9_ahead_5, ↓if_neg c_1, ↓if_neg c_5, ↓if_pos c_11, ↓if_neg c_13, ↓if_neg c_18]) ?_
                exact ih (x_3 + 1) (k_4 + 1) lt_2 hok (by omega) _ _ _ hR hS (lv_sub hl [3, 4, 5, 1, 0] rfl)
set_option maxHeartbeats 4000000 in
set_option maxRecDepth 100000 in
theorem c_X9_ahead (l : Launch) (D : va_G) (cy : Nat → ClassId) (μ : Nat) (X : gM) (a1 : Int32) (a2 : Int32)  (hok : ok_X9_ahead X a1 a2) : Met l yX9_ahead wsX9_ahead ({ frames := 2, cells := 0, slots := 0, locals := 44 }) (gP [.ref μ, .int a1, .int a2] D cy (MR D cy μ X)) (gQi (f_X9_ahead X a1 a2) (fun _ => True) gNo) 0 0 gNo := by
  refine gm_met (cc := cX9_ahead) (maxL := 6) (ret := (some .int)) [.ref μ, .int a1, .int a2] (by decide) rfl (Nat.le_of_ble_eq_true rfl) ?_
  intro p e s m args below meth c0 ls C hR hl
  obtain ⟨hx, hb, hr, hts, hown, hlocks, hml, hK⟩ := C
  have hl : lv_has ls 6 [(0, .ref μ), (1, .int a1), (2, .int a2)] := hl
  have hS : va_S gNo s.heap s.heap [] := va_S.rf
  unfold ok_X9_ahead at hok
  refine lv_iconst (v := 0) hx hb dX9_ahead_0 (by decide) ?_
  refine lv_istore_n (lv' := [(3, .int 0), (0, .ref μ), (1, .int a1), (2, .int a2)]) hx hb dX9_ahead_1 rfl hl (by decide) rfl (fun ls hl => ?_)
  refine lv_iconst (v := 0) hx hb dX9_ahead_2 (by decide) ?_
  refine lv_istore (lv' := [(4, .int 0), (3, .int 0), (0, .ref μ), (1, .int a1), (2, .int a2)]) hx hb dX9_ahead_3 hl (by decide) rfl (fun ls hl => ?_)
  refine gm_q (Q2 := MQ below (gQi (lf_X9_ahead_5 X a1 a2 (fun x_3w1 k_4w1 =>
        x_3w1) 2147483648 0 0) (fun _ => True) gNo) args s 0 0 gNo) (by simp only [f_X9_ahead]) ?_
  refine lp_X9_ahead_5 ⟨hx, hb, hr, hts, hown, hlocks, hml, hK⟩ μ X a1 a2  _ _ (fun x_3w1 k_4w1 hbk_4w1 hok H locs ls hR hS hl => ?_) 2147483648 0 0 (by decide) hok (by omega) _ _ _ hR hS (lv_sub hl [2, 3, 4, 1, 0] rfl)
  refine lv_iload_n hx hb dX9_ahead_90 rfl (lv_at hl 3 rfl) ?_
  exact gm_iret hx hb hr hlocks hS (by (try simp only [f_X9_ahead]); (try rfl)) trivial dX9_ahead_91
def lf_X9_firstWaiting_5 (X : gM) (a1 : Int32) (K : (Int32) → (Nat) → (Int32)) : Nat → (Int32) → (Nat) → (Int32)
  | 0, x_2, k_3 => K x_2 k_3
  | n + 1, x_2, k_3 =>
    if X 1 1 ≤ nI k_3 then
      K x_2 k_3
    else
      if f_X9_isWaiting X (nI k_3) a1 = 0 then
        lf_X9_firstWaiting_5 X a1 K n x_2 (k_3 + 1)
      else
        if x_2 = (-5) then
          lf_X9_firstWaiting_5 X a1 K n (nI k_3) (k_3 + 1)
        else
          if f_X9_of X (nI k_3) 1 ≤ f_X9_of X x_2 1 then
            lf_X9_firstWaiting_5 X a1 K n x_2 (k_3 + 1)
          else
            lf_X9_firstWaiting_5 X a1 K n (nI k_3) (k_3 + 1)
def lok_X9_firstWaiting_5 (X : gM) (a1 : Int32) (KO : (Int32) → (Nat) → Prop) : Nat → (Int32) → (Nat) → Prop
  | 0, x_2, k_3 => True
  | n + 1, x_2, k_3 =>
    (if X 1 1 ≤ nI k_3 then
      KO x_2 k_3
    else
      (ok_X9_isWaiting X (nI k_3) a1) ∧
      (if f_X9_isWaiting X (nI k_3) a1 = 0 then
        lok_X9_firstWaiting_5 X a1 KO n x_2 (k_3 + 1)
      else
        (if x_2 = (-5) then
          lok_X9_firstWaiting_5 X a1 KO n (nI k_3) (k_3 + 1)
        else
          (ok_X9_of X (nI k_3) 1) ∧
          (ok_X9_of X x_2 1) ∧
          (if f_X9_of X (nI k_3) 1 ≤ f_X9_of X x_2 1 then
            lok_X9_firstWaiting_5 X a1 KO n x_2 (k_3 + 1)
          else
            lok_X9_firstWaiting_5 X a1 KO n (nI k_3) (k_3 + 1)))))
def f_X9_firstWaiting (X : gM) (a1 : Int32) : Int32 :=
  lf_X9_firstWaiting_5 X a1 (fun x_2w1 k_3w1 =>
        x_2w1) 2147483648 (-5) 0
def ok_X9_firstWaiting (X : gM) (a1 : Int32) : Prop :=
  lok_X9_firstWaiting_5 X a1 (fun x_2w1 k_3w1 =>
        True) 2147483648 (-5) 0
set_option maxHeartbeats 4000000 in
set_option maxRecDepth 100000 in
theorem lp_X9_firstWaiting_5 {p : Program} {l : Launch} {e : Env} {s : State} {m : MethodId} {args : Array Value} {below : List Frame} {meth : Method} {c0 : Code} {D : va_G} {cy : Nat → ClassId} (C : gCtx cX9_firstWaiting 4 (some .int) RX9 wsX9_firstWaiting D cy p s m args meth c0) (μ : Nat) (X : gM) (a1 : Int32) 
    (KO : (Int32) → (Nat) → Prop) (K : (Int32) → (Nat) → (Int32)) (hexit : ∀ (x_2 : Int32) (k_3 : Nat), k_3 ≤ 2147483647 → KO x_2 k_3 → ∀ (H : Heap) (locs : List Loc) (ls : Array Slot), MR D cy μ X H → va_S gNo s.heap H locs → lv_has ls 4 [(0, .ref μ), (1, .int a1), (2, .int x_2), (3, .int (nI k_3))] → W p l e { frames := 2, cells := 0, slots := 0, locals := 44 } s m args below meth c0 H locs 0 0 (MQ below (gQi (K x_2 k_3) (fun _ => True) gNo) args s 0 0 gNo) (F0 m 57 ls [])) :
    ∀ (n : Nat) (x_2 : Int32) (k_3 : Nat), k_3 ≤ 2147483647 → lok_X9_firstWaiting_5 X a1 KO n x_2 k_3 → 2147483647 < k_3 + n → ∀ (H : Heap) (locs : List Loc) (ls : Array Slot), MR D cy μ X H → va_S gNo s.heap H locs → lv_has ls 4 [(0, .ref μ), (1, .int a1), (2, .int x_2), (3, .int (nI k_3))] → W p l e { frames := 2, cells := 0, slots := 0, locals := 44 } s m args below meth c0 H locs 0 0 (MQ below (gQi (lf_X9_firstWaiting_5 X a1 K n x_2 k_3) (fun _ => True) gNo) args s 0 0 gNo) (F0 m 5 ls []) := by
  obtain ⟨hx, hb, hr, hts, hown, hlocks, hml, hK⟩ := C
  have lk7 := hts (.fieldLink RX9 7 "MercuryLineModel" "s" "[I") (by decide +kernel)
  have inX9 : ∀ w ∈ u_ws RX9 TX9 15, w ∈ wsX9_firstWaiting := by decide +kernel
  intro n
  induction n with
  | zero =>
    intro x_2 k_3 hb_3 hok hme
    exact absurd hme (by omega)
  | succ n ih =>
    intro x_2 k_3 hb_3 hok hme H locs ls hR hS hl
    unfold lok_X9_firstWaiting_5 at hok
    refine lv_iload_n hx hb dX9_firstWaiting_5 rfl (lv_at hl 3 rfl) ?_
    refine lv_aload_n hx hb dX9_firstWaiting_6 rfl (lv_at hl 0 rfl) ?_
    refine va_get (D := D) (ci := 9) (v := .ref (μ + 1)) (C := RX9) (T := TX9) (N := 15) hx hb hts inX9 hown hK.1 (MR.mk0 hR) 0 rfl rfl 0 (by decide) lk7 (fun _ h9 => h9) rfl dX9_firstWaiting_7 ?_
    refine lv_iconst (v := 1) hx hb dX9_firstWaiting_10 (by decide) ?_
    refine gm_iald hx hb hK.1 (MR.mk1 hR (c := 1) (by decide) bM_1) (vp_in_iff.mpr (by decide)) dX9_firstWaiting_11 ?_
    rw [show (1 : Int32).toNatClampNeg = 1 from by decide]
    refine lv_icmp_ge (tgt := 57) hx hb dX9_firstWaiting_12 (by decide) (fun c_1 => ?_) (fun c_1 => ?_)
    · try rw [if_pos c_1] at hok
      refine gm_q (Q2 := MQ below (gQi (K x_2 k_3) (fun _ => True) gNo) args s 0 0 gNo) (by simp only [lf_X9_firstWaiting_5, ↓if_pos c_1]) ?_
      exact hexit x_2 k_3 hb_3 hok _ _ _ hR hS (lv_sub hl [0, 1, 2, 3] rfl)
    · try rw [if_neg c_1] at hok
      have lt_2 : k_3 < 2147483647 := g_big (Nat.lt_of_le_of_lt hb_3 (by decide)) c_1
      refine lv_aload_n hx hb dX9_firstWaiting_15 rfl (lv_at hl 0 rfl) ?_
      refine lv_iload_n hx hb dX9_firstWaiting_16 rfl (lv_at hl 3 rfl) ?_
      refine lv_iload_n hx hb dX9_firstWaiting_17 rfl (lv_at hl 1 rfl) ?_
      obtain ⟨h_3, hok⟩ := hok
      refine gm_ci (gm_call (As := [.int (nI k_3), .int a1]) (rest := []) (ci := 9) (q := (RX9, TX9, 15)) ⟨hx, hb, hml, hown, hts⟩ hK (c_X9_isWaiting l D cy μ X (nI k_3) a1 h_3) (cwV 2 hts gX9_firstWaiting_X9_isWaiting rfl rfl rfl (by decide +kernel) ⟨Nat.le_of_ble_eq_true rfl, Nat.le_of_ble_eq_true rfl⟩) (MR.mk0 hR) rfl hR rfl hl.1 rfl (Nat.le_of_ble_eq_true rfl) dX9_firstWaiting_18 (Nat.zero_le _) (Nat.zero_le _)) hS (fun _ h => h.elim) (fun H locs _ _ hfr hS => ?_)
      have hR := gRep.keep hR hfr (fun _ _ h => h)
      refine lv_if_eq (tgt := 49) hx hb dX9_firstWaiting_21 (by decide) (fun c_4 => ?_) (fun c_4 => ?_)
      · try rw [if_pos c_4] at hok
        refine lv_iload_n hx hb dX9_firstWaiting_49 rfl (lv_at hl 2 rfl) ?_
        refine lv_istore_n (lv' := [(2, .int x_2), (0, .ref μ), (1, .int a1), (3, .int (nI k_3))]) hx hb dX9_firstWaiting_50 rfl hl (by decide) rfl (fun ls hl => ?_)
        refine lv_iinc (v := nI (k_3 + 1)) (lv' := [(3, .int (nI (k_3 + 1))), (2, .int x_2), (0, .ref μ), (1, .int a1)]) hx hb dX9_firstWaiting_51 hl (k := 3) rfl (nI_1 _) (by decide) rfl (fun ls hl => ?_)
        refine lv_goto (tgt := 5) hx hb dX9_firstWaiting_54 (by decide) ?_
        refine gm_q (Q2 := MQ below (gQi (lf_X9_firstWaiting_5 X a1 K n x_2 (k_3 + 1)) (fun _ => True) gNo) args s 0 0 gNo) (by simp only [lf_X9_firstWaiting_5, ↓if_neg c_1, ↓if_pos c_4]) ?_
        exact ih x_2 (k_3 + 1) lt_2 hok (by omega) _ _ _ hR hS (lv_sub hl [2, 3, 1, 0] rfl)
      · try rw [if_neg c_4] at hok
        refine lv_iload_n hx hb dX9_firstWaiting_24 rfl (lv_at hl 2 rfl) ?_
        refine lv_bipush (v := (-5)) hx hb dX9_firstWaiting_25 (by decide) ?_
        refine lv_icmp_eq (tgt := 45) hx hb dX9_firstWaiting_27 (by decide) (fun c_5 => ?_) (fun c_5 => ?_)
        · try rw [if_pos c_5] at hok
          refine lv_iload_n hx hb dX9_firstWaiting_45 rfl (lv_at hl 3 rfl) ?_
          refine lv_goto (tgt := 50) hx hb dX9_firstWaiting_46 (by decide) ?_
          refine lv_istore_n (lv' := [(2, .int (nI k_3)), (0, .ref μ), (1, .int a1), (3, .int (nI k_3))]) hx hb dX9_firstWaiting_50 rfl hl (by decide) rfl (fun ls hl => ?_)
          refine lv_iinc (v := nI (k_3 + 1)) (lv' := [(3, .int (nI (k_3 + 1))), (2, .int (nI k_3)), (0, .ref μ), (1, .int a1)]) hx hb dX9_firstWaiting_51 hl (k := 3) rfl (nI_1 _) (by decide) rfl (fun ls hl => ?_)
          refine lv_goto (tgt := 5) hx hb dX9_firstWaiting_54 (by decide) ?_
          refine gm_q (Q2 := MQ below (gQi (lf_X9_firstWaiting_5 X a1 K n (nI k_3) (k_3 + 1)) (fun _ => True) gNo) args s 0 0 gNo) (by simp only [lf_X9_firstWaiting_5, ↓if_neg c_1, ↓if_neg c_4, ↓if_pos c_5]) ?_
          exact ih (nI k_3) (k_3 + 1) lt_2 hok (by omega) _ _ _ hR hS (lv_sub hl [2, 3, 1, 0] rfl)
        · try rw [if_neg c_5] at hok
          refine lv_aload_n hx hb dX9_firstWaiting_30 rfl (lv_at hl 0 rfl) ?_
          refine lv_iload_n hx hb dX9_firstWaiting_31 rfl (lv_at hl 3 rfl) ?_
          refine lv_iconst (v := 1) hx hb dX9_firstWaiting_32 (by decide) ?_
          obtain ⟨h_6, hok⟩ := hok
          refine gm_ci (gm_call (As := [.int (nI k_3), .int 1]) (rest := []) (ci := 9) (q := (RX9, TX9, 15)) ⟨hx, hb, hml, hown, hts⟩ hK (c_X9_of l D cy μ X (nI k_3) 1 h_6) (cwV 2 hts gX9_firstWaiting_X9_of rfl rfl rfl (by decide +kernel) ⟨Nat.le_of_ble_eq_true rfl, Nat.le_of_ble_eq_true rfl⟩) (MR.mk0 hR) rfl hR rfl hl.1 rfl (Nat.le_of_ble_eq_true rfl) dX9_firstWaiting_33 (Nat.zero_le _) (Nat.zero_le _)) hS (fun _ h => h.elim) (fun H locs _ _ hfr hS => ?_)
          have hR := gRep.keep hR hfr (fun _ _ h => h)
          refine lv_aload_n hx hb dX9_firstWaiting_36 rfl (lv_at hl 0 rfl) ?_
          refine lv_iload_n hx hb dX9_firstWaiting_37 rfl (lv_at hl 2 rfl) ?_
          refine lv_iconst (v := 1) hx hb dX9_firstWaiting_38 (by decide) ?_
          obtain ⟨h_7, hok⟩ := hok
          refine gm_ci (gm_call (As := [.int x_2, .int 1]) (rest := [.int (f_X9_of X (nI k_3) 1)]) (ci := 9) (q := (RX9, TX9, 15)) ⟨hx, hb, hml, hown, hts⟩ hK (c_X9_of l D cy μ X x_2 1 h_7) (cwV 2 hts gX9_firstWaiting_X9_of rfl rfl rfl (by decide +kernel) ⟨Nat.le_of_ble_eq_true rfl, Nat.le_of_ble_eq_true rfl⟩) (MR.mk0 hR) rfl hR rfl hl.1 rfl (Nat.le_of_ble_eq_true rfl) dX9_firstWaiting_39 (Nat.zero_le _) (Nat.zero_le _)) hS (fun _ h => h.elim) (fun H locs _ _ hfr hS => ?_)
          have hR := gRep.keep hR hfr (fun _ _ h => h)
          refine lv_icmp_le (tgt := 49) hx hb dX9_firstWaiting_42 (by decide) (fun c_8 => ?_) (fun c_8 => ?_)
          · try rw [if_pos c_8] at hok
            refine lv_iload_n hx hb dX9_firstWaiting_49 rfl (lv_at hl 2 rfl) ?_
            refine lv_istore_n (lv' := [(2, .int x_2), (0, .ref μ), (1, .int a1), (3, .int (nI k_3))]) hx hb dX9_firstWaiting_50 rfl hl (by decide) rfl (fun ls hl => ?_)
            refine lv_iinc (v := nI (k_3 + 1)) (lv' := [(3, .int (nI (k_3 + 1))), (2, .int x_2), (0, .ref μ), (1, .int a1)]) hx hb dX9_firstWaiting_51 hl (k := 3) rfl (nI_1 _) (by decide) rfl (fun ls hl => ?_)
            refine lv_goto (tgt := 5) hx hb dX9_firstWaiting_54 (by decide) ?_
            refine gm_q (Q2 := MQ below (gQi (lf_X9_firstWaiting_5 X a1 K n x_2 (k_3 + 1)) (fun _ => True) gNo) args s 0 0 gNo) (by simp only [lf_X9_firstWaiting_5, ↓if_neg c_1, ↓if_neg c_4, ↓if_neg c_5, ↓if_pos c_8]) ?_
            exact ih x_2 (k_3 + 1) lt_2 hok (by omega) _ _ _ hR hS (lv_sub hl [2, 3, 1, 0] rfl)
          · try rw [if_neg c_8] at hok
            refine lv_iload_n hx hb dX9_firstWaiting_45 rfl (lv_at hl 3 rfl) ?_
            refine lv_goto (tgt := 50) hx hb dX9_firstWaiting_46 (by decide) ?_
            refine lv_istore_n (lv' := [(2, .int (nI k_3)), (0, .ref μ), (1, .int a1), (3, .int (nI k_3))]) hx hb dX9_firstWaiting_50 rfl hl (by decide) rfl (fun ls hl => ?_)
            refine lv_iinc (v := nI (k_3 + 1)) (lv' := [(3, .int (nI (k_3 + 1))), (2, .int (nI k_3)), (0, .ref μ), (1, .int a1)]) hx hb dX9_firstWaiting_51 hl (k := 3) rfl (nI_1 _) (by decide) rfl (fun ls hl => ?_)
            refine lv_goto (tgt := 5) hx hb dX9_firstWaiting_54 (by decide) ?_
            refine gm_q (Q2 := MQ below (gQi (lf_X9_firstWaiting_5 X a1 K n (nI k_3) (k_3 + 1)) (fun _ => True) gNo) args s 0 0 gNo) (by simp only [lf_X9_firstWaiting_5, ↓if_neg c_1, ↓if_neg c_4, ↓if_neg c_5, ↓if_neg c_8]) ?_
            exact ih (nI k_3) (k_3 + 1) lt_2 hok (by omega) _ _ _ hR hS (lv_sub hl [2, 3, 1, 0] rfl)
set_option maxHeartbeats 4000000 in
set_option maxRecDepth 100000 in
theorem c_X9_firstWaiting (l : Launch) (D : va_G) (cy : Nat → ClassId) (μ : Nat) (X : gM) (a1 : Int32)  (hok : ok_X9_firstWaiting X a1) : Met l yX9_firstWaiting wsX9_firstWaiting ({ frames := 2, cells := 0, slots := 0, locals := 44 }) (gP [.ref μ, .int a1] D cy (MR D cy μ X)) (gQi (f_X9_firstWaiting X a1) (fun _ => True) gNo) 0 0 gNo := by
  refine gm_met (cc := cX9_firstWaiting) (maxL := 4) (ret := (some .int)) [.ref μ, .int a1] (by decide) rfl (Nat.le_of_ble_eq_true rfl) ?_
  intro p e s m args below meth c0 ls C hR hl
  obtain ⟨hx, hb, hr, hts, hown, hlocks, hml, hK⟩ := C
  have hl : lv_has ls 4 [(0, .ref μ), (1, .int a1)] := hl
  have hS : va_S gNo s.heap s.heap [] := va_S.rf
  unfold ok_X9_firstWaiting at hok
  refine lv_bipush (v := (-5)) hx hb dX9_firstWaiting_0 (by decide) ?_
  refine lv_istore_n (lv' := [(2, .int (-5)), (0, .ref μ), (1, .int a1)]) hx hb dX9_firstWaiting_2 rfl hl (by decide) rfl (fun ls hl => ?_)
  refine lv_iconst (v := 0) hx hb dX9_firstWaiting_3 (by decide) ?_
  refine lv_istore_n (lv' := [(3, .int 0), (2, .int (-5)), (0, .ref μ), (1, .int a1)]) hx hb dX9_firstWaiting_4 rfl hl (by decide) rfl (fun ls hl => ?_)
  refine gm_q (Q2 := MQ below (gQi (lf_X9_firstWaiting_5 X a1 (fun x_2w1 k_3w1 =>
        x_2w1) 2147483648 (-5) 0) (fun _ => True) gNo) args s 0 0 gNo) (by simp only [f_X9_firstWaiting]) ?_
  refine lp_X9_firstWaiting_5 ⟨hx, hb, hr, hts, hown, hlocks, hml, hK⟩ μ X a1  _ _ (fun x_2w1 k_3w1 hbk_3w1 hok H locs ls hR hS hl => ?_) 2147483648 (-5) 0 (by decide) hok (by omega) _ _ _ hR hS (lv_sub hl [2, 3, 1, 0] rfl)
  refine lv_iload_n hx hb dX9_firstWaiting_57 rfl (lv_at hl 2 rfl) ?_
  exact gm_iret hx hb hr hlocks hS (by (try simp only [f_X9_firstWaiting]); (try rfl)) trivial dX9_firstWaiting_58
def lf_X9_firstInHall_5 (X : gM) (a1 : Int32) (K : (Int32) → (Nat) → (Int32)) : Nat → (Int32) → (Nat) → (Int32)
  | 0, x_2, k_3 => K x_2 k_3
  | n + 1, x_2, k_3 =>
    if X 1 1 ≤ nI k_3 then
      K x_2 k_3
    else
      if f_X9_of X (nI k_3) 6 = 2 then
        if f_X9_of X (nI k_3) 7 = a1 then
          if x_2 = (-5) then
            lf_X9_firstInHall_5 X a1 K n (nI k_3) (k_3 + 1)
          else
            if f_X9_of X (nI k_3) 1 ≤ f_X9_of X x_2 1 then
              lf_X9_firstInHall_5 X a1 K n x_2 (k_3 + 1)
            else
              lf_X9_firstInHall_5 X a1 K n (nI k_3) (k_3 + 1)
        else
          lf_X9_firstInHall_5 X a1 K n x_2 (k_3 + 1)
      else
        lf_X9_firstInHall_5 X a1 K n x_2 (k_3 + 1)
def lok_X9_firstInHall_5 (X : gM) (a1 : Int32) (KO : (Int32) → (Nat) → Prop) : Nat → (Int32) → (Nat) → Prop
  | 0, x_2, k_3 => True
  | n + 1, x_2, k_3 =>
    (if X 1 1 ≤ nI k_3 then
      KO x_2 k_3
    else
      (ok_X9_of X (nI k_3) 6) ∧
      (if f_X9_of X (nI k_3) 6 = 2 then
        (ok_X9_of X (nI k_3) 7) ∧
        (if f_X9_of X (nI k_3) 7 = a1 then
          (if x_2 = (-5) then
            lok_X9_firstInHall_5 X a1 KO n (nI k_3) (k_3 + 1)
          else
            (ok_X9_of X (nI k_3) 1) ∧
            (ok_X9_of X x_2 1) ∧
            (if f_X9_of X (nI k_3) 1 ≤ f_X9_of X x_2 1 then
              lok_X9_firstInHall_5 X a1 KO n x_2 (k_3 + 1)
            else
              lok_X9_firstInHall_5 X a1 KO n (nI k_3) (k_3 + 1)))
        else
          lok_X9_firstInHall_5 X a1 KO n x_2 (k_3 + 1))
      else
        lok_X9_firstInHall_5 X a1 KO n x_2 (k_3 + 1)))
def f_X9_firstInHall (X : gM) (a1 : Int32) : Int32 :=
  lf_X9_firstInHall_5 X a1 (fun x_2w1 k_3w1 =>
        x_2w1) 2147483648 (-5) 0
def ok_X9_firstInHall (X : gM) (a1 : Int32) : Prop :=
  lok_X9_firstInHall_5 X a1 (fun x_2w1 k_3w1 =>
        True) 2147483648 (-5) 0
set_option maxHeartbeats 4000000 in
set_option maxRecDepth 100000 in
theorem lp_X9_firstInHall_5 {p : Program} {l : Launch} {e : Env} {s : State} {m : MethodId} {args : Array Value} {below : List Frame} {meth : Method} {c0 : Code} {D : va_G} {cy : Nat → ClassId} (C : gCtx cX9_firstInHall 5 (some .int) RX9 wsX9_firstInHall D cy p s m args meth c0) (μ : Nat) (X : gM) (a1 : Int32) 
    (KO : (Int32) → (Nat) → Prop) (K : (Int32) → (Nat) → (Int32)) (hexit : ∀ (x_2 : Int32) (k_3 : Nat), k_3 ≤ 2147483647 → KO x_2 k_3 → ∀ (H : Heap) (locs : List Loc) (ls : Array Slot), MR D cy μ X H → va_S gNo s.heap H locs → lv_has ls 5 [(0, .ref μ), (1, .int a1), (2, .int x_2), (3, .int (nI k_3))] → W p l e { frames := 1, cells := 0, slots := 0, locals := 22 } s m args below meth c0 H locs 0 0 (MQ below (gQi (K x_2 k_3) (fun _ => True) gNo) args s 0 0 gNo) (F0 m 82 ls [])) :
    ∀ (n : Nat) (x_2 : Int32) (k_3 : Nat), k_3 ≤ 2147483647 → lok_X9_firstInHall_5 X a1 KO n x_2 k_3 → 2147483647 < k_3 + n → ∀ (H : Heap) (locs : List Loc) (ls : Array Slot), MR D cy μ X H → va_S gNo s.heap H locs → lv_has ls 5 [(0, .ref μ), (1, .int a1), (2, .int x_2), (3, .int (nI k_3))] → W p l e { frames := 1, cells := 0, slots := 0, locals := 22 } s m args below meth c0 H locs 0 0 (MQ below (gQi (lf_X9_firstInHall_5 X a1 K n x_2 k_3) (fun _ => True) gNo) args s 0 0 gNo) (F0 m 5 ls []) := by
  obtain ⟨hx, hb, hr, hts, hown, hlocks, hml, hK⟩ := C
  have lk7 := hts (.fieldLink RX9 7 "MercuryLineModel" "s" "[I") (by decide +kernel)
  have inX9 : ∀ w ∈ u_ws RX9 TX9 15, w ∈ wsX9_firstInHall := by decide +kernel
  intro n
  induction n with
  | zero =>
    intro x_2 k_3 hb_3 hok hme
    exact absurd hme (by omega)
  | succ n ih =>
    intro x_2 k_3 hb_3 hok hme H locs ls hR hS hl
    unfold lok_X9_firstInHall_5 at hok
    refine lv_iload_n hx hb dX9_firstInHall_5 rfl (lv_at hl 3 rfl) ?_
    refine lv_aload_n hx hb dX9_firstInHall_6 rfl (lv_at hl 0 rfl) ?_
    refine va_get (D := D) (ci := 9) (v := .ref (μ + 1)) (C := RX9) (T := TX9) (N := 15) hx hb hts inX9 hown hK.1 (MR.mk0 hR) 0 rfl rfl 0 (by decide) lk7 (fun _ h9 => h9) rfl dX9_firstInHall_7 ?_
    refine lv_iconst (v := 1) hx hb dX9_firstInHall_10 (by decide) ?_
    refine gm_iald hx hb hK.1 (MR.mk1 hR (c := 1) (by decide) bM_1) (vp_in_iff.mpr (by decide)) dX9_firstInHall_11 ?_
    rw [show (1 : Int32).toNatClampNeg = 1 from by decide]
    refine lv_icmp_ge (tgt := 82) hx hb dX9_firstInHall_12 (by decide) (fun c_1 => ?_) (fun c_1 => ?_)
    · try rw [if_pos c_1] at hok
      refine gm_q (Q2 := MQ below (gQi (K x_2 k_3) (fun _ => True) gNo) args s 0 0 gNo) (by simp only [lf_X9_firstInHall_5, ↓if_pos c_1]) ?_
      exact hexit x_2 k_3 hb_3 hok _ _ _ hR hS (lv_sub hl [0, 1, 2, 3] rfl)
    · try rw [if_neg c_1] at hok
      have lt_2 : k_3 < 2147483647 := g_big (Nat.lt_of_le_of_lt hb_3 (by decide)) c_1
      refine lv_aload_n hx hb dX9_firstInHall_15 rfl (lv_at hl 0 rfl) ?_
      refine lv_iload_n hx hb dX9_firstInHall_16 rfl (lv_at hl 3 rfl) ?_
      refine lv_bipush (v := 6) hx hb dX9_firstInHall_17 (by decide) ?_
      obtain ⟨h_3, hok⟩ := hok
      refine gm_ci (gm_call (As := [.int (nI k_3), .int 6]) (rest := []) (ci := 9) (q := (RX9, TX9, 15)) ⟨hx, hb, hml, hown, hts⟩ hK (c_X9_of l D cy μ X (nI k_3) 6 h_3) (cwV 2 hts gX9_firstInHall_X9_of rfl rfl rfl (by decide +kernel) ⟨Nat.le_of_ble_eq_true rfl, Nat.le_of_ble_eq_true rfl⟩) (MR.mk0 hR) rfl hR rfl hl.1 rfl (Nat.le_of_ble_eq_true rfl) dX9_firstInHall_19 (Nat.zero_le _) (Nat.zero_le _)) hS (fun _ h => h.elim) (fun H locs _ _ hfr hS => ?_)
      have hR := gRep.keep hR hfr (fun _ _ h => h)
      refine lv_iconst (v := 2) hx hb dX9_firstInHall_22 (by decide) ?_
      refine lv_icmp_ne (tgt := 41) hx hb dX9_firstInHall_23 (by decide) (fun c_4 => ?_) (fun c_4 => ?_)
      · try rw [if_neg c_4] at hok
        refine lv_iconst (v := 0) hx hb dX9_firstInHall_41 (by decide) ?_
        refine lv_istore (lv' := [(4, .int 0), (0, .ref μ), (1, .int a1), (2, .int x_2), (3, .int (nI k_3))]) hx hb dX9_firstInHall_42 hl (by decide) rfl (fun ls hl => ?_)
        refine lv_iload hx hb dX9_firstInHall_44 (lv_at hl 0 rfl) ?_
        refine lv_if_eq (tgt := 74) hx hb dX9_firstInHall_46 (by decide) (fun c_5 => ?_) (fun c_5 => ?_)
        · refine lv_iload_n hx hb dX9_firstInHall_74 rfl (lv_at hl 3 rfl) ?_
          refine lv_istore_n (lv' := [(2, .int x_2), (4, .int 0), (0, .ref μ), (1, .int a1), (3, .int (nI k_3))]) hx hb dX9_firstInHall_75 rfl hl (by decide) rfl (fun ls hl => ?_)
          refine lv_iinc (v := nI (k_3 + 1)) (lv' := [(3, .int (nI (k_3 + 1))), (2, .int x_2), (4, .int 0), (0, .ref μ), (1, .int a1)]) hx hb dX9_firstInHall_76 hl (k := 4) rfl (nI_1 _) (by decide) rfl (fun ls hl => ?_)
          refine lv_goto (tgt := 5) hx hb dX9_firstInHall_79 (by decide) ?_
          refine gm_q (Q2 := MQ below (gQi (lf_X9_firstInHall_5 X a1 K n x_2 (k_3 + 1)) (fun _ => True) gNo) args s 0 0 gNo) (by simp only [lf_X9_firstInHall_5, ↓if_neg c_1, ↓if_neg c_4]) ?_
          exact ih x_2 (k_3 + 1) lt_2 hok (by omega) _ _ _ hR hS (lv_sub hl [3, 4, 1, 0] rfl)
        · exact absurd c_5 (by decide)
      · try rw [if_pos c_4] at hok
        refine lv_aload_n hx hb dX9_firstInHall_26 rfl (lv_at hl 0 rfl) ?_
        refine lv_iload_n hx hb dX9_firstInHall_27 rfl (lv_at hl 3 rfl) ?_
        refine lv_bipush (v := 7) hx hb dX9_firstInHall_28 (by decide) ?_
        obtain ⟨h_6, hok⟩ := hok
        refine gm_ci (gm_call (As := [.int (nI k_3), .int 7]) (rest := []) (ci := 9) (q := (RX9, TX9, 15)) ⟨hx, hb, hml, hown, hts⟩ hK (c_X9_of l D cy μ X (nI k_3) 7 h_6) (cwV 2 hts gX9_firstInHall_X9_of rfl rfl rfl (by decide +kernel) ⟨Nat.le_of_ble_eq_true rfl, Nat.le_of_ble_eq_true rfl⟩) (MR.mk0 hR) rfl hR rfl hl.1 rfl (Nat.le_of_ble_eq_true rfl) dX9_firstInHall_30 (Nat.zero_le _) (Nat.zero_le _)) hS (fun _ h => h.elim) (fun H locs _ _ hfr hS => ?_)
        have hR := gRep.keep hR hfr (fun _ _ h => h)
        refine lv_iload_n hx hb dX9_firstInHall_33 rfl (lv_at hl 1 rfl) ?_
        refine lv_icmp_ne (tgt := 41) hx hb dX9_firstInHall_34 (by decide) (fun c_7 => ?_) (fun c_7 => ?_)
        · try rw [if_neg c_7] at hok
          refine lv_iconst (v := 0) hx hb dX9_firstInHall_41 (by decide) ?_
          refine lv_istore (lv' := [(4, .int 0), (0, .ref μ), (1, .int a1), (2, .int x_2), (3, .int (nI k_3))]) hx hb dX9_firstInHall_42 hl (by decide) rfl (fun ls hl => ?_)
          refine lv_iload hx hb dX9_firstInHall_44 (lv_at hl 0 rfl) ?_
          refine lv_if_eq (tgt := 74) hx hb dX9_firstInHall_46 (by decide) (fun c_8 => ?_) (fun c_8 => ?_)
          · refine lv_iload_n hx hb dX9_firstInHall_74 rfl (lv_at hl 3 rfl) ?_
            refine lv_istore_n (lv' := [(2, .int x_2), (4, .int 0), (0, .ref μ), (1, .int a1), (3, .int (nI k_3))]) hx hb dX9_firstInHall_75 rfl hl (by decide) rfl (fun ls hl => ?_)
            refine lv_iinc (v := nI (k_3 + 1)) (lv' := [(3, .int (nI (k_3 + 1))), (2, .int x_2), (4, .int 0), (0, .ref μ), (1, .int a1)]) hx hb dX9_firstInHall_76 hl (k := 4) rfl (nI_1 _) (by decide) rfl (fun ls hl => ?_)
            refine lv_goto (tgt := 5) hx hb dX9_firstInHall_79 (by decide) ?_
            refine gm_q (Q2 := MQ below (gQi (lf_X9_firstInHall_5 X a1 K n x_2 (k_3 + 1)) (fun _ => True) gNo) args s 0 0 gNo) (by simp only [lf_X9_firstInHall_5, ↓if_neg c_1, ↓if_pos c_4, ↓if_neg c_7]) ?_
            exact ih x_2 (k_3 + 1) lt_2 hok (by omega) _ _ _ hR hS (lv_sub hl [3, 4, 1, 0] rfl)
          · exact absurd c_8 (by decide)
        · try rw [if_pos c_7] at hok
          refine lv_iconst (v := 1) hx hb dX9_firstInHall_37 (by decide) ?_
          refine lv_goto (tgt := 42) hx hb dX9_firstInHall_38 (by decide) ?_
          refine lv_istore (lv' := [(4, .int 1), (0, .ref μ), (1, .int a1), (2, .int x_2), (3, .int (nI k_3))]) hx hb dX9_firstInHall_42 hl (by decide) rfl (fun ls hl => ?_)
          refine lv_iload hx hb dX9_firstInHall_44 (lv_at hl 0 rfl) ?_
          refine lv_if_eq (tgt := 74) hx hb dX9_firstInHall_46 (by decide) (fun c_9 => ?_) (fun c_9 => ?_)
          · exact absurd c_9 (by decide)
          · refine lv_iload_n hx hb dX9_firstInHall_49 rfl (lv_at hl 3 rfl) ?_
            refine lv_bipush (v := (-5)) hx hb dX9_firstInHall_50 (by decide) ?_
            refine lv_icmp_eq (tgt := 70) hx hb dX9_firstInHall_52 (by decide) (fun c_10 => ?_) (fun c_10 => ?_)
            · try rw [if_pos c_10] at hok
              refine lv_iload_n hx hb dX9_firstInHall_70 rfl (lv_at hl 4 rfl) ?_
              refine lv_goto (tgt := 75) hx hb dX9_firstInHall_71 (by decide) ?_
              refine lv_istore_n (lv' := [(2, .int (nI k_3)), (4, .int 1), (0, .ref μ), (1, .int a1), (3, .int (nI k_3))]) hx hb dX9_firstInHall_75 rfl hl (by decide) rfl (fun ls hl => ?_)
              refine lv_iinc (v := nI (k_3 + 1)) (lv' := [(3, .int (nI (k_3 + 1))), (2, .int (nI k_3)), (4, .int 1), (0, .ref μ), (1, .int a1)]) hx hb dX9_firstInHall_76 hl (k := 4) rfl (nI_1 _) (by decide) rfl (fun ls hl => ?_)
              refine lv_goto (tgt := 5) hx hb dX9_firstInHall_79 (by decide) ?_
              refine gm_q (Q2 := MQ below (gQi (lf_X9_firstInHall_5 X a1 K n (nI k_3) (k_3 + 1)) (fun _ => True) gNo) args s 0 0 gNo) (by simp only [lf_X9_firstInHall_5, ↓if_neg c_1, ↓if_pos c_4, ↓if_pos c_7, ↓if_pos c_10]) ?_
              exact ih (nI k_3) (k_3 + 1) lt_2 hok (by omega) _ _ _ hR hS (lv_sub hl [3, 4, 1, 0] rfl)
            · try rw [if_neg c_10] at hok
              refine lv_aload_n hx hb dX9_firstInHall_55 rfl (lv_at hl 1 rfl) ?_
              refine lv_iload_n hx hb dX9_firstInHall_56 rfl (lv_at hl 4 rfl) ?_
              refine lv_iconst (v := 1) hx hb dX9_firstInHall_57 (by decide) ?_
              obtain ⟨h_11, hok⟩ := hok
              refine gm_ci (gm_call (As := [.int (nI k_3), .int 1]) (rest := []) (ci := 9) (q := (RX9, TX9, 15)) ⟨hx, hb, hml, hown, hts⟩ hK (c_X9_of l D cy μ X (nI k_3) 1 h_11) (cwV 2 hts gX9_firstInHall_X9_of rfl rfl rfl (by decide +kernel) ⟨Nat.le_of_ble_eq_true rfl, Nat.le_of_ble_eq_true rfl⟩) (MR.mk0 hR) rfl hR rfl hl.1 rfl (Nat.le_of_ble_eq_true rfl) dX9_firstInHall_58 (Nat.zero_le _) (Nat.zero_le _)) hS (fun _ h => h.elim) (fun H locs _ _ hfr hS => ?_)
              have hR := gRep.keep hR hfr (fun _ _ h => h)
              refine lv_aload_n hx hb dX9_firstInHall_61 rfl (lv_at hl 1 rfl) ?_
              refine lv_iload_n hx hb dX9_firstInHall_62 rfl (lv_at hl 3 rfl) ?_
              refine lv_iconst (v := 1) hx hb dX9_firstInHall_63 (by decide) ?_
              obtain ⟨h_12, hok⟩ := hok
              refine gm_ci (gm_call (As := [.int x_2, .int 1]) (rest := [.int (f_X9_of X (nI k_3) 1)]) (ci := 9) (q := (RX9, TX9, 15)) ⟨hx, hb, hml, hown, hts⟩ hK (c_X9_of l D cy μ X x_2 1 h_12) (cwV 2 hts gX9_firstInHall_X9_of rfl rfl rfl (by decide +kernel) ⟨Nat.le_of_ble_eq_true rfl, Nat.le_of_ble_eq_true rfl⟩) (MR.mk0 hR) rfl hR rfl hl.1 rfl (Nat.le_of_ble_eq_true rfl) dX9_firstInHall_64 (Nat.zero_le _) (Nat.zero_le _)) hS (fun _ h => h.elim) (fun H locs _ _ hfr hS => ?_)
              have hR := gRep.keep hR hfr (fun _ _ h => h)
              refine lv_icmp_le (tgt := 74) hx hb dX9_firstInHall_67 (by decide) (fun c_13 => ?_) (fun c_13 => ?_)
              · try rw [if_pos c_13] at hok
                refine lv_iload_n hx hb dX9_firstInHall_74 rfl (lv_at hl 3 rfl) ?_
                refine lv_istore_n (lv' := [(2, .int x_2), (4, .int 1), (0, .ref μ), (1, .int a1), (3, .int (nI k_3))]) hx hb dX9_firstInHall_75 rfl hl (by decide) rfl (fun ls hl => ?_)
                refine lv_iinc (v := nI (k_3 + 1)) (lv' := [(3, .int (nI (k_3 + 1))), (2, .int x_2), (4, .int 1), (0, .ref μ), (1, .int a1)]) hx hb dX9_firstInHall_76 hl (k := 4) rfl (nI_1 _) (by decide) rfl (fun ls hl => ?_)
                refine lv_goto (tgt := 5) hx hb dX9_firstInHall_79 (by decide) ?_
                refine gm_q (Q2 := MQ below (gQi (lf_X9_firstInHall_5 X a1 K n x_2 (k_3 + 1)) (fun _ => True) gNo) args s 0 0 gNo) (by simp only [lf_X9_firstInHall_5, ↓if_neg c_1, ↓if_pos c_4, ↓if_pos c_7, ↓if_neg c_10, ↓if_pos c_13]) ?_
                exact ih x_2 (k_3 + 1) lt_2 hok (by omega) _ _ _ hR hS (lv_sub hl [3, 4, 1, 0] rfl)
              · try rw [if_neg c_13] at hok
                refine lv_iload_n hx hb dX9_firstInHall_70 rfl (lv_at hl 4 rfl) ?_
                refine lv_goto (tgt := 75) hx hb dX9_firstInHall_71 (by decide) ?_
                refine lv_istore_n (lv' := [(2, .int (nI k_3)), (4, .int 1), (0, .ref μ), (1, .int a1), (3, .int (nI k_3))]) hx hb dX9_firstInHall_75 rfl hl (by decide) rfl (fun ls hl => ?_)
                refine lv_iinc (v := nI (k_3 + 1)) (lv' := [(3, .int (nI (k_3 + 1))), (2, .int (nI k_3)), (4, .int 1), (0, .ref μ), (1, .int a1)]) hx hb dX9_firstInHall_76 hl (k := 4) rfl (nI_1 _) (by decide) rfl (fun ls hl => ?_)
                refine lv_goto (tgt := 5) hx hb dX9_firstInHall_79 (by decide) ?_
                refine gm_q (Q2 := MQ below (gQi (lf_X9_firstInHall_5 X a1 K n (nI k_3) (k_3 + 1)) (fun _ => True) gNo) args s 0 0 gNo) (by simp only [lf_X9_firstInHall_5, ↓if_neg c_1, ↓if_pos c_4, ↓if_pos c_7, ↓if_neg c_10, ↓if_neg c_13]) ?_
                exact ih (nI k_3) (k_3 + 1) lt_2 hok (by omega) _ _ _ hR hS (lv_sub hl [3, 4, 1, 0] rfl)
set_option maxHeartbeats 4000000 in
set_option maxRecDepth 100000 in
theorem c_X9_firstInHall (l : Launch) (D : va_G) (cy : Nat → ClassId) (μ : Nat) (X : gM) (a1 : Int32)  (hok : ok_X9_firstInHall X a1) : Met l yX9_firstInHall wsX9_firstInHall ({ frames := 1, cells := 0, slots := 0, locals := 22 }) (gP [.ref μ, .int a1] D cy (MR D cy μ X)) (gQi (f_X9_firstInHall X a1) (fun _ => True) gNo) 0 0 gNo := by
  refine gm_met (cc := cX9_firstInHall) (maxL := 5) (ret := (some .int)) [.ref μ, .int a1] (by decide) rfl (Nat.le_of_ble_eq_true rfl) ?_
  intro p e s m args below meth c0 ls C hR hl
  obtain ⟨hx, hb, hr, hts, hown, hlocks, hml, hK⟩ := C
  have hl : lv_has ls 5 [(0, .ref μ), (1, .int a1)] := hl
  have hS : va_S gNo s.heap s.heap [] := va_S.rf
  unfold ok_X9_firstInHall at hok
  refine lv_bipush (v := (-5)) hx hb dX9_firstInHall_0 (by decide) ?_
  refine lv_istore_n (lv' := [(2, .int (-5)), (0, .ref μ), (1, .int a1)]) hx hb dX9_firstInHall_2 rfl hl (by decide) rfl (fun ls hl => ?_)
  refine lv_iconst (v := 0) hx hb dX9_firstInHall_3 (by decide) ?_
  refine lv_istore_n (lv' := [(3, .int 0), (2, .int (-5)), (0, .ref μ), (1, .int a1)]) hx hb dX9_firstInHall_4 rfl hl (by decide) rfl (fun ls hl => ?_)
  refine gm_q (Q2 := MQ below (gQi (lf_X9_firstInHall_5 X a1 (fun x_2w1 k_3w1 =>
        x_2w1) 2147483648 (-5) 0) (fun _ => True) gNo) args s 0 0 gNo) (by simp only [f_X9_firstInHall]) ?_
  refine lp_X9_firstInHall_5 ⟨hx, hb, hr, hts, hown, hlocks, hml, hK⟩ μ X a1  _ _ (fun x_2w1 k_3w1 hbk_3w1 hok H locs ls hR hS hl => ?_) 2147483648 (-5) 0 (by decide) hok (by omega) _ _ _ hR hS (lv_sub hl [2, 3, 1, 0] rfl)
  refine lv_iload_n hx hb dX9_firstInHall_82 rfl (lv_at hl 2 rfl) ?_
  exact gm_iret hx hb hr hlocks hS (by (try simp only [f_X9_firstInHall]); (try rfl)) trivial dX9_firstInHall_83
def f_X9_nextAt (X : gM) (a1 : Int32) : Int32 :=
  if a1 - a1 / 10 * 10 = 0 then
    if f_X9_firstInHall X (a1 / 10) = (-5) then
      f_X9_firstWaiting X a1
    else
      f_X9_firstInHall X (a1 / 10)
  else
    f_X9_firstWaiting X a1
def ok_X9_nextAt (X : gM) (a1 : Int32) : Prop :=
  (if a1 - a1 / 10 * 10 = 0 then
    (ok_X9_firstInHall X (a1 / 10)) ∧
    (if f_X9_firstInHall X (a1 / 10) = (-5) then
      (ok_X9_firstWaiting X a1) ∧
      True
    else
      True)
  else
    (ok_X9_firstWaiting X a1) ∧
    True)
set_option maxHeartbeats 4000000 in
set_option maxRecDepth 100000 in
theorem c_X9_nextAt (l : Launch) (D : va_G) (cy : Nat → ClassId) (μ : Nat) (X : gM) (a1 : Int32)  (hok : ok_X9_nextAt X a1) : Met l yX9_nextAt wsX9_nextAt ({ frames := 3, cells := 0, slots := 0, locals := 67 }) (gP [.ref μ, .int a1] D cy (MR D cy μ X)) (gQi (f_X9_nextAt X a1) (fun _ => True) gNo) 0 0 gNo := by
  refine gm_met (cc := cX9_nextAt) (maxL := 3) (ret := (some .int)) [.ref μ, .int a1] (by decide) rfl (Nat.le_of_ble_eq_true rfl) ?_
  intro p e s m args below meth c0 ls C hR hl
  obtain ⟨hx, hb, hr, hts, hown, hlocks, hml, hK⟩ := C
  have hl : lv_has ls 3 [(0, .ref μ), (1, .int a1)] := hl
  have hS : va_S gNo s.heap s.heap [] := va_S.rf
  unfold ok_X9_nextAt at hok
  refine lv_iload_n hx hb dX9_nextAt_0 rfl (lv_at hl 1 rfl) ?_
  refine lv_bipush (v := 10) hx hb dX9_nextAt_1 (by decide) ?_
  refine lv_irem hx hb dX9_nextAt_3 (by decide) ?_
  refine lv_if_ne (tgt := 18) hx hb dX9_nextAt_4 (by decide) (fun c_1 => ?_) (fun c_1 => ?_)
  · try rw [if_neg c_1] at hok
    refine lv_bipush (v := (-5)) hx hb dX9_nextAt_18 (by decide) ?_
    refine lv_istore_n (lv' := [(2, .int (-5)), (0, .ref μ), (1, .int a1)]) hx hb dX9_nextAt_20 rfl hl (by decide) rfl (fun ls hl => ?_)
    refine lv_iload_n hx hb dX9_nextAt_21 rfl (lv_at hl 0 rfl) ?_
    refine lv_bipush (v := (-5)) hx hb dX9_nextAt_22 (by decide) ?_
    refine lv_icmp_eq (tgt := 31) hx hb dX9_nextAt_24 (by decide) (fun c_2 => ?_) (fun c_2 => ?_)
    · refine lv_aload_n hx hb dX9_nextAt_31 rfl (lv_at hl 1 rfl) ?_
      refine lv_iload_n hx hb dX9_nextAt_32 rfl (lv_at hl 2 rfl) ?_
      obtain ⟨h_3, hok⟩ := hok
      refine gm_ci (gm_call (As := [.int a1]) (rest := []) (ci := 9) (q := (RX9, TX9, 15)) ⟨hx, hb, hml, hown, hts⟩ hK (c_X9_firstWaiting l D cy μ X a1 h_3) (cwV 1 hts gX9_nextAt_X9_firstWaiting rfl rfl rfl (by decide +kernel) ⟨Nat.le_of_ble_eq_true rfl, Nat.le_of_ble_eq_true rfl⟩) (MR.mk0 hR) rfl hR rfl hl.1 rfl (Nat.le_of_ble_eq_true rfl) dX9_nextAt_33 (Nat.zero_le _) (Nat.zero_le _)) hS (fun _ h => h.elim) (fun H locs _ _ hfr hS => ?_)
      have hR := gRep.keep hR hfr (fun _ _ h => h)
      exact gm_iret hx hb hr hlocks hS (by (try simp only [f_X9_nextAt, ↓if_neg c_1]); (try rfl)) trivial dX9_nextAt_36
    · exact absurd c_2 (by decide)
  · try rw [if_pos c_1] at hok
    refine lv_aload_n hx hb dX9_nextAt_7 rfl (lv_at hl 0 rfl) ?_
    refine lv_iload_n hx hb dX9_nextAt_8 rfl (lv_at hl 1 rfl) ?_
    refine lv_bipush (v := 10) hx hb dX9_nextAt_9 (by decide) ?_
    refine lv_idiv hx hb dX9_nextAt_11 (by decide) ?_
    obtain ⟨h_4, hok⟩ := hok
    refine gm_ci (gm_call (As := [.int (a1 / 10)]) (rest := []) (ci := 9) (q := (RX9, TX9, 15)) ⟨hx, hb, hml, hown, hts⟩ hK (c_X9_firstInHall l D cy μ X (a1 / 10) h_4) (cwV 1 hts gX9_nextAt_X9_firstInHall rfl rfl rfl (by decide +kernel) ⟨Nat.le_of_ble_eq_true rfl, Nat.le_of_ble_eq_true rfl⟩) (MR.mk0 hR) rfl hR rfl hl.1 rfl (Nat.le_of_ble_eq_true rfl) dX9_nextAt_12 (Nat.zero_le _) (Nat.zero_le _)) hS (fun _ h => h.elim) (fun H locs _ _ hfr hS => ?_)
    have hR := gRep.keep hR hfr (fun _ _ h => h)
    refine lv_goto (tgt := 20) hx hb dX9_nextAt_15 (by decide) ?_
    refine lv_istore_n (lv' := [(2, .int (f_X9_firstInHall X (a1 / 10))), (0, .ref μ), (1, .int a1)]) hx hb dX9_nextAt_20 rfl hl (by decide) rfl (fun ls hl => ?_)
    refine lv_iload_n hx hb dX9_nextAt_21 rfl (lv_at hl 0 rfl) ?_
    refine lv_bipush (v := (-5)) hx hb dX9_nextAt_22 (by decide) ?_
    refine lv_icmp_eq (tgt := 31) hx hb dX9_nextAt_24 (by decide) (fun c_5 => ?_) (fun c_5 => ?_)
    · try rw [if_pos c_5] at hok
      refine lv_aload_n hx hb dX9_nextAt_31 rfl (lv_at hl 1 rfl) ?_
      refine lv_iload_n hx hb dX9_nextAt_32 rfl (lv_at hl 2 rfl) ?_
      obtain ⟨h_6, hok⟩ := hok
      refine gm_ci (gm_call (As := [.int a1]) (rest := []) (ci := 9) (q := (RX9, TX9, 15)) ⟨hx, hb, hml, hown, hts⟩ hK (c_X9_firstWaiting l D cy μ X a1 h_6) (cwV 1 hts gX9_nextAt_X9_firstWaiting rfl rfl rfl (by decide +kernel) ⟨Nat.le_of_ble_eq_true rfl, Nat.le_of_ble_eq_true rfl⟩) (MR.mk0 hR) rfl hR rfl hl.1 rfl (Nat.le_of_ble_eq_true rfl) dX9_nextAt_33 (Nat.zero_le _) (Nat.zero_le _)) hS (fun _ h => h.elim) (fun H locs _ _ hfr hS => ?_)
      have hR := gRep.keep hR hfr (fun _ _ h => h)
      exact gm_iret hx hb hr hlocks hS (by (try simp only [f_X9_nextAt, ↓if_pos c_1, ↓if_pos c_5]); (try rfl)) trivial dX9_nextAt_36
    · try rw [if_neg c_5] at hok
      refine lv_iload_n hx hb dX9_nextAt_27 rfl (lv_at hl 0 rfl) ?_
      refine lv_goto (tgt := 36) hx hb dX9_nextAt_28 (by decide) ?_
      exact gm_iret hx hb hr hlocks hS (by (try simp only [f_X9_nextAt, ↓if_pos c_1, ↓if_neg c_5]); (try rfl)) trivial dX9_nextAt_36
def lf_X9_logs_4 (a1 : Int32) (a2 : Int32) (a3 : Int32) (a4 : Int32) (K : (gM) → (Nat) → (gM)) : Nat → (gM) → (Nat) → (gM)
  | 0, Z, k_5 => K Z k_5
  | n + 1, Z, k_5 =>
    if nI k_5 ≤ 4 then
      K Z k_5
    else
      let X1 := updM Z 1 (234 + k_5) (Z 1 ((234 + k_5) - 5))
      lf_X9_logs_4 a1 a2 a3 a4 K n X1 (k_5 - 1)
def lok_X9_logs_4 (a1 : Int32) (a2 : Int32) (a3 : Int32) (a4 : Int32) (KO : (gM) → (Nat) → Prop) : Nat → (gM) → (Nat) → Prop
  | 0, Z, k_5 => True
  | n + 1, Z, k_5 =>
    (if nI k_5 ≤ 4 then
      KO Z k_5
    else
      ∀ X1 : gM, X1 = updM Z 1 (234 + k_5) (Z 1 ((234 + k_5) - 5)) →
      lok_X9_logs_4 a1 a2 a3 a4 KO n X1 (k_5 - 1))
def p_X9_logs (X : gM) (a1 : Int32) (a2 : Int32) (a3 : Int32) (a4 : Int32) : gM :=
  lf_X9_logs_4 a1 a2 a3 a4 (fun X1 k_5w1 =>
        let X2 := updM X1 1 234 a1
        let X3 := updM X2 1 235 a2
        let X4 := updM X3 1 236 a3
        let X5 := updM X4 1 237 a4
        let X6 := updM X5 1 238 (X5 1 0)
        if 12 ≤ X6 1 9 then
          let X7 := updM X6 1 9 ((X6 1 9) + 0)
          X7
        else
          let X8 := updM X6 1 9 ((X6 1 9) + 1)
          X8) 60 X 59
def ok_X9_logs (X : gM) (a1 : Int32) (a2 : Int32) (a3 : Int32) (a4 : Int32) : Prop :=
  lok_X9_logs_4 a1 a2 a3 a4 (fun X1 k_5w1 =>
        True) 60 X 59
set_option maxHeartbeats 4000000 in
set_option maxRecDepth 100000 in
theorem lp_X9_logs_4 {p : Program} {l : Launch} {e : Env} {s : State} {m : MethodId} {args : Array Value} {below : List Frame} {meth : Method} {c0 : Code} {D : va_G} {cy : Nat → ClassId} (C : gCtx cX9_logs 6 none RX9 wsX9_logs D cy p s m args meth c0) (μ : Nat) (a1 : Int32) (a2 : Int32) (a3 : Int32) (a4 : Int32) 
    (KO : (gM) → (Nat) → Prop) (K : (gM) → (Nat) → (gM)) (hexit : ∀ (Z : gM) (k_5 : Nat), k_5 ≤ 59 → KO Z k_5 → ∀ (H : Heap) (locs : List Loc) (ls : Array Slot), MR D cy μ Z H → va_S (MA μ) s.heap H locs → lv_has ls 6 [(0, .ref μ), (1, .int a1), (2, .int a2), (3, .int a3), (4, .int a4), (5, .int (nI k_5))] → W p l e { frames := 0, cells := 0, slots := 0, locals := 0 } s m args below meth c0 H locs 0 0 (MQ below (gQv (MR D cy μ (K Z k_5)) (MA μ)) args s 0 0 (MA μ)) (F0 m 40 ls [])) :
    ∀ (n : Nat) (Z : gM) (k_5 : Nat), k_5 ≤ 59 → lok_X9_logs_4 a1 a2 a3 a4 KO n Z k_5 → k_5 < n → ∀ (H : Heap) (locs : List Loc) (ls : Array Slot), MR D cy μ Z H → va_S (MA μ) s.heap H locs → lv_has ls 6 [(0, .ref μ), (1, .int a1), (2, .int a2), (3, .int a3), (4, .int a4), (5, .int (nI k_5))] → W p l e { frames := 0, cells := 0, slots := 0, locals := 0 } s m args below meth c0 H locs 0 0 (MQ below (gQv (MR D cy μ (lf_X9_logs_4 a1 a2 a3 a4 K n Z k_5)) (MA μ)) args s 0 0 (MA μ)) (F0 m 4 ls []) := by
  obtain ⟨hx, hb, hr, hts, hown, hlocks, hml, hK⟩ := C
  have lk7 := hts (.fieldLink RX9 7 "MercuryLineModel" "s" "[I") (by decide +kernel)
  have inX9 : ∀ w ∈ u_ws RX9 TX9 15, w ∈ wsX9_logs := by decide +kernel
  intro n
  induction n with
  | zero =>
    intro Z k_5 hb_5 hok hme
    exact absurd hme (by omega)
  | succ n ih =>
    intro Z k_5 hb_5 hok hme H locs ls hR hS hl
    unfold lok_X9_logs_4 at hok
    refine lv_iload hx hb dX9_logs_4 (lv_at hl 5 rfl) ?_
    refine lv_iconst (v := 4) hx hb dX9_logs_6 (by decide) ?_
    refine lv_icmp_le (tgt := 40) hx hb dX9_logs_7 (by decide) (fun c_1 => ?_) (fun c_1 => ?_)
    · try rw [if_pos c_1] at hok
      have lt_2 : k_5 < 5 := g_le2 (Nat.lt_of_le_of_lt hb_5 (by decide)) (by decide) c_1
      refine gm_q (Q2 := MQ below (gQv (MR D cy μ (K Z k_5)) (MA μ)) args s 0 0 (MA μ)) (by simp only [lf_X9_logs_4, ↓if_pos c_1]) ?_
      exact hexit Z k_5 hb_5 hok _ _ _ hR hS (lv_sub hl [0, 1, 2, 3, 4, 5] rfl)
    · try rw [if_neg c_1] at hok
      have ge_3 : 4 < k_5 := g_gt (Nat.lt_of_le_of_lt hb_5 (by decide)) (by decide) c_1
      refine lv_aload_n hx hb dX9_logs_10 rfl (lv_at hl 0 rfl) ?_
      refine va_get (D := D) (ci := 9) (v := .ref (μ + 1)) (C := RX9) (T := TX9) (N := 15) hx hb hts inX9 hown hK.1 (MR.mk0 hR) 0 rfl rfl 0 (by decide) lk7 (fun _ h9 => h9) rfl dX9_logs_11 ?_
      refine lv_sipush (v := 234) hx hb dX9_logs_14 (by decide) ?_
      refine lv_iload hx hb dX9_logs_17 (lv_at hl 5 rfl) ?_
      refine lv_iadd hx hb dX9_logs_19 ?_
      rw [show (234 + (nI k_5) : Int32) = nI (234 + k_5) from nI_add 234 _]
      refine lv_aload_n hx hb dX9_logs_20 rfl (lv_at hl 0 rfl) ?_
      refine va_get (D := D) (ci := 9) (v := .ref (μ + 1)) (C := RX9) (T := TX9) (N := 15) hx hb hts inX9 hown hK.1 (MR.mk0 hR) 0 rfl rfl 0 (by decide) lk7 (fun _ h9 => h9) rfl dX9_logs_21 ?_
      refine lv_sipush (v := 234) hx hb dX9_logs_24 (by decide) ?_
      refine lv_iload hx hb dX9_logs_27 (lv_at hl 5 rfl) ?_
      refine lv_iadd hx hb dX9_logs_29 ?_
      rw [show (234 + (nI k_5) : Int32) = nI (234 + k_5) from nI_add 234 _]
      refine lv_iconst (v := 5) hx hb dX9_logs_30 (by decide) ?_
      refine lv_isub hx hb dX9_logs_31 ?_
      rw [show ((nI (234 + k_5)) - 5 : Int32) = nI ((234 + k_5) - 5) from pk_sub (b := 5) (by omega)]
      refine gm_iald hx hb hK.1 (MR.mk1 hR (c := 1) (by decide) bM_1) (vp_in_nI (by omega) (by decide)) dX9_logs_32 ?_
      rw [nI_clamp (n := ((234 + k_5) - 5)) (by omega)]
      refine gm_iast hx hb hK.1 hR injM hS (a := 1) (by decide) rfl (fun r => bM_1) (vp_in_nI (by omega) (by decide)) dX9_logs_33 (fun H locs hR hS => ?_)
      rw [nI_clamp (n := (234 + k_5)) (by omega)] at hR
      obtain ⟨X1, eX1⟩ : ∃ Y : gM, Y = updM Z 1 (234 + k_5) (Z 1 ((234 + k_5) - 5)) := ⟨_, rfl⟩
      rw [← eX1] at hR
      try replace hok := hok X1 eX1
      refine lv_iinc (v := nI (k_5 - 1)) (lv' := [(5, .int (nI (k_5 - 1))), (0, .ref μ), (1, .int a1), (2, .int a2), (3, .int a3), (4, .int a4)]) hx hb dX9_logs_34 hl (k := 5) rfl (g_dec (by omega)) (by decide) rfl (fun ls hl => ?_)
      refine lv_goto (tgt := 4) hx hb dX9_logs_37 (by decide) ?_
      refine gm_q (Q2 := MQ below (gQv (MR D cy μ (lf_X9_logs_4 a1 a2 a3 a4 K n X1 (k_5 - 1))) (MA μ)) args s 0 0 (MA μ)) (by simp only [lf_X9_logs_4, ↓if_neg c_1, ← eX1]) ?_
      exact ih X1 (k_5 - 1) (by omega) hok (by omega) _ _ _ hR hS (lv_sub hl [1, 2, 3, 4, 5, 0] rfl)
set_option maxHeartbeats 4000000 in
set_option maxRecDepth 100000 in
theorem c_X9_logs (l : Launch) (D : va_G) (cy : Nat → ClassId) (μ : Nat) (X : gM) (a1 : Int32) (a2 : Int32) (a3 : Int32) (a4 : Int32)  (hok : ok_X9_logs X a1 a2 a3 a4) : Met l yX9_logs wsX9_logs ({ frames := 0, cells := 0, slots := 0, locals := 0 }) (gP [.ref μ, .int a1, .int a2, .int a3, .int a4] D cy (MR D cy μ X)) (gQv (MR D cy μ (p_X9_logs X a1 a2 a3 a4)) (MA μ)) 0 0 (MA μ) := by
  refine gm_met (cc := cX9_logs) (maxL := 6) (ret := none) [.ref μ, .int a1, .int a2, .int a3, .int a4] (by decide) rfl (Nat.le_of_ble_eq_true rfl) ?_
  intro p e s m args below meth c0 ls C hR hl
  obtain ⟨hx, hb, hr, hts, hown, hlocks, hml, hK⟩ := C
  have hl : lv_has ls 6 [(0, .ref μ), (1, .int a1), (2, .int a2), (3, .int a3), (4, .int a4)] := hl
  have hS : va_S (MA μ) s.heap s.heap [] := va_S.rf
  have lk7 := hts (.fieldLink RX9 7 "MercuryLineModel" "s" "[I") (by decide +kernel)
  have inX9 : ∀ w ∈ u_ws RX9 TX9 15, w ∈ wsX9_logs := by decide +kernel
  unfold ok_X9_logs at hok
  refine lv_bipush (v := 59) hx hb dX9_logs_0 (by decide) ?_
  refine lv_istore (lv' := [(5, .int 59), (0, .ref μ), (1, .int a1), (2, .int a2), (3, .int a3), (4, .int a4)]) hx hb dX9_logs_2 hl (by decide) rfl (fun ls hl => ?_)
  refine gm_q (Q2 := MQ below (gQv (MR D cy μ (lf_X9_logs_4 a1 a2 a3 a4 (fun X1 k_5w1 =>
        let X2 := updM X1 1 234 a1
        let X3 := updM X2 1 235 a2
        let X4 := updM X3 1 236 a3
        let X5 := updM X4 1 237 a4
        let X6 := updM X5 1 238 (X5 1 0)
        if 12 ≤ X6 1 9 then
          let X7 := updM X6 1 9 ((X6 1 9) + 0)
          X7
        else
          let X8 := updM X6 1 9 ((X6 1 9) + 1)
          X8) 60 X 59)) (MA μ)) args s 0 0 (MA μ)) (by simp only [p_X9_logs]) ?_
  refine lp_X9_logs_4 ⟨hx, hb, hr, hts, hown, hlocks, hml, hK⟩ μ a1 a2 a3 a4  _ _ (fun X1 k_5w1 hbk_5w1 hok H locs ls hR hS hl => ?_) 60 X 59 (by decide) hok (by omega) _ _ _ hR hS (lv_sub hl [1, 2, 3, 4, 5, 0] rfl)
  refine lv_aload_n hx hb dX9_logs_40 rfl (lv_at hl 0 rfl) ?_
  refine va_get (D := D) (ci := 9) (v := .ref (μ + 1)) (C := RX9) (T := TX9) (N := 15) hx hb hts inX9 hown hK.1 (MR.mk0 hR) 0 rfl rfl 0 (by decide) lk7 (fun _ h9 => h9) rfl dX9_logs_41 ?_
  refine lv_sipush (v := 234) hx hb dX9_logs_44 (by decide) ?_
  refine lv_iload_n hx hb dX9_logs_47 rfl (lv_at hl 1 rfl) ?_
  refine gm_iast hx hb hK.1 hR injM hS (a := 1) (by decide) rfl (fun r => bM_1) (vp_in_iff.mpr (by decide)) dX9_logs_48 (fun H locs hR hS => ?_)
  rw [show (234 : Int32).toNatClampNeg = 234 from by decide] at hR
  obtain ⟨X2, eX2⟩ : ∃ Y : gM, Y = updM X1 1 234 a1 := ⟨_, rfl⟩
  rw [← eX2] at hR
  try replace hok := hok X2 eX2
  refine lv_aload_n hx hb dX9_logs_49 rfl (lv_at hl 0 rfl) ?_
  refine va_get (D := D) (ci := 9) (v := .ref (μ + 1)) (C := RX9) (T := TX9) (N := 15) hx hb hts inX9 hown hK.1 (MR.mk0 hR) 0 rfl rfl 0 (by decide) lk7 (fun _ h9 => h9) rfl dX9_logs_50 ?_
  refine lv_sipush (v := 235) hx hb dX9_logs_53 (by decide) ?_
  refine lv_iload_n hx hb dX9_logs_56 rfl (lv_at hl 2 rfl) ?_
  refine gm_iast hx hb hK.1 hR injM hS (a := 1) (by decide) rfl (fun r => bM_1) (vp_in_iff.mpr (by decide)) dX9_logs_57 (fun H locs hR hS => ?_)
  rw [show (235 : Int32).toNatClampNeg = 235 from by decide] at hR
  obtain ⟨X3, eX3⟩ : ∃ Y : gM, Y = updM X2 1 235 a2 := ⟨_, rfl⟩
  rw [← eX3] at hR
  try replace hok := hok X3 eX3
  refine lv_aload_n hx hb dX9_logs_58 rfl (lv_at hl 0 rfl) ?_
  refine va_get (D := D) (ci := 9) (v := .ref (μ + 1)) (C := RX9) (T := TX9) (N := 15) hx hb hts inX9 hown hK.1 (MR.mk0 hR) 0 rfl rfl 0 (by decide) lk7 (fun _ h9 => h9) rfl dX9_logs_59 ?_
  refine lv_sipush (v := 236) hx hb dX9_logs_62 (by decide) ?_
  refine lv_iload_n hx hb dX9_logs_65 rfl (lv_at hl 3 rfl) ?_
  refine gm_iast hx hb hK.1 hR injM hS (a := 1) (by decide) rfl (fun r => bM_1) (vp_in_iff.mpr (by decide)) dX9_logs_66 (fun H locs hR hS => ?_)
  rw [show (236 : Int32).toNatClampNeg = 236 from by decide] at hR
  obtain ⟨X4, eX4⟩ : ∃ Y : gM, Y = updM X3 1 236 a3 := ⟨_, rfl⟩
  rw [← eX4] at hR
  try replace hok := hok X4 eX4
  refine lv_aload_n hx hb dX9_logs_67 rfl (lv_at hl 0 rfl) ?_
  refine va_get (D := D) (ci := 9) (v := .ref (μ + 1)) (C := RX9) (T := TX9) (N := 15) hx hb hts inX9 hown hK.1 (MR.mk0 hR) 0 rfl rfl 0 (by decide) lk7 (fun _ h9 => h9) rfl dX9_logs_68 ?_
  refine lv_sipush (v := 237) hx hb dX9_logs_71 (by decide) ?_
  refine lv_iload hx hb dX9_logs_74 (lv_at hl 4 rfl) ?_
  refine gm_iast hx hb hK.1 hR injM hS (a := 1) (by decide) rfl (fun r => bM_1) (vp_in_iff.mpr (by decide)) dX9_logs_76 (fun H locs hR hS => ?_)
  rw [show (237 : Int32).toNatClampNeg = 237 from by decide] at hR
  obtain ⟨X5, eX5⟩ : ∃ Y : gM, Y = updM X4 1 237 a4 := ⟨_, rfl⟩
  rw [← eX5] at hR
  try replace hok := hok X5 eX5
  refine lv_aload_n hx hb dX9_logs_77 rfl (lv_at hl 0 rfl) ?_
  refine va_get (D := D) (ci := 9) (v := .ref (μ + 1)) (C := RX9) (T := TX9) (N := 15) hx hb hts inX9 hown hK.1 (MR.mk0 hR) 0 rfl rfl 0 (by decide) lk7 (fun _ h9 => h9) rfl dX9_logs_78 ?_
  refine lv_sipush (v := 238) hx hb dX9_logs_81 (by decide) ?_
  refine lv_aload_n hx hb dX9_logs_84 rfl (lv_at hl 0 rfl) ?_
  refine va_get (D := D) (ci := 9) (v := .ref (μ + 1)) (C := RX9) (T := TX9) (N := 15) hx hb hts inX9 hown hK.1 (MR.mk0 hR) 0 rfl rfl 0 (by decide) lk7 (fun _ h9 => h9) rfl dX9_logs_85 ?_
  refine lv_iconst (v := 0) hx hb dX9_logs_88 (by decide) ?_
  refine gm_iald hx hb hK.1 (MR.mk1 hR (c := 1) (by decide) bM_1) (vp_in_iff.mpr (by decide)) dX9_logs_89 ?_
  rw [show (0 : Int32).toNatClampNeg = 0 from by decide]
  refine gm_iast hx hb hK.1 hR injM hS (a := 1) (by decide) rfl (fun r => bM_1) (vp_in_iff.mpr (by decide)) dX9_logs_90 (fun H locs hR hS => ?_)
  rw [show (238 : Int32).toNatClampNeg = 238 from by decide] at hR
  obtain ⟨X6, eX6⟩ : ∃ Y : gM, Y = updM X5 1 238 (X5 1 0) := ⟨_, rfl⟩
  rw [← eX6] at hR
  try replace hok := hok X6 eX6
  refine lv_aload_n hx hb dX9_logs_91 rfl (lv_at hl 0 rfl) ?_
  refine va_get (D := D) (ci := 9) (v := .ref (μ + 1)) (C := RX9) (T := TX9) (N := 15) hx hb hts inX9 hown hK.1 (MR.mk0 hR) 0 rfl rfl 0 (by decide) lk7 (fun _ h9 => h9) rfl dX9_logs_92 ?_
  refine lv_bipush (v := 9) hx hb dX9_logs_95 (by decide) ?_
  refine lv_dup2_11 hx hb dX9_logs_97 rfl rfl ?_
  refine gm_iald hx hb hK.1 (MR.mk1 hR (c := 1) (by decide) bM_1) (vp_in_iff.mpr (by decide)) dX9_logs_98 ?_
  rw [show (9 : Int32).toNatClampNeg = 9 from by decide]
  refine lv_aload_n hx hb dX9_logs_99 rfl (lv_at hl 0 rfl) ?_
  refine va_get (D := D) (ci := 9) (v := .ref (μ + 1)) (C := RX9) (T := TX9) (N := 15) hx hb hts inX9 hown hK.1 (MR.mk0 hR) 0 rfl rfl 0 (by decide) lk7 (fun _ h9 => h9) rfl dX9_logs_100 ?_
  refine lv_bipush (v := 9) hx hb dX9_logs_103 (by decide) ?_
  refine gm_iald hx hb hK.1 (MR.mk1 hR (c := 1) (by decide) bM_1) (vp_in_iff.mpr (by decide)) dX9_logs_105 ?_
  rw [show (9 : Int32).toNatClampNeg = 9 from by decide]
  refine lv_bipush (v := 12) hx hb dX9_logs_106 (by decide) ?_
  refine lv_icmp_ge (tgt := 115) hx hb dX9_logs_108 (by decide) (fun c_2 => ?_) (fun c_2 => ?_)
  · try rw [if_pos c_2] at hok
    refine lv_iconst (v := 0) hx hb dX9_logs_115 (by decide) ?_
    refine lv_iadd hx hb dX9_logs_116 ?_
    refine gm_iast hx hb hK.1 hR injM hS (a := 1) (by decide) rfl (fun r => bM_1) (vp_in_iff.mpr (by decide)) dX9_logs_117 (fun H locs hR hS => ?_)
    rw [show (9 : Int32).toNatClampNeg = 9 from by decide] at hR
    obtain ⟨X7, eX7⟩ : ∃ Y : gM, Y = updM X6 1 9 ((X6 1 9) + 0) := ⟨_, rfl⟩
    rw [← eX7] at hR
    try replace hok := hok X7 eX7
    exact gm_vret hx hb hr hlocks hS (by (try simp only [p_X9_logs, ↓if_pos c_2, ← eX2, ← eX3, ← eX4, ← eX5, ← eX6, ← eX7]); exact hR) dX9_logs_118
  · try rw [if_neg c_2] at hok
    refine lv_iconst (v := 1) hx hb dX9_logs_111 (by decide) ?_
    refine lv_goto (tgt := 116) hx hb dX9_logs_112 (by decide) ?_
    refine lv_iadd hx hb dX9_logs_116 ?_
    refine gm_iast hx hb hK.1 hR injM hS (a := 1) (by decide) rfl (fun r => bM_1) (vp_in_iff.mpr (by decide)) dX9_logs_117 (fun H locs hR hS => ?_)
    rw [show (9 : Int32).toNatClampNeg = 9 from by decide] at hR
    obtain ⟨X8, eX8⟩ : ∃ Y : gM, Y = updM X6 1 9 ((X6 1 9) + 1) := ⟨_, rfl⟩
    rw [← eX8] at hR
    try replace hok := hok X8 eX8
    exact gm_vret hx hb hr hlocks hS (by (try simp only [p_X9_logs, ↓if_neg c_2, ← eX2, ← eX3, ← eX4, ← eX5, ← eX6, ← eX8]); exact hR) dX9_logs_118
def p_X9_rises (X : gM) (a1 : Int32) : gM :=
  if f_X9_of X a1 6 = 1 then
    let X3 := updM X 1 (((26 + (24 * (f_X9_of X a1 7))) + (f_X9_of X a1 8)).toNatClampNeg) (-5)
    let X4 := p_X9_put X3 a1 7 (-5)
    let X5 := p_X9_put X4 a1 8 (-5)
    X5
  else
    let X1 := p_X9_put X a1 7 (-5)
    let X2 := p_X9_put X1 a1 8 (-5)
    X2
def ok_X9_rises (X : gM) (a1 : Int32) : Prop :=
  (ok_X9_of X a1 6) ∧
  (if f_X9_of X a1 6 = 1 then
    (ok_X9_of X a1 7) ∧
    (ok_X9_of X a1 8) ∧
    (vp_in ((26 + (24 * (f_X9_of X a1 7))) + (f_X9_of X a1 8)) 974) ∧
    ∀ X3 : gM, X3 = updM X 1 (((26 + (24 * (f_X9_of X a1 7))) + (f_X9_of X a1 8)).toNatClampNeg) (-5) →
    (ok_X9_put X3 a1 7 (-5)) ∧
    ∀ X4 : gM, X4 = p_X9_put X3 a1 7 (-5) →
    (ok_X9_put X4 a1 8 (-5)) ∧
    True
  else
    (ok_X9_put X a1 7 (-5)) ∧
    ∀ X1 : gM, X1 = p_X9_put X a1 7 (-5) →
    (ok_X9_put X1 a1 8 (-5)) ∧
    True)
set_option maxHeartbeats 4000000 in
set_option maxRecDepth 100000 in
theorem c_X9_rises (l : Launch) (D : va_G) (cy : Nat → ClassId) (μ : Nat) (X : gM) (a1 : Int32)  (hok : ok_X9_rises X a1) : Met l yX9_rises wsX9_rises ({ frames := 1, cells := 0, slots := 0, locals := 23 }) (gP [.ref μ, .int a1] D cy (MR D cy μ X)) (gQv (MR D cy μ (p_X9_rises X a1)) (MA μ)) 0 0 (MA μ) := by
  refine gm_met (cc := cX9_rises) (maxL := 2) (ret := none) [.ref μ, .int a1] (by decide) rfl (Nat.le_of_ble_eq_true rfl) ?_
  intro p e s m args below meth c0 ls C hR hl
  obtain ⟨hx, hb, hr, hts, hown, hlocks, hml, hK⟩ := C
  have hl : lv_has ls 2 [(0, .ref μ), (1, .int a1)] := hl
  have hS : va_S (MA μ) s.heap s.heap [] := va_S.rf
  have lk7 := hts (.fieldLink RX9 7 "MercuryLineModel" "s" "[I") (by decide +kernel)
  have inX9 : ∀ w ∈ u_ws RX9 TX9 15, w ∈ wsX9_rises := by decide +kernel
  unfold ok_X9_rises at hok
  refine lv_aload_n hx hb dX9_rises_0 rfl (lv_at hl 0 rfl) ?_
  refine lv_iload_n hx hb dX9_rises_1 rfl (lv_at hl 1 rfl) ?_
  refine lv_bipush (v := 6) hx hb dX9_rises_2 (by decide) ?_
  obtain ⟨h_1, hok⟩ := hok
  refine gm_ci (gm_call (As := [.int a1, .int 6]) (rest := []) (ci := 9) (q := (RX9, TX9, 15)) ⟨hx, hb, hml, hown, hts⟩ hK (c_X9_of l D cy μ X a1 6 h_1) (cwV 2 hts gX9_rises_X9_of rfl rfl rfl (by decide +kernel) ⟨Nat.le_of_ble_eq_true rfl, Nat.le_of_ble_eq_true rfl⟩) (MR.mk0 hR) rfl hR rfl hl.1 rfl (Nat.le_of_ble_eq_true rfl) dX9_rises_4 (Nat.zero_le _) (Nat.zero_le _)) hS (fun _ h => h.elim) (fun H locs _ _ hfr hS => ?_)
  have hR := gRep.keep hR hfr (fun _ _ h => h)
  refine lv_iconst (v := 1) hx hb dX9_rises_7 (by decide) ?_
  refine lv_icmp_ne (tgt := 39) hx hb dX9_rises_8 (by decide) (fun c_2 => ?_) (fun c_2 => ?_)
  · try rw [if_neg c_2] at hok
    refine lv_aload_n hx hb dX9_rises_39 rfl (lv_at hl 0 rfl) ?_
    refine lv_iload_n hx hb dX9_rises_40 rfl (lv_at hl 1 rfl) ?_
    refine lv_bipush (v := 7) hx hb dX9_rises_41 (by decide) ?_
    refine lv_bipush (v := (-5)) hx hb dX9_rises_43 (by decide) ?_
    obtain ⟨h_3, hok⟩ := hok
    refine gm_cv (gm_call (As := [.int a1, .int 7, .int (-5)]) (rest := []) (ci := 9) (q := (RX9, TX9, 15)) ⟨hx, hb, hml, hown, hts⟩ hK (c_X9_put l D cy μ X a1 7 (-5) h_3) (cwV 3 hts gX9_rises_X9_put rfl rfl rfl (by decide +kernel) ⟨Nat.le_of_ble_eq_true rfl, Nat.le_of_ble_eq_true rfl⟩) (MR.mk0 hR) rfl hR rfl hl.1 rfl (Nat.le_of_ble_eq_true rfl) dX9_rises_45 (Nat.zero_le _) (Nat.zero_le _)) hS (fun _ h => h) (fun H locs hR _ _ hS => ?_)
    obtain ⟨X1, eX1⟩ : ∃ Y : gM, Y = p_X9_put X a1 7 (-5) := ⟨_, rfl⟩
    rw [← eX1] at hR
    try replace hok := hok X1 eX1
    refine lv_aload_n hx hb dX9_rises_48 rfl (lv_at hl 0 rfl) ?_
    refine lv_iload_n hx hb dX9_rises_49 rfl (lv_at hl 1 rfl) ?_
    refine lv_bipush (v := 8) hx hb dX9_rises_50 (by decide) ?_
    refine lv_bipush (v := (-5)) hx hb dX9_rises_52 (by decide) ?_
    obtain ⟨h_4, hok⟩ := hok
    refine gm_cv (gm_call (As := [.int a1, .int 8, .int (-5)]) (rest := []) (ci := 9) (q := (RX9, TX9, 15)) ⟨hx, hb, hml, hown, hts⟩ hK (c_X9_put l D cy μ X1 a1 8 (-5) h_4) (cwV 3 hts gX9_rises_X9_put rfl rfl rfl (by decide +kernel) ⟨Nat.le_of_ble_eq_true rfl, Nat.le_of_ble_eq_true rfl⟩) (MR.mk0 hR) rfl hR rfl hl.1 rfl (Nat.le_of_ble_eq_true rfl) dX9_rises_54 (Nat.zero_le _) (Nat.zero_le _)) hS (fun _ h => h) (fun H locs hR _ _ hS => ?_)
    obtain ⟨X2, eX2⟩ : ∃ Y : gM, Y = p_X9_put X1 a1 8 (-5) := ⟨_, rfl⟩
    rw [← eX2] at hR
    try replace hok := hok X2 eX2
    exact gm_vret hx hb hr hlocks hS (by (try simp only [p_X9_rises, ↓if_neg c_2, ← eX1, ← eX2]); exact hR) dX9_rises_57
  · try rw [if_pos c_2] at hok
    refine lv_aload_n hx hb dX9_rises_11 rfl (lv_at hl 0 rfl) ?_
    refine va_get (D := D) (ci := 9) (v := .ref (μ + 1)) (C := RX9) (T := TX9) (N := 15) hx hb hts inX9 hown hK.1 (MR.mk0 hR) 0 rfl rfl 0 (by decide) lk7 (fun _ h9 => h9) rfl dX9_rises_12 ?_
    refine lv_bipush (v := 26) hx hb dX9_rises_15 (by decide) ?_
    refine lv_bipush (v := 24) hx hb dX9_rises_17 (by decide) ?_
    refine lv_aload_n hx hb dX9_rises_19 rfl (lv_at hl 0 rfl) ?_
    refine lv_iload_n hx hb dX9_rises_20 rfl (lv_at hl 1 rfl) ?_
    refine lv_bipush (v := 7) hx hb dX9_rises_21 (by decide) ?_
    obtain ⟨h_5, hok⟩ := hok
    refine gm_ci (gm_call (As := [.int a1, .int 7]) (rest := [.int 24, .int 26, .ref (μ + 1)]) (ci := 9) (q := (RX9, TX9, 15)) ⟨hx, hb, hml, hown, hts⟩ hK (c_X9_of l D cy μ X a1 7 h_5) (cwV 2 hts gX9_rises_X9_of rfl rfl rfl (by decide +kernel) ⟨Nat.le_of_ble_eq_true rfl, Nat.le_of_ble_eq_true rfl⟩) (MR.mk0 hR) rfl hR rfl hl.1 rfl (Nat.le_of_ble_eq_true rfl) dX9_rises_23 (Nat.zero_le _) (Nat.zero_le _)) hS (fun _ h => h.elim) (fun H locs _ _ hfr hS => ?_)
    have hR := gRep.keep hR hfr (fun _ _ h => h)
    refine lv_imul hx hb dX9_rises_26 ?_
    refine lv_iadd hx hb dX9_rises_27 ?_
    refine lv_aload_n hx hb dX9_rises_28 rfl (lv_at hl 0 rfl) ?_
    refine lv_iload_n hx hb dX9_rises_29 rfl (lv_at hl 1 rfl) ?_
    refine lv_bipush (v := 8) hx hb dX9_rises_30 (by decide) ?_
    obtain ⟨h_6, hok⟩ := hok
    refine gm_ci (gm_call (As := [.int a1, .int 8]) (rest := [.int (26 + (24 * (f_X9_of X a1 7))), .ref (μ + 1)]) (ci := 9) (q := (RX9, TX9, 15)) ⟨hx, hb, hml, hown, hts⟩ hK (c_X9_of l D cy μ X a1 8 h_6) (cwV 2 hts gX9_rises_X9_of rfl rfl rfl (by decide +kernel) ⟨Nat.le_of_ble_eq_true rfl, Nat.le_of_ble_eq_true rfl⟩) (MR.mk0 hR) rfl hR rfl hl.1 rfl (Nat.le_of_ble_eq_true rfl) dX9_rises_32 (Nat.zero_le _) (Nat.zero_le _)) hS (fun _ h => h.elim) (fun H locs _ _ hfr hS => ?_)
    have hR := gRep.keep hR hfr (fun _ _ h => h)
    refine lv_iadd hx hb dX9_rises_35 ?_
    refine lv_bipush (v := (-5)) hx hb dX9_rises_36 (by decide) ?_
    obtain ⟨h_7, hok⟩ := hok
    refine gm_iast hx hb hK.1 hR injM hS (a := 1) (by decide) rfl (fun r => bM_1) h_7 dX9_rises_38 (fun H locs hR hS => ?_)
    obtain ⟨X3, eX3⟩ : ∃ Y : gM, Y = updM X 1 (((26 + (24 * (f_X9_of X a1 7))) + (f_X9_of X a1 8)).toNatClampNeg) (-5) := ⟨_, rfl⟩
    rw [← eX3] at hR
    try replace hok := hok X3 eX3
    refine lv_aload_n hx hb dX9_rises_39 rfl (lv_at hl 0 rfl) ?_
    refine lv_iload_n hx hb dX9_rises_40 rfl (lv_at hl 1 rfl) ?_
    refine lv_bipush (v := 7) hx hb dX9_rises_41 (by decide) ?_
    refine lv_bipush (v := (-5)) hx hb dX9_rises_43 (by decide) ?_
    obtain ⟨h_8, hok⟩ := hok
    refine gm_cv (gm_call (As := [.int a1, .int 7, .int (-5)]) (rest := []) (ci := 9) (q := (RX9, TX9, 15)) ⟨hx, hb, hml, hown, hts⟩ hK (c_X9_put l D cy μ X3 a1 7 (-5) h_8) (cwV 3 hts gX9_rises_X9_put rfl rfl rfl (by decide +kernel) ⟨Nat.le_of_ble_eq_true rfl, Nat.le_of_ble_eq_true rfl⟩) (MR.mk0 hR) rfl hR rfl hl.1 rfl (Nat.le_of_ble_eq_true rfl) dX9_rises_45 (Nat.zero_le _) (Nat.zero_le _)) hS (fun _ h => h) (fun H locs hR _ _ hS => ?_)
    obtain ⟨X4, eX4⟩ : ∃ Y : gM, Y = p_X9_put X3 a1 7 (-5) := ⟨_, rfl⟩
    rw [← eX4] at hR
    try replace hok := hok X4 eX4
    refine lv_aload_n hx hb dX9_rises_48 rfl (lv_at hl 0 rfl) ?_
    refine lv_iload_n hx hb dX9_rises_49 rfl (lv_at hl 1 rfl) ?_
    refine lv_bipush (v := 8) hx hb dX9_rises_50 (by decide) ?_
    refine lv_bipush (v := (-5)) hx hb dX9_rises_52 (by decide) ?_
    obtain ⟨h_9, hok⟩ := hok
    refine gm_cv (gm_call (As := [.int a1, .int 8, .int (-5)]) (rest := []) (ci := 9) (q := (RX9, TX9, 15)) ⟨hx, hb, hml, hown, hts⟩ hK (c_X9_put l D cy μ X4 a1 8 (-5) h_9) (cwV 3 hts gX9_rises_X9_put rfl rfl rfl (by decide +kernel) ⟨Nat.le_of_ble_eq_true rfl, Nat.le_of_ble_eq_true rfl⟩) (MR.mk0 hR) rfl hR rfl hl.1 rfl (Nat.le_of_ble_eq_true rfl) dX9_rises_54 (Nat.zero_le _) (Nat.zero_le _)) hS (fun _ h => h) (fun H locs hR _ _ hS => ?_)
    obtain ⟨X5, eX5⟩ : ∃ Y : gM, Y = p_X9_put X4 a1 8 (-5) := ⟨_, rfl⟩
    rw [← eX5] at hR
    try replace hok := hok X5 eX5
    exact gm_vret hx hb hr hlocks hS (by (try simp only [p_X9_rises, ↓if_pos c_2, ← eX3, ← eX4, ← eX5]); exact hR) dX9_rises_57
def p_X9_ends (X : gM) (a1 : Int32) (a2 : Int32) (a3 : Int32) (a4 : Int32) : gM :=
  let X1 := p_X9_rises X a1
  let X2 := p_X9_put X1 a1 6 a2
  let X3 := p_X9_put X2 a1 11 (X2 1 0)
  let X4 := p_X9_put X3 a1 12 a3
  let X5 := updM X4 1 5 ((X4 1 5) + a4)
  let X6 := updM X5 1 4 ((X5 1 4) + ((f_X9_of X5 a1 5) - a4))
  X6
def ok_X9_ends (X : gM) (a1 : Int32) (a2 : Int32) (a3 : Int32) (a4 : Int32) : Prop :=
  (ok_X9_rises X a1) ∧
  ∀ X1 : gM, X1 = p_X9_rises X a1 →
  (ok_X9_put X1 a1 6 a2) ∧
  ∀ X2 : gM, X2 = p_X9_put X1 a1 6 a2 →
  (ok_X9_put X2 a1 11 (X2 1 0)) ∧
  ∀ X3 : gM, X3 = p_X9_put X2 a1 11 (X2 1 0) →
  (ok_X9_put X3 a1 12 a3) ∧
  ∀ X4 : gM, X4 = p_X9_put X3 a1 12 a3 →
  ∀ X5 : gM, X5 = updM X4 1 5 ((X4 1 5) + a4) →
  (ok_X9_of X5 a1 5) ∧
  True
set_option maxHeartbeats 4000000 in
set_option maxRecDepth 100000 in
theorem c_X9_ends (l : Launch) (D : va_G) (cy : Nat → ClassId) (μ : Nat) (X : gM) (a1 : Int32) (a2 : Int32) (a3 : Int32) (a4 : Int32)  (hok : ok_X9_ends X a1 a2 a3 a4) : Met l yX9_ends wsX9_ends ({ frames := 2, cells := 0, slots := 0, locals := 44 }) (gP [.ref μ, .int a1, .int a2, .int a3, .int a4] D cy (MR D cy μ X)) (gQv (MR D cy μ (p_X9_ends X a1 a2 a3 a4)) (MA μ)) 0 0 (MA μ) := by
  refine gm_met (cc := cX9_ends) (maxL := 5) (ret := none) [.ref μ, .int a1, .int a2, .int a3, .int a4] (by decide) rfl (Nat.le_of_ble_eq_true rfl) ?_
  intro p e s m args below meth c0 ls C hR hl
  obtain ⟨hx, hb, hr, hts, hown, hlocks, hml, hK⟩ := C
  have hl : lv_has ls 5 [(0, .ref μ), (1, .int a1), (2, .int a2), (3, .int a3), (4, .int a4)] := hl
  have hS : va_S (MA μ) s.heap s.heap [] := va_S.rf
  have lk7 := hts (.fieldLink RX9 7 "MercuryLineModel" "s" "[I") (by decide +kernel)
  have inX9 : ∀ w ∈ u_ws RX9 TX9 15, w ∈ wsX9_ends := by decide +kernel
  unfold ok_X9_ends at hok
  refine lv_aload_n hx hb dX9_ends_0 rfl (lv_at hl 0 rfl) ?_
  refine lv_iload_n hx hb dX9_ends_1 rfl (lv_at hl 1 rfl) ?_
  obtain ⟨h_1, hok⟩ := hok
  refine gm_cv (gm_call (As := [.int a1]) (rest := []) (ci := 9) (q := (RX9, TX9, 15)) ⟨hx, hb, hml, hown, hts⟩ hK (c_X9_rises l D cy μ X a1 h_1) (cwV 1 hts gX9_ends_X9_rises rfl rfl rfl (by decide +kernel) ⟨Nat.le_of_ble_eq_true rfl, Nat.le_of_ble_eq_true rfl⟩) (MR.mk0 hR) rfl hR rfl hl.1 rfl (Nat.le_of_ble_eq_true rfl) dX9_ends_2 (Nat.zero_le _) (Nat.zero_le _)) hS (fun _ h => h) (fun H locs hR _ _ hS => ?_)
  obtain ⟨X1, eX1⟩ : ∃ Y : gM, Y = p_X9_rises X a1 := ⟨_, rfl⟩
  rw [← eX1] at hR
  try replace hok := hok X1 eX1
  refine lv_aload_n hx hb dX9_ends_5 rfl (lv_at hl 0 rfl) ?_
  refine lv_iload_n hx hb dX9_ends_6 rfl (lv_at hl 1 rfl) ?_
  refine lv_bipush (v := 6) hx hb dX9_ends_7 (by decide) ?_
  refine lv_iload_n hx hb dX9_ends_9 rfl (lv_at hl 2 rfl) ?_
  obtain ⟨h_2, hok⟩ := hok
  refine gm_cv (gm_call (As := [.int a1, .int 6, .int a2]) (rest := []) (ci := 9) (q := (RX9, TX9, 15)) ⟨hx, hb, hml, hown, hts⟩ hK (c_X9_put l D cy μ X1 a1 6 a2 h_2) (cwV 3 hts gX9_ends_X9_put rfl rfl rfl (by decide +kernel) ⟨Nat.le_of_ble_eq_true rfl, Nat.le_of_ble_eq_true rfl⟩) (MR.mk0 hR) rfl hR rfl hl.1 rfl (Nat.le_of_ble_eq_true rfl) dX9_ends_10 (Nat.zero_le _) (Nat.zero_le _)) hS (fun _ h => h) (fun H locs hR _ _ hS => ?_)
  obtain ⟨X2, eX2⟩ : ∃ Y : gM, Y = p_X9_put X1 a1 6 a2 := ⟨_, rfl⟩
  rw [← eX2] at hR
  try replace hok := hok X2 eX2
  refine lv_aload_n hx hb dX9_ends_13 rfl (lv_at hl 0 rfl) ?_
  refine lv_iload_n hx hb dX9_ends_14 rfl (lv_at hl 1 rfl) ?_
  refine lv_bipush (v := 11) hx hb dX9_ends_15 (by decide) ?_
  refine lv_aload_n hx hb dX9_ends_17 rfl (lv_at hl 0 rfl) ?_
  refine va_get (D := D) (ci := 9) (v := .ref (μ + 1)) (C := RX9) (T := TX9) (N := 15) hx hb hts inX9 hown hK.1 (MR.mk0 hR) 0 rfl rfl 0 (by decide) lk7 (fun _ h9 => h9) rfl dX9_ends_18 ?_
  refine lv_iconst (v := 0) hx hb dX9_ends_21 (by decide) ?_
  refine gm_iald hx hb hK.1 (MR.mk1 hR (c := 1) (by decide) bM_1) (vp_in_iff.mpr (by decide)) dX9_ends_22 ?_
  rw [show (0 : Int32).toNatClampNeg = 0 from by decide]
  obtain ⟨h_3, hok⟩ := hok
  refine gm_cv (gm_call (As := [.int a1, .int 11, .int (X2 1 0)]) (rest := []) (ci := 9) (q := (RX9, TX9, 15)) ⟨hx, hb, hml, hown, hts⟩ hK (c_X9_put l D cy μ X2 a1 11 (X2 1 0) h_3) (cwV 3 hts gX9_ends_X9_put rfl rfl rfl (by decide +kernel) ⟨Nat.le_of_ble_eq_true rfl, Nat.le_of_ble_eq_true rfl⟩) (MR.mk0 hR) rfl hR rfl hl.1 rfl (Nat.le_of_ble_eq_true rfl) dX9_ends_23 (Nat.zero_le _) (Nat.zero_le _)) hS (fun _ h => h) (fun H locs hR _ _ hS => ?_)
  obtain ⟨X3, eX3⟩ : ∃ Y : gM, Y = p_X9_put X2 a1 11 (X2 1 0) := ⟨_, rfl⟩
  rw [← eX3] at hR
  try replace hok := hok X3 eX3
  refine lv_aload_n hx hb dX9_ends_26 rfl (lv_at hl 0 rfl) ?_
  refine lv_iload_n hx hb dX9_ends_27 rfl (lv_at hl 1 rfl) ?_
  refine lv_bipush (v := 12) hx hb dX9_ends_28 (by decide) ?_
  refine lv_iload_n hx hb dX9_ends_30 rfl (lv_at hl 3 rfl) ?_
  obtain ⟨h_4, hok⟩ := hok
  refine gm_cv (gm_call (As := [.int a1, .int 12, .int a3]) (rest := []) (ci := 9) (q := (RX9, TX9, 15)) ⟨hx, hb, hml, hown, hts⟩ hK (c_X9_put l D cy μ X3 a1 12 a3 h_4) (cwV 3 hts gX9_ends_X9_put rfl rfl rfl (by decide +kernel) ⟨Nat.le_of_ble_eq_true rfl, Nat.le_of_ble_eq_true rfl⟩) (MR.mk0 hR) rfl hR rfl hl.1 rfl (Nat.le_of_ble_eq_true rfl) dX9_ends_31 (Nat.zero_le _) (Nat.zero_le _)) hS (fun _ h => h) (fun H locs hR _ _ hS => ?_)
  obtain ⟨X4, eX4⟩ : ∃ Y : gM, Y = p_X9_put X3 a1 12 a3 := ⟨_, rfl⟩
  rw [← eX4] at hR
  try replace hok := hok X4 eX4
  refine lv_aload_n hx hb dX9_ends_34 rfl (lv_at hl 0 rfl) ?_
  refine va_get (D := D) (ci := 9) (v := .ref (μ + 1)) (C := RX9) (T := TX9) (N := 15) hx hb hts inX9 hown hK.1 (MR.mk0 hR) 0 rfl rfl 0 (by decide) lk7 (fun _ h9 => h9) rfl dX9_ends_35 ?_
  refine lv_iconst (v := 5) hx hb dX9_ends_38 (by decide) ?_
  refine lv_dup2_11 hx hb dX9_ends_39 rfl rfl ?_
  refine gm_iald hx hb hK.1 (MR.mk1 hR (c := 1) (by decide) bM_1) (vp_in_iff.mpr (by decide)) dX9_ends_40 ?_
  rw [show (5 : Int32).toNatClampNeg = 5 from by decide]
  refine lv_iload hx hb dX9_ends_41 (lv_at hl 4 rfl) ?_
  refine lv_iadd hx hb dX9_ends_43 ?_
  refine gm_iast hx hb hK.1 hR injM hS (a := 1) (by decide) rfl (fun r => bM_1) (vp_in_iff.mpr (by decide)) dX9_ends_44 (fun H locs hR hS => ?_)
  rw [show (5 : Int32).toNatClampNeg = 5 from by decide] at hR
  obtain ⟨X5, eX5⟩ : ∃ Y : gM, Y = updM X4 1 5 ((X4 1 5) + a4) := ⟨_, rfl⟩
  rw [← eX5] at hR
  try replace hok := hok X5 eX5
  refine lv_aload_n hx hb dX9_ends_45 rfl (lv_at hl 0 rfl) ?_
  refine va_get (D := D) (ci := 9) (v := .ref (μ + 1)) (C := RX9) (T := TX9) (N := 15) hx hb hts inX9 hown hK.1 (MR.mk0 hR) 0 rfl rfl 0 (by decide) lk7 (fun _ h9 => h9) rfl dX9_ends_46 ?_
  refine lv_iconst (v := 4) hx hb dX9_ends_49 (by decide) ?_
  refine lv_dup2_11 hx hb dX9_ends_50 rfl rfl ?_
  refine gm_iald hx hb hK.1 (MR.mk1 hR (c := 1) (by decide) bM_1) (vp_in_iff.mpr (by decide)) dX9_ends_51 ?_
  rw [show (4 : Int32).toNatClampNeg = 4 from by decide]
  refine lv_aload_n hx hb dX9_ends_52 rfl (lv_at hl 0 rfl) ?_
  refine lv_iload_n hx hb dX9_ends_53 rfl (lv_at hl 1 rfl) ?_
  refine lv_iconst (v := 5) hx hb dX9_ends_54 (by decide) ?_
  obtain ⟨h_5, hok⟩ := hok
  refine gm_ci (gm_call (As := [.int a1, .int 5]) (rest := [.int (X5 1 4), .int 4, .ref (μ + 1)]) (ci := 9) (q := (RX9, TX9, 15)) ⟨hx, hb, hml, hown, hts⟩ hK (c_X9_of l D cy μ X5 a1 5 h_5) (cwV 2 hts gX9_ends_X9_of rfl rfl rfl (by decide +kernel) ⟨Nat.le_of_ble_eq_true rfl, Nat.le_of_ble_eq_true rfl⟩) (MR.mk0 hR) rfl hR rfl hl.1 rfl (Nat.le_of_ble_eq_true rfl) dX9_ends_55 (Nat.zero_le _) (Nat.zero_le _)) hS (fun _ h => h.elim) (fun H locs _ _ hfr hS => ?_)
  have hR := gRep.keep hR hfr (fun _ _ h => h)
  refine lv_iload hx hb dX9_ends_58 (lv_at hl 4 rfl) ?_
  refine lv_isub hx hb dX9_ends_60 ?_
  refine lv_iadd hx hb dX9_ends_61 ?_
  refine gm_iast hx hb hK.1 hR injM hS (a := 1) (by decide) rfl (fun r => bM_1) (vp_in_iff.mpr (by decide)) dX9_ends_62 (fun H locs hR hS => ?_)
  rw [show (4 : Int32).toNatClampNeg = 4 from by decide] at hR
  obtain ⟨X6, eX6⟩ : ∃ Y : gM, Y = updM X5 1 4 ((X5 1 4) + ((f_X9_of X5 a1 5) - a4)) := ⟨_, rfl⟩
  rw [← eX6] at hR
  try replace hok := hok X6 eX6
  exact gm_vret hx hb hr hlocks hS (by (try simp only [p_X9_ends, ← eX1, ← eX2, ← eX3, ← eX4, ← eX5, ← eX6]); exact hR) dX9_ends_63
def p_X9_boards (X : gM) (a1 : Int32) (a2 : Int32) (a3 : Int32) : gM :=
  let X1 := p_X9_put X a1 6 1
  let X2 := p_X9_put X1 a1 7 (a2 / 10)
  let X3 := p_X9_put X2 a1 8 a3
  let X4 := p_X9_put X3 a1 16 (a2 - a2 / 10 * 10)
  if f_X9_of X4 a1 10 = (-5) then
    let X9 := p_X9_put X4 a1 10 (X4 1 0)
    let X10 := updM X9 1 (((26 + (24 * (a2 / 10))) + a3).toNatClampNeg) a1
    let X11 := updM X10 1 (((f_X9_stationAt a2) + 1).toNatClampNeg) ((X10 1 (((f_X9_stationAt a2) + 1).toNatClampNeg)) + 1)
    let X12 := p_X9_logs X11 0 a1 (a2 / 10) a2
    X12
  else
    let X5 := p_X9_put X4 a1 10 (f_X9_of X4 a1 10)
    let X6 := updM X5 1 (((26 + (24 * (a2 / 10))) + a3).toNatClampNeg) a1
    let X7 := updM X6 1 (((f_X9_stationAt a2) + 1).toNatClampNeg) ((X6 1 (((f_X9_stationAt a2) + 1).toNatClampNeg)) + 1)
    let X8 := p_X9_logs X7 0 a1 (a2 / 10) a2
    X8
def ok_X9_boards (X : gM) (a1 : Int32) (a2 : Int32) (a3 : Int32) : Prop :=
  (ok_X9_put X a1 6 1) ∧
  ∀ X1 : gM, X1 = p_X9_put X a1 6 1 →
  (ok_X9_put X1 a1 7 (a2 / 10)) ∧
  ∀ X2 : gM, X2 = p_X9_put X1 a1 7 (a2 / 10) →
  (ok_X9_put X2 a1 8 a3) ∧
  ∀ X3 : gM, X3 = p_X9_put X2 a1 8 a3 →
  (ok_X9_put X3 a1 16 (a2 - a2 / 10 * 10)) ∧
  ∀ X4 : gM, X4 = p_X9_put X3 a1 16 (a2 - a2 / 10 * 10) →
  (ok_X9_of X4 a1 10) ∧
  (if f_X9_of X4 a1 10 = (-5) then
    (ok_X9_put X4 a1 10 (X4 1 0)) ∧
    ∀ X9 : gM, X9 = p_X9_put X4 a1 10 (X4 1 0) →
    (vp_in ((26 + (24 * (a2 / 10))) + a3) 974) ∧
    ∀ X10 : gM, X10 = updM X9 1 (((26 + (24 * (a2 / 10))) + a3).toNatClampNeg) a1 →
    (vp_in ((f_X9_stationAt a2) + 1) 974) ∧
    (vp_in ((f_X9_stationAt a2) + 1) 974) ∧
    ∀ X11 : gM, X11 = updM X10 1 (((f_X9_stationAt a2) + 1).toNatClampNeg) ((X10 1 (((f_X9_stationAt a2) + 1).toNatClampNeg)) + 1) →
    (ok_X9_logs X11 0 a1 (a2 / 10) a2) ∧
    True
  else
    (ok_X9_of X4 a1 10) ∧
    (ok_X9_put X4 a1 10 (f_X9_of X4 a1 10)) ∧
    ∀ X5 : gM, X5 = p_X9_put X4 a1 10 (f_X9_of X4 a1 10) →
    (vp_in ((26 + (24 * (a2 / 10))) + a3) 974) ∧
    ∀ X6 : gM, X6 = updM X5 1 (((26 + (24 * (a2 / 10))) + a3).toNatClampNeg) a1 →
    (vp_in ((f_X9_stationAt a2) + 1) 974) ∧
    (vp_in ((f_X9_stationAt a2) + 1) 974) ∧
    ∀ X7 : gM, X7 = updM X6 1 (((f_X9_stationAt a2) + 1).toNatClampNeg) ((X6 1 (((f_X9_stationAt a2) + 1).toNatClampNeg)) + 1) →
    (ok_X9_logs X7 0 a1 (a2 / 10) a2) ∧
    True)
set_option maxHeartbeats 4000000 in
set_option maxRecDepth 100000 in
theorem c_X9_boards (l : Launch) (D : va_G) (cy : Nat → ClassId) (μ : Nat) (X : gM) (a1 : Int32) (a2 : Int32) (a3 : Int32)  (hok : ok_X9_boards X a1 a2 a3) : Met l yX9_boards wsX9_boards ({ frames := 1, cells := 0, slots := 0, locals := 25 }) (gP [.ref μ, .int a1, .int a2, .int a3] D cy (MR D cy μ X)) (gQv (MR D cy μ (p_X9_boards X a1 a2 a3)) (MA μ)) 0 0 (MA μ) := by
  refine gm_met (cc := cX9_boards) (maxL := 5) (ret := none) [.ref μ, .int a1, .int a2, .int a3] (by decide) rfl (Nat.le_of_ble_eq_true rfl) ?_
  intro p e s m args below meth c0 ls C hR hl
  obtain ⟨hx, hb, hr, hts, hown, hlocks, hml, hK⟩ := C
  have hl : lv_has ls 5 [(0, .ref μ), (1, .int a1), (2, .int a2), (3, .int a3)] := hl
  have hS : va_S (MA μ) s.heap s.heap [] := va_S.rf
  have lk7 := hts (.fieldLink RX9 7 "MercuryLineModel" "s" "[I") (by decide +kernel)
  have inX9 : ∀ w ∈ u_ws RX9 TX9 15, w ∈ wsX9_boards := by decide +kernel
  unfold ok_X9_boards at hok
  refine lv_iload_n hx hb dX9_boards_0 rfl (lv_at hl 2 rfl) ?_
  refine lv_bipush (v := 10) hx hb dX9_boards_1 (by decide) ?_
  refine lv_idiv hx hb dX9_boards_3 (by decide) ?_
  refine lv_istore (lv' := [(4, .int (a2 / 10)), (0, .ref μ), (1, .int a1), (2, .int a2), (3, .int a3)]) hx hb dX9_boards_4 hl (by decide) rfl (fun ls hl => ?_)
  refine lv_aload_n hx hb dX9_boards_6 rfl (lv_at hl 1 rfl) ?_
  refine lv_iload_n hx hb dX9_boards_7 rfl (lv_at hl 2 rfl) ?_
  refine lv_bipush (v := 6) hx hb dX9_boards_8 (by decide) ?_
  refine lv_iconst (v := 1) hx hb dX9_boards_10 (by decide) ?_
  obtain ⟨h_1, hok⟩ := hok
  refine gm_cv (gm_call (As := [.int a1, .int 6, .int 1]) (rest := []) (ci := 9) (q := (RX9, TX9, 15)) ⟨hx, hb, hml, hown, hts⟩ hK (c_X9_put l D cy μ X a1 6 1 h_1) (cwV 3 hts gX9_boards_X9_put rfl rfl rfl (by decide +kernel) ⟨Nat.le_of_ble_eq_true rfl, Nat.le_of_ble_eq_true rfl⟩) (MR.mk0 hR) rfl hR rfl hl.1 rfl (Nat.le_of_ble_eq_true rfl) dX9_boards_11 (Nat.zero_le _) (Nat.zero_le _)) hS (fun _ h => h) (fun H locs hR _ _ hS => ?_)
  obtain ⟨X1, eX1⟩ : ∃ Y : gM, Y = p_X9_put X a1 6 1 := ⟨_, rfl⟩
  rw [← eX1] at hR
  try replace hok := hok X1 eX1
  refine lv_aload_n hx hb dX9_boards_14 rfl (lv_at hl 1 rfl) ?_
  refine lv_iload_n hx hb dX9_boards_15 rfl (lv_at hl 2 rfl) ?_
  refine lv_bipush (v := 7) hx hb dX9_boards_16 (by decide) ?_
  refine lv_iload hx hb dX9_boards_18 (lv_at hl 0 rfl) ?_
  obtain ⟨h_2, hok⟩ := hok
  refine gm_cv (gm_call (As := [.int a1, .int 7, .int (a2 / 10)]) (rest := []) (ci := 9) (q := (RX9, TX9, 15)) ⟨hx, hb, hml, hown, hts⟩ hK (c_X9_put l D cy μ X1 a1 7 (a2 / 10) h_2) (cwV 3 hts gX9_boards_X9_put rfl rfl rfl (by decide +kernel) ⟨Nat.le_of_ble_eq_true rfl, Nat.le_of_ble_eq_true rfl⟩) (MR.mk0 hR) rfl hR rfl hl.1 rfl (Nat.le_of_ble_eq_true rfl) dX9_boards_20 (Nat.zero_le _) (Nat.zero_le _)) hS (fun _ h => h) (fun H locs hR _ _ hS => ?_)
  obtain ⟨X2, eX2⟩ : ∃ Y : gM, Y = p_X9_put X1 a1 7 (a2 / 10) := ⟨_, rfl⟩
  rw [← eX2] at hR
  try replace hok := hok X2 eX2
  refine lv_aload_n hx hb dX9_boards_23 rfl (lv_at hl 1 rfl) ?_
  refine lv_iload_n hx hb dX9_boards_24 rfl (lv_at hl 2 rfl) ?_
  refine lv_bipush (v := 8) hx hb dX9_boards_25 (by decide) ?_
  refine lv_iload_n hx hb dX9_boards_27 rfl (lv_at hl 4 rfl) ?_
  obtain ⟨h_3, hok⟩ := hok
  refine gm_cv (gm_call (As := [.int a1, .int 8, .int a3]) (rest := []) (ci := 9) (q := (RX9, TX9, 15)) ⟨hx, hb, hml, hown, hts⟩ hK (c_X9_put l D cy μ X2 a1 8 a3 h_3) (cwV 3 hts gX9_boards_X9_put rfl rfl rfl (by decide +kernel) ⟨Nat.le_of_ble_eq_true rfl, Nat.le_of_ble_eq_true rfl⟩) (MR.mk0 hR) rfl hR rfl hl.1 rfl (Nat.le_of_ble_eq_true rfl) dX9_boards_28 (Nat.zero_le _) (Nat.zero_le _)) hS (fun _ h => h) (fun H locs hR _ _ hS => ?_)
  obtain ⟨X3, eX3⟩ : ∃ Y : gM, Y = p_X9_put X2 a1 8 a3 := ⟨_, rfl⟩
  rw [← eX3] at hR
  try replace hok := hok X3 eX3
  refine lv_aload_n hx hb dX9_boards_31 rfl (lv_at hl 1 rfl) ?_
  refine lv_iload_n hx hb dX9_boards_32 rfl (lv_at hl 2 rfl) ?_
  refine lv_bipush (v := 16) hx hb dX9_boards_33 (by decide) ?_
  refine lv_iload_n hx hb dX9_boards_35 rfl (lv_at hl 3 rfl) ?_
  refine lv_bipush (v := 10) hx hb dX9_boards_36 (by decide) ?_
  refine lv_irem hx hb dX9_boards_38 (by decide) ?_
  obtain ⟨h_4, hok⟩ := hok
  refine gm_cv (gm_call (As := [.int a1, .int 16, .int (a2 - a2 / 10 * 10)]) (rest := []) (ci := 9) (q := (RX9, TX9, 15)) ⟨hx, hb, hml, hown, hts⟩ hK (c_X9_put l D cy μ X3 a1 16 (a2 - a2 / 10 * 10) h_4) (cwV 3 hts gX9_boards_X9_put rfl rfl rfl (by decide +kernel) ⟨Nat.le_of_ble_eq_true rfl, Nat.le_of_ble_eq_true rfl⟩) (MR.mk0 hR) rfl hR rfl hl.1 rfl (Nat.le_of_ble_eq_true rfl) dX9_boards_39 (Nat.zero_le _) (Nat.zero_le _)) hS (fun _ h => h) (fun H locs hR _ _ hS => ?_)
  obtain ⟨X4, eX4⟩ : ∃ Y : gM, Y = p_X9_put X3 a1 16 (a2 - a2 / 10 * 10) := ⟨_, rfl⟩
  rw [← eX4] at hR
  try replace hok := hok X4 eX4
  refine lv_aload_n hx hb dX9_boards_42 rfl (lv_at hl 1 rfl) ?_
  refine lv_iload_n hx hb dX9_boards_43 rfl (lv_at hl 2 rfl) ?_
  refine lv_bipush (v := 10) hx hb dX9_boards_44 (by decide) ?_
  refine lv_aload_n hx hb dX9_boards_46 rfl (lv_at hl 1 rfl) ?_
  refine lv_iload_n hx hb dX9_boards_47 rfl (lv_at hl 2 rfl) ?_
  refine lv_bipush (v := 10) hx hb dX9_boards_48 (by decide) ?_
  obtain ⟨h_5, hok⟩ := hok
  refine gm_ci (gm_call (As := [.int a1, .int 10]) (rest := [.int 10, .int a1, .ref μ]) (ci := 9) (q := (RX9, TX9, 15)) ⟨hx, hb, hml, hown, hts⟩ hK (c_X9_of l D cy μ X4 a1 10 h_5) (cwV 2 hts gX9_boards_X9_of rfl rfl rfl (by decide +kernel) ⟨Nat.le_of_ble_eq_true rfl, Nat.le_of_ble_eq_true rfl⟩) (MR.mk0 hR) rfl hR rfl hl.1 rfl (Nat.le_of_ble_eq_true rfl) dX9_boards_50 (Nat.zero_le _) (Nat.zero_le _)) hS (fun _ h => h.elim) (fun H locs _ _ hfr hS => ?_)
  have hR := gRep.keep hR hfr (fun _ _ h => h)
  refine lv_bipush (v := (-5)) hx hb dX9_boards_53 (by decide) ?_
  refine lv_icmp_ne (tgt := 67) hx hb dX9_boards_55 (by decide) (fun c_6 => ?_) (fun c_6 => ?_)
  · try rw [if_neg c_6] at hok
    refine lv_aload_n hx hb dX9_boards_67 rfl (lv_at hl 1 rfl) ?_
    refine lv_iload_n hx hb dX9_boards_68 rfl (lv_at hl 2 rfl) ?_
    refine lv_bipush (v := 10) hx hb dX9_boards_69 (by decide) ?_
    obtain ⟨h_7, hok⟩ := hok
    refine gm_ci (gm_call (As := [.int a1, .int 10]) (rest := [.int 10, .int a1, .ref μ]) (ci := 9) (q := (RX9, TX9, 15)) ⟨hx, hb, hml, hown, hts⟩ hK (c_X9_of l D cy μ X4 a1 10 h_7) (cwV 2 hts gX9_boards_X9_of rfl rfl rfl (by decide +kernel) ⟨Nat.le_of_ble_eq_true rfl, Nat.le_of_ble_eq_true rfl⟩) (MR.mk0 hR) rfl hR rfl hl.1 rfl (Nat.le_of_ble_eq_true rfl) dX9_boards_71 (Nat.zero_le _) (Nat.zero_le _)) hS (fun _ h => h.elim) (fun H locs _ _ hfr hS => ?_)
    have hR := gRep.keep hR hfr (fun _ _ h => h)
    obtain ⟨h_8, hok⟩ := hok
    refine gm_cv (gm_call (As := [.int a1, .int 10, .int (f_X9_of X4 a1 10)]) (rest := []) (ci := 9) (q := (RX9, TX9, 15)) ⟨hx, hb, hml, hown, hts⟩ hK (c_X9_put l D cy μ X4 a1 10 (f_X9_of X4 a1 10) h_8) (cwV 3 hts gX9_boards_X9_put rfl rfl rfl (by decide +kernel) ⟨Nat.le_of_ble_eq_true rfl, Nat.le_of_ble_eq_true rfl⟩) (MR.mk0 hR) rfl hR rfl hl.1 rfl (Nat.le_of_ble_eq_true rfl) dX9_boards_74 (Nat.zero_le _) (Nat.zero_le _)) hS (fun _ h => h) (fun H locs hR _ _ hS => ?_)
    obtain ⟨X5, eX5⟩ : ∃ Y : gM, Y = p_X9_put X4 a1 10 (f_X9_of X4 a1 10) := ⟨_, rfl⟩
    rw [← eX5] at hR
    try replace hok := hok X5 eX5
    refine lv_aload_n hx hb dX9_boards_77 rfl (lv_at hl 1 rfl) ?_
    refine va_get (D := D) (ci := 9) (v := .ref (μ + 1)) (C := RX9) (T := TX9) (N := 15) hx hb hts inX9 hown hK.1 (MR.mk0 hR) 0 rfl rfl 0 (by decide) lk7 (fun _ h9 => h9) rfl dX9_boards_78 ?_
    refine lv_bipush (v := 26) hx hb dX9_boards_81 (by decide) ?_
    refine lv_bipush (v := 24) hx hb dX9_boards_83 (by decide) ?_
    refine lv_iload hx hb dX9_boards_85 (lv_at hl 0 rfl) ?_
    refine lv_imul hx hb dX9_boards_87 ?_
    refine lv_iadd hx hb dX9_boards_88 ?_
    refine lv_iload_n hx hb dX9_boards_89 rfl (lv_at hl 4 rfl) ?_
    refine lv_iadd hx hb dX9_boards_90 ?_
    refine lv_iload_n hx hb dX9_boards_91 rfl (lv_at hl 2 rfl) ?_
    obtain ⟨h_9, hok⟩ := hok
    refine gm_iast hx hb hK.1 hR injM hS (a := 1) (by decide) rfl (fun r => bM_1) h_9 dX9_boards_92 (fun H locs hR hS => ?_)
    obtain ⟨X6, eX6⟩ : ∃ Y : gM, Y = updM X5 1 (((26 + (24 * (a2 / 10))) + a3).toNatClampNeg) a1 := ⟨_, rfl⟩
    rw [← eX6] at hR
    try replace hok := hok X6 eX6
    refine lv_aload_n hx hb dX9_boards_93 rfl (lv_at hl 1 rfl) ?_
    refine va_get (D := D) (ci := 9) (v := .ref (μ + 1)) (C := RX9) (T := TX9) (N := 15) hx hb hts inX9 hown hK.1 (MR.mk0 hR) 0 rfl rfl 0 (by decide) lk7 (fun _ h9 => h9) rfl dX9_boards_94 ?_
    refine lv_iload_n hx hb dX9_boards_97 rfl (lv_at hl 3 rfl) ?_
    refine gm_ci (gm_callS (As := [.int a2]) (rest := [.ref (μ + 1)]) ⟨hx, hb, hml, hown, hts⟩ hK (c_X9_stationAt l D cy a2) (va_cwS 1 hts gX9_boards_X9_stationAt rfl rfl rfl (by decide +kernel) ⟨Nat.le_of_ble_eq_true rfl, Nat.le_of_ble_eq_true rfl⟩) trivial rfl hl.1 rfl (Nat.le_of_ble_eq_true rfl) dX9_boards_98 (Nat.zero_le _) (Nat.zero_le _)) hS (fun _ h => h.elim) (fun H locs _ _ hfr hS => ?_)
    have hR := gRep.keep hR hfr (fun _ _ h => h)
    refine lv_iconst (v := 1) hx hb dX9_boards_101 (by decide) ?_
    refine lv_iadd hx hb dX9_boards_102 ?_
    refine lv_dup2_11 hx hb dX9_boards_103 rfl rfl ?_
    obtain ⟨h_10, hok⟩ := hok
    refine gm_iald hx hb hK.1 (MR.mk1 hR (c := 1) (by decide) bM_1) h_10 dX9_boards_104 ?_
    refine lv_iconst (v := 1) hx hb dX9_boards_105 (by decide) ?_
    refine lv_iadd hx hb dX9_boards_106 ?_
    obtain ⟨h_11, hok⟩ := hok
    refine gm_iast hx hb hK.1 hR injM hS (a := 1) (by decide) rfl (fun r => bM_1) h_11 dX9_boards_107 (fun H locs hR hS => ?_)
    obtain ⟨X7, eX7⟩ : ∃ Y : gM, Y = updM X6 1 (((f_X9_stationAt a2) + 1).toNatClampNeg) ((X6 1 (((f_X9_stationAt a2) + 1).toNatClampNeg)) + 1) := ⟨_, rfl⟩
    rw [← eX7] at hR
    try replace hok := hok X7 eX7
    refine lv_aload_n hx hb dX9_boards_108 rfl (lv_at hl 1 rfl) ?_
    refine lv_iconst (v := 0) hx hb dX9_boards_109 (by decide) ?_
    refine lv_iload_n hx hb dX9_boards_110 rfl (lv_at hl 2 rfl) ?_
    refine lv_iload hx hb dX9_boards_111 (lv_at hl 0 rfl) ?_
    refine lv_iload_n hx hb dX9_boards_113 rfl (lv_at hl 3 rfl) ?_
    obtain ⟨h_12, hok⟩ := hok
    refine gm_cv (gm_call (As := [.int 0, .int a1, .int (a2 / 10), .int a2]) (rest := []) (ci := 9) (q := (RX9, TX9, 15)) ⟨hx, hb, hml, hown, hts⟩ hK (c_X9_logs l D cy μ X7 0 a1 (a2 / 10) a2 h_12) (cwV 4 hts gX9_boards_X9_logs rfl rfl rfl (by decide +kernel) ⟨Nat.le_of_ble_eq_true rfl, Nat.le_of_ble_eq_true rfl⟩) (MR.mk0 hR) rfl hR rfl hl.1 rfl (Nat.le_of_ble_eq_true rfl) dX9_boards_114 (Nat.zero_le _) (Nat.zero_le _)) hS (fun _ h => h) (fun H locs hR _ _ hS => ?_)
    obtain ⟨X8, eX8⟩ : ∃ Y : gM, Y = p_X9_logs X7 0 a1 (a2 / 10) a2 := ⟨_, rfl⟩
    rw [← eX8] at hR
    try replace hok := hok X8 eX8
    exact gm_vret hx hb hr hlocks hS (by (try simp only [p_X9_boards, ↓if_neg c_6, ← eX1, ← eX2, ← eX3, ← eX4, ← eX5, ← eX6, ← eX7, ← eX8]); exact hR) dX9_boards_117
  · try rw [if_pos c_6] at hok
    refine lv_aload_n hx hb dX9_boards_58 rfl (lv_at hl 1 rfl) ?_
    refine va_get (D := D) (ci := 9) (v := .ref (μ + 1)) (C := RX9) (T := TX9) (N := 15) hx hb hts inX9 hown hK.1 (MR.mk0 hR) 0 rfl rfl 0 (by decide) lk7 (fun _ h9 => h9) rfl dX9_boards_59 ?_
    refine lv_iconst (v := 0) hx hb dX9_boards_62 (by decide) ?_
    refine gm_iald hx hb hK.1 (MR.mk1 hR (c := 1) (by decide) bM_1) (vp_in_iff.mpr (by decide)) dX9_boards_63 ?_
    rw [show (0 : Int32).toNatClampNeg = 0 from by decide]
    refine lv_goto (tgt := 74) hx hb dX9_boards_64 (by decide) ?_
    obtain ⟨h_13, hok⟩ := hok
    refine gm_cv (gm_call (As := [.int a1, .int 10, .int (X4 1 0)]) (rest := []) (ci := 9) (q := (RX9, TX9, 15)) ⟨hx, hb, hml, hown, hts⟩ hK (c_X9_put l D cy μ X4 a1 10 (X4 1 0) h_13) (cwV 3 hts gX9_boards_X9_put rfl rfl rfl (by decide +kernel) ⟨Nat.le_of_ble_eq_true rfl, Nat.le_of_ble_eq_true rfl⟩) (MR.mk0 hR) rfl hR rfl hl.1 rfl (Nat.le_of_ble_eq_true rfl) dX9_boards_74 (Nat.zero_le _) (Nat.zero_le _)) hS (fun _ h => h) (fun H locs hR _ _ hS => ?_)
    obtain ⟨X9, eX9⟩ : ∃ Y : gM, Y = p_X9_put X4 a1 10 (X4 1 0) := ⟨_, rfl⟩
    rw [← eX9] at hR
    try replace hok := hok X9 eX9
    refine lv_aload_n hx hb dX9_boards_77 rfl (lv_at hl 1 rfl) ?_
    refine va_get (D := D) (ci := 9) (v := .ref (μ + 1)) (C := RX9) (T := TX9) (N := 15) hx hb hts inX9 hown hK.1 (MR.mk0 hR) 0 rfl rfl 0 (by decide) lk7 (fun _ h9 => h9) rfl dX9_boards_78 ?_
    refine lv_bipush (v := 26) hx hb dX9_boards_81 (by decide) ?_
    refine lv_bipush (v := 24) hx hb dX9_boards_83 (by decide) ?_
    refine lv_iload hx hb dX9_boards_85 (lv_at hl 0 rfl) ?_
    refine lv_imul hx hb dX9_boards_87 ?_
    refine lv_iadd hx hb dX9_boards_88 ?_
    refine lv_iload_n hx hb dX9_boards_89 rfl (lv_at hl 4 rfl) ?_
    refine lv_iadd hx hb dX9_boards_90 ?_
    refine lv_iload_n hx hb dX9_boards_91 rfl (lv_at hl 2 rfl) ?_
    obtain ⟨h_14, hok⟩ := hok
    refine gm_iast hx hb hK.1 hR injM hS (a := 1) (by decide) rfl (fun r => bM_1) h_14 dX9_boards_92 (fun H locs hR hS => ?_)
    obtain ⟨X10, eX10⟩ : ∃ Y : gM, Y = updM X9 1 (((26 + (24 * (a2 / 10))) + a3).toNatClampNeg) a1 := ⟨_, rfl⟩
    rw [← eX10] at hR
    try replace hok := hok X10 eX10
    refine lv_aload_n hx hb dX9_boards_93 rfl (lv_at hl 1 rfl) ?_
    refine va_get (D := D) (ci := 9) (v := .ref (μ + 1)) (C := RX9) (T := TX9) (N := 15) hx hb hts inX9 hown hK.1 (MR.mk0 hR) 0 rfl rfl 0 (by decide) lk7 (fun _ h9 => h9) rfl dX9_boards_94 ?_
    refine lv_iload_n hx hb dX9_boards_97 rfl (lv_at hl 3 rfl) ?_
    refine gm_ci (gm_callS (As := [.int a2]) (rest := [.ref (μ + 1)]) ⟨hx, hb, hml, hown, hts⟩ hK (c_X9_stationAt l D cy a2) (va_cwS 1 hts gX9_boards_X9_stationAt rfl rfl rfl (by decide +kernel) ⟨Nat.le_of_ble_eq_true rfl, Nat.le_of_ble_eq_true rfl⟩) trivial rfl hl.1 rfl (Nat.le_of_ble_eq_true rfl) dX9_boards_98 (Nat.zero_le _) (Nat.zero_le _)) hS (fun _ h => h.elim) (fun H locs _ _ hfr hS => ?_)
    have hR := gRep.keep hR hfr (fun _ _ h => h)
    refine lv_iconst (v := 1) hx hb dX9_boards_101 (by decide) ?_
    refine lv_iadd hx hb dX9_boards_102 ?_
    refine lv_dup2_11 hx hb dX9_boards_103 rfl rfl ?_
    obtain ⟨h_15, hok⟩ := hok
    refine gm_iald hx hb hK.1 (MR.mk1 hR (c := 1) (by decide) bM_1) h_15 dX9_boards_104 ?_
    refine lv_iconst (v := 1) hx hb dX9_boards_105 (by decide) ?_
    refine lv_iadd hx hb dX9_boards_106 ?_
    obtain ⟨h_16, hok⟩ := hok
    refine gm_iast hx hb hK.1 hR injM hS (a := 1) (by decide) rfl (fun r => bM_1) h_16 dX9_boards_107 (fun H locs hR hS => ?_)
    obtain ⟨X11, eX11⟩ : ∃ Y : gM, Y = updM X10 1 (((f_X9_stationAt a2) + 1).toNatClampNeg) ((X10 1 (((f_X9_stationAt a2) + 1).toNatClampNeg)) + 1) := ⟨_, rfl⟩
    rw [← eX11] at hR
    try replace hok := hok X11 eX11
    refine lv_aload_n hx hb dX9_boards_108 rfl (lv_at hl 1 rfl) ?_
    refine lv_iconst (v := 0) hx hb dX9_boards_109 (by decide) ?_
    refine lv_iload_n hx hb dX9_boards_110 rfl (lv_at hl 2 rfl) ?_
    refine lv_iload hx hb dX9_boards_111 (lv_at hl 0 rfl) ?_
    refine lv_iload_n hx hb dX9_boards_113 rfl (lv_at hl 3 rfl) ?_
    obtain ⟨h_17, hok⟩ := hok
    refine gm_cv (gm_call (As := [.int 0, .int a1, .int (a2 / 10), .int a2]) (rest := []) (ci := 9) (q := (RX9, TX9, 15)) ⟨hx, hb, hml, hown, hts⟩ hK (c_X9_logs l D cy μ X11 0 a1 (a2 / 10) a2 h_17) (cwV 4 hts gX9_boards_X9_logs rfl rfl rfl (by decide +kernel) ⟨Nat.le_of_ble_eq_true rfl, Nat.le_of_ble_eq_true rfl⟩) (MR.mk0 hR) rfl hR rfl hl.1 rfl (Nat.le_of_ble_eq_true rfl) dX9_boards_114 (Nat.zero_le _) (Nat.zero_le _)) hS (fun _ h => h) (fun H locs hR _ _ hS => ?_)
    obtain ⟨X12, eX12⟩ : ∃ Y : gM, Y = p_X9_logs X11 0 a1 (a2 / 10) a2 := ⟨_, rfl⟩
    rw [← eX12] at hR
    try replace hok := hok X12 eX12
    exact gm_vret hx hb hr hlocks hS (by (try simp only [p_X9_boards, ↓if_pos c_6, ← eX1, ← eX2, ← eX3, ← eX4, ← eX9, ← eX10, ← eX11, ← eX12]); exact hR) dX9_boards_117
def f_X9_cost (X : gM) (a1 : Int32) (a2 : Int32) : Int32 :=
  if a1 = 3 then
    ((a1 * a2) * (X 1 6)) + 25
  else
    ((a1 * a2) * (X 1 6)) + 0
set_option maxHeartbeats 4000000 in
set_option maxRecDepth 100000 in
theorem c_X9_cost (l : Launch) (D : va_G) (cy : Nat → ClassId) (μ : Nat) (X : gM) (a1 : Int32) (a2 : Int32)  : Met l yX9_cost wsX9_cost ({ frames := 0, cells := 0, slots := 0, locals := 0 }) (gP [.ref μ, .int a1, .int a2] D cy (MR D cy μ X)) (gQi (f_X9_cost X a1 a2) (fun _ => True) gNo) 0 0 gNo := by
  refine gm_met (cc := cX9_cost) (maxL := 3) (ret := (some .int)) [.ref μ, .int a1, .int a2] (by decide) rfl (Nat.le_of_ble_eq_true rfl) ?_
  intro p e s m args below meth c0 ls C hR hl
  obtain ⟨hx, hb, hr, hts, hown, hlocks, hml, hK⟩ := C
  have hl : lv_has ls 3 [(0, .ref μ), (1, .int a1), (2, .int a2)] := hl
  have hS : va_S gNo s.heap s.heap [] := va_S.rf
  have lk7 := hts (.fieldLink RX9 7 "MercuryLineModel" "s" "[I") (by decide +kernel)
  have inX9 : ∀ w ∈ u_ws RX9 TX9 15, w ∈ wsX9_cost := by decide +kernel
  have hok : True := trivial
  refine lv_iload_n hx hb dX9_cost_0 rfl (lv_at hl 1 rfl) ?_
  refine lv_iload_n hx hb dX9_cost_1 rfl (lv_at hl 2 rfl) ?_
  refine lv_imul hx hb dX9_cost_2 ?_
  refine lv_aload_n hx hb dX9_cost_3 rfl (lv_at hl 0 rfl) ?_
  refine va_get (D := D) (ci := 9) (v := .ref (μ + 1)) (C := RX9) (T := TX9) (N := 15) hx hb hts inX9 hown hK.1 (MR.mk0 hR) 0 rfl rfl 0 (by decide) lk7 (fun _ h9 => h9) rfl dX9_cost_4 ?_
  refine lv_bipush (v := 6) hx hb dX9_cost_7 (by decide) ?_
  refine gm_iald hx hb hK.1 (MR.mk1 hR (c := 1) (by decide) bM_1) (vp_in_iff.mpr (by decide)) dX9_cost_9 ?_
  rw [show (6 : Int32).toNatClampNeg = 6 from by decide]
  refine lv_imul hx hb dX9_cost_10 ?_
  refine lv_iload_n hx hb dX9_cost_11 rfl (lv_at hl 1 rfl) ?_
  refine lv_iconst (v := 3) hx hb dX9_cost_12 (by decide) ?_
  refine lv_icmp_ne (tgt := 21) hx hb dX9_cost_13 (by decide) (fun c_1 => ?_) (fun c_1 => ?_)
  · try rw [if_neg c_1] at hok
    refine lv_iconst (v := 0) hx hb dX9_cost_21 (by decide) ?_
    refine lv_iadd hx hb dX9_cost_22 ?_
    exact gm_iret hx hb hr hlocks hS (by (try simp only [f_X9_cost, ↓if_neg c_1]); (try rfl)) trivial dX9_cost_23
  · try rw [if_pos c_1] at hok
    refine lv_bipush (v := 25) hx hb dX9_cost_16 (by decide) ?_
    refine lv_goto (tgt := 22) hx hb dX9_cost_18 (by decide) ?_
    refine lv_iadd hx hb dX9_cost_22 ?_
    exact gm_iret hx hb hr hlocks hS (by (try simp only [f_X9_cost, ↓if_pos c_1]); (try rfl)) trivial dX9_cost_23
def lf_X9_comes_21 (a1 : Int32) (a2 : Int32) (a3 : Int32) (a4 : Int32) (a5 : Int32) (y_6 : Int32) (K : (gM) → (Nat) → (Int32 × gM)) : Nat → (gM) → (Nat) → (Int32 × gM)
  | 0, Z, k_7 => K Z k_7
  | n + 1, Z, k_7 =>
    if 17 ≤ nI k_7 then
      K Z k_7
    else
      let X1 := p_X9_put Z y_6 (nI k_7) (-5)
      lf_X9_comes_21 a1 a2 a3 a4 a5 y_6 K n X1 (k_7 + 1)
def lok_X9_comes_21 (a1 : Int32) (a2 : Int32) (a3 : Int32) (a4 : Int32) (a5 : Int32) (y_6 : Int32) (KO : (gM) → (Nat) → Prop) : Nat → (gM) → (Nat) → Prop
  | 0, Z, k_7 => True
  | n + 1, Z, k_7 =>
    (if 17 ≤ nI k_7 then
      KO Z k_7
    else
      (ok_X9_put Z y_6 (nI k_7) (-5)) ∧
      ∀ X1 : gM, X1 = p_X9_put Z y_6 (nI k_7) (-5) →
      lok_X9_comes_21 a1 a2 a3 a4 a5 y_6 KO n X1 (k_7 + 1))
def p_X9_comes (X : gM) (a1 : Int32) (a2 : Int32) (a3 : Int32) (a4 : Int32) (a5 : Int32) : Int32 × gM :=
  let X1 := updM X 1 1 ((X 1 1) + 1)
  lf_X9_comes_21 a1 a2 a3 a4 a5 (X 1 1) (fun X2 k_7w1 =>
        let X3 := p_X9_put X2 (X 1 1) 0 a1
        let X4 := p_X9_put X3 (X 1 1) 1 a2
        let X5 := p_X9_put X4 (X 1 1) 2 a3
        let X6 := p_X9_put X5 (X 1 1) 3 a4
        let X7 := p_X9_put X6 (X 1 1) 4 a5
        let X8 := p_X9_put X7 (X 1 1) 5 (f_X9_cost X7 a2 a5)
        let X9 := p_X9_put X8 (X 1 1) 6 0
        let X10 := p_X9_put X9 (X 1 1) 9 (X9 1 0)
        let X11 := p_X9_put X10 (X 1 1) 14 a5
        let X12 := p_X9_put X11 (X 1 1) 15 (X11 1 0)
        let X13 := updM X12 1 3 ((X12 1 3) + (f_X9_of X12 (X 1 1) 5))
        (X 1 1, X13)) 2147483648 X1 0
def ok_X9_comes (X : gM) (a1 : Int32) (a2 : Int32) (a3 : Int32) (a4 : Int32) (a5 : Int32) : Prop :=
  ∀ X1 : gM, X1 = updM X 1 1 ((X 1 1) + 1) →
  lok_X9_comes_21 a1 a2 a3 a4 a5 (X 1 1) (fun X2 k_7w1 =>
        (ok_X9_put X2 (X 1 1) 0 a1) ∧
        ∀ X3 : gM, X3 = p_X9_put X2 (X 1 1) 0 a1 →
        (ok_X9_put X3 (X 1 1) 1 a2) ∧
        ∀ X4 : gM, X4 = p_X9_put X3 (X 1 1) 1 a2 →
        (ok_X9_put X4 (X 1 1) 2 a3) ∧
        ∀ X5 : gM, X5 = p_X9_put X4 (X 1 1) 2 a3 →
        (ok_X9_put X5 (X 1 1) 3 a4) ∧
        ∀ X6 : gM, X6 = p_X9_put X5 (X 1 1) 3 a4 →
        (ok_X9_put X6 (X 1 1) 4 a5) ∧
        ∀ X7 : gM, X7 = p_X9_put X6 (X 1 1) 4 a5 →
        (ok_X9_put X7 (X 1 1) 5 (f_X9_cost X7 a2 a5)) ∧
        ∀ X8 : gM, X8 = p_X9_put X7 (X 1 1) 5 (f_X9_cost X7 a2 a5) →
        (ok_X9_put X8 (X 1 1) 6 0) ∧
        ∀ X9 : gM, X9 = p_X9_put X8 (X 1 1) 6 0 →
        (ok_X9_put X9 (X 1 1) 9 (X9 1 0)) ∧
        ∀ X10 : gM, X10 = p_X9_put X9 (X 1 1) 9 (X9 1 0) →
        (ok_X9_put X10 (X 1 1) 14 a5) ∧
        ∀ X11 : gM, X11 = p_X9_put X10 (X 1 1) 14 a5 →
        (ok_X9_put X11 (X 1 1) 15 (X11 1 0)) ∧
        ∀ X12 : gM, X12 = p_X9_put X11 (X 1 1) 15 (X11 1 0) →
        (ok_X9_of X12 (X 1 1) 5) ∧
        True) 2147483648 X1 0
set_option maxHeartbeats 4000000 in
set_option maxRecDepth 100000 in
theorem lp_X9_comes_21 {p : Program} {l : Launch} {e : Env} {s : State} {m : MethodId} {args : Array Value} {below : List Frame} {meth : Method} {c0 : Code} {D : va_G} {cy : Nat → ClassId} (C : gCtx cX9_comes 8 (some .int) RX9 wsX9_comes D cy p s m args meth c0) (μ : Nat) (a1 : Int32) (a2 : Int32) (a3 : Int32) (a4 : Int32) (a5 : Int32) (y_6 : Int32) 
    (KO : (gM) → (Nat) → Prop) (K : (gM) → (Nat) → (Int32 × gM)) (hexit : ∀ (Z : gM) (k_7 : Nat), k_7 ≤ 2147483647 → KO Z k_7 → ∀ (H : Heap) (locs : List Loc) (ls : Array Slot), MR D cy μ Z H → va_S (MA μ) s.heap H locs → lv_has ls 8 [(0, .ref μ), (1, .int a1), (2, .int a2), (3, .int a3), (4, .int a4), (5, .int a5), (6, .int y_6), (7, .int (nI k_7))] → W p l e { frames := 1, cells := 0, slots := 0, locals := 23 } s m args below meth c0 H locs 0 0 (MQ below (gQi (K Z k_7).1 (MR D cy μ (K Z k_7).2) (MA μ)) args s 0 0 (MA μ)) (F0 m 44 ls [])) :
    ∀ (n : Nat) (Z : gM) (k_7 : Nat), k_7 ≤ 2147483647 → lok_X9_comes_21 a1 a2 a3 a4 a5 y_6 KO n Z k_7 → 2147483647 < k_7 + n → ∀ (H : Heap) (locs : List Loc) (ls : Array Slot), MR D cy μ Z H → va_S (MA μ) s.heap H locs → lv_has ls 8 [(0, .ref μ), (1, .int a1), (2, .int a2), (3, .int a3), (4, .int a4), (5, .int a5), (6, .int y_6), (7, .int (nI k_7))] → W p l e { frames := 1, cells := 0, slots := 0, locals := 23 } s m args below meth c0 H locs 0 0 (MQ below (gQi (lf_X9_comes_21 a1 a2 a3 a4 a5 y_6 K n Z k_7).1 (MR D cy μ (lf_X9_comes_21 a1 a2 a3 a4 a5 y_6 K n Z k_7).2) (MA μ)) args s 0 0 (MA μ)) (F0 m 21 ls []) := by
  obtain ⟨hx, hb, hr, hts, hown, hlocks, hml, hK⟩ := C
  intro n
  induction n with
  | zero =>
    intro Z k_7 hb_7 hok hme
    exact absurd hme (by omega)
  | succ n ih =>
    intro Z k_7 hb_7 hok hme H locs ls hR hS hl
    unfold lok_X9_comes_21 at hok
    refine lv_iload hx hb dX9_comes_21 (lv_at hl 7 rfl) ?_
    refine lv_bipush (v := 17) hx hb dX9_comes_23 (by decide) ?_
    refine lv_icmp_ge (tgt := 44) hx hb dX9_comes_25 (by decide) (fun c_1 => ?_) (fun c_1 => ?_)
    · try rw [if_pos c_1] at hok
      have ge_2 : 17 ≤ k_7 := g_ge2 (Nat.lt_of_le_of_lt hb_7 (by decide)) (by decide) c_1
      refine gm_q (Q2 := MQ below (gQi (K Z k_7).1 (MR D cy μ (K Z k_7).2) (MA μ)) args s 0 0 (MA μ)) (by simp only [lf_X9_comes_21, ↓if_pos c_1]) ?_
      exact hexit Z k_7 hb_7 hok _ _ _ hR hS (lv_sub hl [0, 1, 2, 3, 4, 5, 6, 7] rfl)
    · try rw [if_neg c_1] at hok
      have lt_3 : k_7 < 17 := g_lt (Nat.lt_of_le_of_lt hb_7 (by decide)) (by decide) c_1
      refine lv_aload_n hx hb dX9_comes_28 rfl (lv_at hl 0 rfl) ?_
      refine lv_iload hx hb dX9_comes_29 (lv_at hl 6 rfl) ?_
      refine lv_iload hx hb dX9_comes_31 (lv_at hl 7 rfl) ?_
      refine lv_bipush (v := (-5)) hx hb dX9_comes_33 (by decide) ?_
      obtain ⟨h_4, hok⟩ := hok
      refine gm_cv (gm_call (As := [.int y_6, .int (nI k_7), .int (-5)]) (rest := []) (ci := 9) (q := (RX9, TX9, 15)) ⟨hx, hb, hml, hown, hts⟩ hK (c_X9_put l D cy μ Z y_6 (nI k_7) (-5) h_4) (cwV 3 hts gX9_comes_X9_put rfl rfl rfl (by decide +kernel) ⟨Nat.le_of_ble_eq_true rfl, Nat.le_of_ble_eq_true rfl⟩) (MR.mk0 hR) rfl hR rfl hl.1 rfl (Nat.le_of_ble_eq_true rfl) dX9_comes_35 (Nat.zero_le _) (Nat.zero_le _)) hS (fun _ h => h) (fun H locs hR _ _ hS => ?_)
      obtain ⟨X1, eX1⟩ : ∃ Y : gM, Y = p_X9_put Z y_6 (nI k_7) (-5) := ⟨_, rfl⟩
      rw [← eX1] at hR
      try replace hok := hok X1 eX1
      refine lv_iinc (v := nI (k_7 + 1)) (lv' := [(7, .int (nI (k_7 + 1))), (0, .ref μ), (1, .int a1), (2, .int a2), (3, .int a3), (4, .int a4), (5, .int a5), (6, .int y_6)]) hx hb dX9_comes_38 hl (k := 7) rfl (nI_1 _) (by decide) rfl (fun ls hl => ?_)
      refine lv_goto (tgt := 21) hx hb dX9_comes_41 (by decide) ?_
      refine gm_q (Q2 := MQ below (gQi (lf_X9_comes_21 a1 a2 a3 a4 a5 y_6 K n X1 (k_7 + 1)).1 (MR D cy μ (lf_X9_comes_21 a1 a2 a3 a4 a5 y_6 K n X1 (k_7 + 1)).2) (MA μ)) args s 0 0 (MA μ)) (by simp only [lf_X9_comes_21, ↓if_neg c_1, ← eX1]) ?_
      exact ih X1 (k_7 + 1) (Nat.lt_of_lt_of_le lt_3 (by decide)) hok (by omega) _ _ _ hR hS (lv_sub hl [1, 2, 3, 4, 5, 6, 7, 0] rfl)
set_option maxHeartbeats 4000000 in
set_option maxRecDepth 100000 in
theorem c_X9_comes (l : Launch) (D : va_G) (cy : Nat → ClassId) (μ : Nat) (X : gM) (a1 : Int32) (a2 : Int32) (a3 : Int32) (a4 : Int32) (a5 : Int32)  (hok : ok_X9_comes X a1 a2 a3 a4 a5) : Met l yX9_comes wsX9_comes ({ frames := 1, cells := 0, slots := 0, locals := 23 }) (gP [.ref μ, .int a1, .int a2, .int a3, .int a4, .int a5] D cy (MR D cy μ X)) (gQi (p_X9_comes X a1 a2 a3 a4 a5).1 (MR D cy μ (p_X9_comes X a1 a2 a3 a4 a5).2) (MA μ)) 0 0 (MA μ) := by
  refine gm_met (cc := cX9_comes) (maxL := 8) (ret := (some .int)) [.ref μ, .int a1, .int a2, .int a3, .int a4, .int a5] (by decide) rfl (Nat.le_of_ble_eq_true rfl) ?_
  intro p e s m args below meth c0 ls C hR hl
  obtain ⟨hx, hb, hr, hts, hown, hlocks, hml, hK⟩ := C
  have hl : lv_has ls 8 [(0, .ref μ), (1, .int a1), (2, .int a2), (3, .int a3), (4, .int a4), (5, .int a5)] := hl
  have hS : va_S (MA μ) s.heap s.heap [] := va_S.rf
  have lk7 := hts (.fieldLink RX9 7 "MercuryLineModel" "s" "[I") (by decide +kernel)
  have inX9 : ∀ w ∈ u_ws RX9 TX9 15, w ∈ wsX9_comes := by decide +kernel
  unfold ok_X9_comes at hok
  refine lv_aload_n hx hb dX9_comes_0 rfl (lv_at hl 0 rfl) ?_
  refine va_get (D := D) (ci := 9) (v := .ref (μ + 1)) (C := RX9) (T := TX9) (N := 15) hx hb hts inX9 hown hK.1 (MR.mk0 hR) 0 rfl rfl 0 (by decide) lk7 (fun _ h9 => h9) rfl dX9_comes_1 ?_
  refine lv_iconst (v := 1) hx hb dX9_comes_4 (by decide) ?_
  refine gm_iald hx hb hK.1 (MR.mk1 hR (c := 1) (by decide) bM_1) (vp_in_iff.mpr (by decide)) dX9_comes_5 ?_
  rw [show (1 : Int32).toNatClampNeg = 1 from by decide]
  refine lv_istore (lv' := [(6, .int (X 1 1)), (0, .ref μ), (1, .int a1), (2, .int a2), (3, .int a3), (4, .int a4), (5, .int a5)]) hx hb dX9_comes_6 hl (by decide) rfl (fun ls hl => ?_)
  refine lv_aload_n hx hb dX9_comes_8 rfl (lv_at hl 1 rfl) ?_
  refine va_get (D := D) (ci := 9) (v := .ref (μ + 1)) (C := RX9) (T := TX9) (N := 15) hx hb hts inX9 hown hK.1 (MR.mk0 hR) 0 rfl rfl 0 (by decide) lk7 (fun _ h9 => h9) rfl dX9_comes_9 ?_
  refine lv_iconst (v := 1) hx hb dX9_comes_12 (by decide) ?_
  refine lv_dup2_11 hx hb dX9_comes_13 rfl rfl ?_
  refine gm_iald hx hb hK.1 (MR.mk1 hR (c := 1) (by decide) bM_1) (vp_in_iff.mpr (by decide)) dX9_comes_14 ?_
  rw [show (1 : Int32).toNatClampNeg = 1 from by decide]
  refine lv_iconst (v := 1) hx hb dX9_comes_15 (by decide) ?_
  refine lv_iadd hx hb dX9_comes_16 ?_
  refine gm_iast hx hb hK.1 hR injM hS (a := 1) (by decide) rfl (fun r => bM_1) (vp_in_iff.mpr (by decide)) dX9_comes_17 (fun H locs hR hS => ?_)
  rw [show (1 : Int32).toNatClampNeg = 1 from by decide] at hR
  obtain ⟨X1, eX1⟩ : ∃ Y : gM, Y = updM X 1 1 ((X 1 1) + 1) := ⟨_, rfl⟩
  rw [← eX1] at hR
  try replace hok := hok X1 eX1
  refine lv_iconst (v := 0) hx hb dX9_comes_18 (by decide) ?_
  refine lv_istore (lv' := [(7, .int 0), (6, .int (X 1 1)), (0, .ref μ), (1, .int a1), (2, .int a2), (3, .int a3), (4, .int a4), (5, .int a5)]) hx hb dX9_comes_19 hl (by decide) rfl (fun ls hl => ?_)
  refine gm_q (Q2 := MQ below (gQi (lf_X9_comes_21 a1 a2 a3 a4 a5 (X 1 1) (fun X2 k_7w1 =>
        let X3 := p_X9_put X2 (X 1 1) 0 a1
        let X4 := p_X9_put X3 (X 1 1) 1 a2
        let X5 := p_X9_put X4 (X 1 1) 2 a3
        let X6 := p_X9_put X5 (X 1 1) 3 a4
        let X7 := p_X9_put X6 (X 1 1) 4 a5
        let X8 := p_X9_put X7 (X 1 1) 5 (f_X9_cost X7 a2 a5)
        let X9 := p_X9_put X8 (X 1 1) 6 0
        let X10 := p_X9_put X9 (X 1 1) 9 (X9 1 0)
        let X11 := p_X9_put X10 (X 1 1) 14 a5
        let X12 := p_X9_put X11 (X 1 1) 15 (X11 1 0)
        let X13 := updM X12 1 3 ((X12 1 3) + (f_X9_of X12 (X 1 1) 5))
        (X 1 1, X13)) 2147483648 X1 0).1 (MR D cy μ (lf_X9_comes_21 a1 a2 a3 a4 a5 (X 1 1) (fun X2 k_7w1 =>
        let X3 := p_X9_put X2 (X 1 1) 0 a1
        let X4 := p_X9_put X3 (X 1 1) 1 a2
        let X5 := p_X9_put X4 (X 1 1) 2 a3
        let X6 := p_X9_put X5 (X 1 1) 3 a4
        let X7 := p_X9_put X6 (X 1 1) 4 a5
        let X8 := p_X9_put X7 (X 1 1) 5 (f_X9_cost X7 a2 a5)
        let X9 := p_X9_put X8 (X 1 1) 6 0
        let X10 := p_X9_put X9 (X 1 1) 9 (X9 1 0)
        let X11 := p_X9_put X10 (X 1 1) 14 a5
        let X12 := p_X9_put X11 (X 1 1) 15 (X11 1 0)
        let X13 := updM X12 1 3 ((X12 1 3) + (f_X9_of X12 (X 1 1) 5))
        (X 1 1, X13)) 2147483648 X1 0).2) (MA μ)) args s 0 0 (MA μ)) (by simp only [p_X9_comes, ← eX1]) ?_
  refine lp_X9_comes_21 ⟨hx, hb, hr, hts, hown, hlocks, hml, hK⟩ μ a1 a2 a3 a4 a5 (X 1 1)  _ _ (fun X2 k_7w1 hbk_7w1 hok H locs ls hR hS hl => ?_) 2147483648 X1 0 (by decide) hok (by omega) _ _ _ hR hS (lv_sub hl [2, 3, 4, 5, 6, 7, 1, 0] rfl)
  refine lv_aload_n hx hb dX9_comes_44 rfl (lv_at hl 0 rfl) ?_
  refine lv_iload hx hb dX9_comes_45 (lv_at hl 6 rfl) ?_
  refine lv_iconst (v := 0) hx hb dX9_comes_47 (by decide) ?_
  refine lv_iload_n hx hb dX9_comes_48 rfl (lv_at hl 1 rfl) ?_
  obtain ⟨h_2, hok⟩ := hok
  refine gm_cv (gm_call (As := [.int (X 1 1), .int 0, .int a1]) (rest := []) (ci := 9) (q := (RX9, TX9, 15)) ⟨hx, hb, hml, hown, hts⟩ hK (c_X9_put l D cy μ X2 (X 1 1) 0 a1 h_2) (cwV 3 hts gX9_comes_X9_put rfl rfl rfl (by decide +kernel) ⟨Nat.le_of_ble_eq_true rfl, Nat.le_of_ble_eq_true rfl⟩) (MR.mk0 hR) rfl hR rfl hl.1 rfl (Nat.le_of_ble_eq_true rfl) dX9_comes_49 (Nat.zero_le _) (Nat.zero_le _)) hS (fun _ h => h) (fun H locs hR _ _ hS => ?_)
  obtain ⟨X3, eX3⟩ : ∃ Y : gM, Y = p_X9_put X2 (X 1 1) 0 a1 := ⟨_, rfl⟩
  rw [← eX3] at hR
  try replace hok := hok X3 eX3
  refine lv_aload_n hx hb dX9_comes_52 rfl (lv_at hl 0 rfl) ?_
  refine lv_iload hx hb dX9_comes_53 (lv_at hl 6 rfl) ?_
  refine lv_iconst (v := 1) hx hb dX9_comes_55 (by decide) ?_
  refine lv_iload_n hx hb dX9_comes_56 rfl (lv_at hl 2 rfl) ?_
  obtain ⟨h_3, hok⟩ := hok
  refine gm_cv (gm_call (As := [.int (X 1 1), .int 1, .int a2]) (rest := []) (ci := 9) (q := (RX9, TX9, 15)) ⟨hx, hb, hml, hown, hts⟩ hK (c_X9_put l D cy μ X3 (X 1 1) 1 a2 h_3) (cwV 3 hts gX9_comes_X9_put rfl rfl rfl (by decide +kernel) ⟨Nat.le_of_ble_eq_true rfl, Nat.le_of_ble_eq_true rfl⟩) (MR.mk0 hR) rfl hR rfl hl.1 rfl (Nat.le_of_ble_eq_true rfl) dX9_comes_57 (Nat.zero_le _) (Nat.zero_le _)) hS (fun _ h => h) (fun H locs hR _ _ hS => ?_)
  obtain ⟨X4, eX4⟩ : ∃ Y : gM, Y = p_X9_put X3 (X 1 1) 1 a2 := ⟨_, rfl⟩
  rw [← eX4] at hR
  try replace hok := hok X4 eX4
  refine lv_aload_n hx hb dX9_comes_60 rfl (lv_at hl 0 rfl) ?_
  refine lv_iload hx hb dX9_comes_61 (lv_at hl 6 rfl) ?_
  refine lv_iconst (v := 2) hx hb dX9_comes_63 (by decide) ?_
  refine lv_iload_n hx hb dX9_comes_64 rfl (lv_at hl 3 rfl) ?_
  obtain ⟨h_4, hok⟩ := hok
  refine gm_cv (gm_call (As := [.int (X 1 1), .int 2, .int a3]) (rest := []) (ci := 9) (q := (RX9, TX9, 15)) ⟨hx, hb, hml, hown, hts⟩ hK (c_X9_put l D cy μ X4 (X 1 1) 2 a3 h_4) (cwV 3 hts gX9_comes_X9_put rfl rfl rfl (by decide +kernel) ⟨Nat.le_of_ble_eq_true rfl, Nat.le_of_ble_eq_true rfl⟩) (MR.mk0 hR) rfl hR rfl hl.1 rfl (Nat.le_of_ble_eq_true rfl) dX9_comes_65 (Nat.zero_le _) (Nat.zero_le _)) hS (fun _ h => h) (fun H locs hR _ _ hS => ?_)
  obtain ⟨X5, eX5⟩ : ∃ Y : gM, Y = p_X9_put X4 (X 1 1) 2 a3 := ⟨_, rfl⟩
  rw [← eX5] at hR
  try replace hok := hok X5 eX5
  refine lv_aload_n hx hb dX9_comes_68 rfl (lv_at hl 0 rfl) ?_
  refine lv_iload hx hb dX9_comes_69 (lv_at hl 6 rfl) ?_
  refine lv_iconst (v := 3) hx hb dX9_comes_71 (by decide) ?_
  refine lv_iload hx hb dX9_comes_72 (lv_at hl 4 rfl) ?_
  obtain ⟨h_5, hok⟩ := hok
  refine gm_cv (gm_call (As := [.int (X 1 1), .int 3, .int a4]) (rest := []) (ci := 9) (q := (RX9, TX9, 15)) ⟨hx, hb, hml, hown, hts⟩ hK (c_X9_put l D cy μ X5 (X 1 1) 3 a4 h_5) (cwV 3 hts gX9_comes_X9_put rfl rfl rfl (by decide +kernel) ⟨Nat.le_of_ble_eq_true rfl, Nat.le_of_ble_eq_true rfl⟩) (MR.mk0 hR) rfl hR rfl hl.1 rfl (Nat.le_of_ble_eq_true rfl) dX9_comes_74 (Nat.zero_le _) (Nat.zero_le _)) hS (fun _ h => h) (fun H locs hR _ _ hS => ?_)
  obtain ⟨X6, eX6⟩ : ∃ Y : gM, Y = p_X9_put X5 (X 1 1) 3 a4 := ⟨_, rfl⟩
  rw [← eX6] at hR
  try replace hok := hok X6 eX6
  refine lv_aload_n hx hb dX9_comes_77 rfl (lv_at hl 0 rfl) ?_
  refine lv_iload hx hb dX9_comes_78 (lv_at hl 6 rfl) ?_
  refine lv_iconst (v := 4) hx hb dX9_comes_80 (by decide) ?_
  refine lv_iload hx hb dX9_comes_81 (lv_at hl 5 rfl) ?_
  obtain ⟨h_6, hok⟩ := hok
  refine gm_cv (gm_call (As := [.int (X 1 1), .int 4, .int a5]) (rest := []) (ci := 9) (q := (RX9, TX9, 15)) ⟨hx, hb, hml, hown, hts⟩ hK (c_X9_put l D cy μ X6 (X 1 1) 4 a5 h_6) (cwV 3 hts gX9_comes_X9_put rfl rfl rfl (by decide +kernel) ⟨Nat.le_of_ble_eq_true rfl, Nat.le_of_ble_eq_true rfl⟩) (MR.mk0 hR) rfl hR rfl hl.1 rfl (Nat.le_of_ble_eq_true rfl) dX9_comes_83 (Nat.zero_le _) (Nat.zero_le _)) hS (fun _ h => h) (fun H locs hR _ _ hS => ?_)
  obtain ⟨X7, eX7⟩ : ∃ Y : gM, Y = p_X9_put X6 (X 1 1) 4 a5 := ⟨_, rfl⟩
  rw [← eX7] at hR
  try replace hok := hok X7 eX7
  refine lv_aload_n hx hb dX9_comes_86 rfl (lv_at hl 0 rfl) ?_
  refine lv_iload hx hb dX9_comes_87 (lv_at hl 6 rfl) ?_
  refine lv_iconst (v := 5) hx hb dX9_comes_89 (by decide) ?_
  refine lv_aload_n hx hb dX9_comes_90 rfl (lv_at hl 0 rfl) ?_
  refine lv_iload_n hx hb dX9_comes_91 rfl (lv_at hl 2 rfl) ?_
  refine lv_iload hx hb dX9_comes_92 (lv_at hl 5 rfl) ?_
  refine gm_ci (gm_call (As := [.int a2, .int a5]) (rest := [.int 5, .int (X 1 1), .ref μ]) (ci := 9) (q := (RX9, TX9, 15)) ⟨hx, hb, hml, hown, hts⟩ hK (c_X9_cost l D cy μ X7 a2 a5) (cwV 2 hts gX9_comes_X9_cost rfl rfl rfl (by decide +kernel) ⟨Nat.le_of_ble_eq_true rfl, Nat.le_of_ble_eq_true rfl⟩) (MR.mk0 hR) rfl hR rfl hl.1 rfl (Nat.le_of_ble_eq_true rfl) dX9_comes_94 (Nat.zero_le _) (Nat.zero_le _)) hS (fun _ h => h.elim) (fun H locs _ _ hfr hS => ?_)
  have hR := gRep.keep hR hfr (fun _ _ h => h)
  obtain ⟨h_7, hok⟩ := hok
  refine gm_cv (gm_call (As := [.int (X 1 1), .int 5, .int (f_X9_cost X7 a2 a5)]) (rest := []) (ci := 9) (q := (RX9, TX9, 15)) ⟨hx, hb, hml, hown, hts⟩ hK (c_X9_put l D cy μ X7 (X 1 1) 5 (f_X9_cost X7 a2 a5) h_7) (cwV 3 hts gX9_comes_X9_put rfl rfl rfl (by decide +kernel) ⟨Nat.le_of_ble_eq_true rfl, Nat.le_of_ble_eq_true rfl⟩) (MR.mk0 hR) rfl hR rfl hl.1 rfl (Nat.le_of_ble_eq_true rfl) dX9_comes_97 (Nat.zero_le _) (Nat.zero_le _)) hS (fun _ h => h) (fun H locs hR _ _ hS => ?_)
  obtain ⟨X8, eX8⟩ : ∃ Y : gM, Y = p_X9_put X7 (X 1 1) 5 (f_X9_cost X7 a2 a5) := ⟨_, rfl⟩
  rw [← eX8] at hR
  try replace hok := hok X8 eX8
  refine lv_aload_n hx hb dX9_comes_100 rfl (lv_at hl 0 rfl) ?_
  refine lv_iload hx hb dX9_comes_101 (lv_at hl 6 rfl) ?_
  refine lv_bipush (v := 6) hx hb dX9_comes_103 (by decide) ?_
  refine lv_iconst (v := 0) hx hb dX9_comes_105 (by decide) ?_
  obtain ⟨h_8, hok⟩ := hok
  refine gm_cv (gm_call (As := [.int (X 1 1), .int 6, .int 0]) (rest := []) (ci := 9) (q := (RX9, TX9, 15)) ⟨hx, hb, hml, hown, hts⟩ hK (c_X9_put l D cy μ X8 (X 1 1) 6 0 h_8) (cwV 3 hts gX9_comes_X9_put rfl rfl rfl (by decide +kernel) ⟨Nat.le_of_ble_eq_true rfl, Nat.le_of_ble_eq_true rfl⟩) (MR.mk0 hR) rfl hR rfl hl.1 rfl (Nat.le_of_ble_eq_true rfl) dX9_comes_106 (Nat.zero_le _) (Nat.zero_le _)) hS (fun _ h => h) (fun H locs hR _ _ hS => ?_)
  obtain ⟨X9, eX9⟩ : ∃ Y : gM, Y = p_X9_put X8 (X 1 1) 6 0 := ⟨_, rfl⟩
  rw [← eX9] at hR
  try replace hok := hok X9 eX9
  refine lv_aload_n hx hb dX9_comes_109 rfl (lv_at hl 0 rfl) ?_
  refine lv_iload hx hb dX9_comes_110 (lv_at hl 6 rfl) ?_
  refine lv_bipush (v := 9) hx hb dX9_comes_112 (by decide) ?_
  refine lv_aload_n hx hb dX9_comes_114 rfl (lv_at hl 0 rfl) ?_
  refine va_get (D := D) (ci := 9) (v := .ref (μ + 1)) (C := RX9) (T := TX9) (N := 15) hx hb hts inX9 hown hK.1 (MR.mk0 hR) 0 rfl rfl 0 (by decide) lk7 (fun _ h9 => h9) rfl dX9_comes_115 ?_
  refine lv_iconst (v := 0) hx hb dX9_comes_118 (by decide) ?_
  refine gm_iald hx hb hK.1 (MR.mk1 hR (c := 1) (by decide) bM_1) (vp_in_iff.mpr (by decide)) dX9_comes_119 ?_
  rw [show (0 : Int32).toNatClampNeg = 0 from by decide]
  obtain ⟨h_9, hok⟩ := hok
  refine gm_cv (gm_call (As := [.int (X 1 1), .int 9, .int (X9 1 0)]) (rest := []) (ci := 9) (q := (RX9, TX9, 15)) ⟨hx, hb, hml, hown, hts⟩ hK (c_X9_put l D cy μ X9 (X 1 1) 9 (X9 1 0) h_9) (cwV 3 hts gX9_comes_X9_put rfl rfl rfl (by decide +kernel) ⟨Nat.le_of_ble_eq_true rfl, Nat.le_of_ble_eq_true rfl⟩) (MR.mk0 hR) rfl hR rfl hl.1 rfl (Nat.le_of_ble_eq_true rfl) dX9_comes_120 (Nat.zero_le _) (Nat.zero_le _)) hS (fun _ h => h) (fun H locs hR _ _ hS => ?_)
  obtain ⟨X10, eX10⟩ : ∃ Y : gM, Y = p_X9_put X9 (X 1 1) 9 (X9 1 0) := ⟨_, rfl⟩
  rw [← eX10] at hR
  try replace hok := hok X10 eX10
  refine lv_aload_n hx hb dX9_comes_123 rfl (lv_at hl 0 rfl) ?_
  refine lv_iload hx hb dX9_comes_124 (lv_at hl 6 rfl) ?_
  refine lv_bipush (v := 14) hx hb dX9_comes_126 (by decide) ?_
  refine lv_iload hx hb dX9_comes_128 (lv_at hl 5 rfl) ?_
  obtain ⟨h_10, hok⟩ := hok
  refine gm_cv (gm_call (As := [.int (X 1 1), .int 14, .int a5]) (rest := []) (ci := 9) (q := (RX9, TX9, 15)) ⟨hx, hb, hml, hown, hts⟩ hK (c_X9_put l D cy μ X10 (X 1 1) 14 a5 h_10) (cwV 3 hts gX9_comes_X9_put rfl rfl rfl (by decide +kernel) ⟨Nat.le_of_ble_eq_true rfl, Nat.le_of_ble_eq_true rfl⟩) (MR.mk0 hR) rfl hR rfl hl.1 rfl (Nat.le_of_ble_eq_true rfl) dX9_comes_130 (Nat.zero_le _) (Nat.zero_le _)) hS (fun _ h => h) (fun H locs hR _ _ hS => ?_)
  obtain ⟨X11, eX11⟩ : ∃ Y : gM, Y = p_X9_put X10 (X 1 1) 14 a5 := ⟨_, rfl⟩
  rw [← eX11] at hR
  try replace hok := hok X11 eX11
  refine lv_aload_n hx hb dX9_comes_133 rfl (lv_at hl 0 rfl) ?_
  refine lv_iload hx hb dX9_comes_134 (lv_at hl 6 rfl) ?_
  refine lv_bipush (v := 15) hx hb dX9_comes_136 (by decide) ?_
  refine lv_aload_n hx hb dX9_comes_138 rfl (lv_at hl 0 rfl) ?_
  refine va_get (D := D) (ci := 9) (v := .ref (μ + 1)) (C := RX9) (T := TX9) (N := 15) hx hb hts inX9 hown hK.1 (MR.mk0 hR) 0 rfl rfl 0 (by decide) lk7 (fun _ h9 => h9) rfl dX9_comes_139 ?_
  refine lv_iconst (v := 0) hx hb dX9_comes_142 (by decide) ?_
  refine gm_iald hx hb hK.1 (MR.mk1 hR (c := 1) (by decide) bM_1) (vp_in_iff.mpr (by decide)) dX9_comes_143 ?_
  rw [show (0 : Int32).toNatClampNeg = 0 from by decide]
  obtain ⟨h_11, hok⟩ := hok
  refine gm_cv (gm_call (As := [.int (X 1 1), .int 15, .int (X11 1 0)]) (rest := []) (ci := 9) (q := (RX9, TX9, 15)) ⟨hx, hb, hml, hown, hts⟩ hK (c_X9_put l D cy μ X11 (X 1 1) 15 (X11 1 0) h_11) (cwV 3 hts gX9_comes_X9_put rfl rfl rfl (by decide +kernel) ⟨Nat.le_of_ble_eq_true rfl, Nat.le_of_ble_eq_true rfl⟩) (MR.mk0 hR) rfl hR rfl hl.1 rfl (Nat.le_of_ble_eq_true rfl) dX9_comes_144 (Nat.zero_le _) (Nat.zero_le _)) hS (fun _ h => h) (fun H locs hR _ _ hS => ?_)
  obtain ⟨X12, eX12⟩ : ∃ Y : gM, Y = p_X9_put X11 (X 1 1) 15 (X11 1 0) := ⟨_, rfl⟩
  rw [← eX12] at hR
  try replace hok := hok X12 eX12
  refine lv_aload_n hx hb dX9_comes_147 rfl (lv_at hl 0 rfl) ?_
  refine va_get (D := D) (ci := 9) (v := .ref (μ + 1)) (C := RX9) (T := TX9) (N := 15) hx hb hts inX9 hown hK.1 (MR.mk0 hR) 0 rfl rfl 0 (by decide) lk7 (fun _ h9 => h9) rfl dX9_comes_148 ?_
  refine lv_iconst (v := 3) hx hb dX9_comes_151 (by decide) ?_
  refine lv_dup2_11 hx hb dX9_comes_152 rfl rfl ?_
  refine gm_iald hx hb hK.1 (MR.mk1 hR (c := 1) (by decide) bM_1) (vp_in_iff.mpr (by decide)) dX9_comes_153 ?_
  rw [show (3 : Int32).toNatClampNeg = 3 from by decide]
  refine lv_aload_n hx hb dX9_comes_154 rfl (lv_at hl 0 rfl) ?_
  refine lv_iload hx hb dX9_comes_155 (lv_at hl 6 rfl) ?_
  refine lv_iconst (v := 5) hx hb dX9_comes_157 (by decide) ?_
  obtain ⟨h_12, hok⟩ := hok
  refine gm_ci (gm_call (As := [.int (X 1 1), .int 5]) (rest := [.int (X12 1 3), .int 3, .ref (μ + 1)]) (ci := 9) (q := (RX9, TX9, 15)) ⟨hx, hb, hml, hown, hts⟩ hK (c_X9_of l D cy μ X12 (X 1 1) 5 h_12) (cwV 2 hts gX9_comes_X9_of rfl rfl rfl (by decide +kernel) ⟨Nat.le_of_ble_eq_true rfl, Nat.le_of_ble_eq_true rfl⟩) (MR.mk0 hR) rfl hR rfl hl.1 rfl (Nat.le_of_ble_eq_true rfl) dX9_comes_158 (Nat.zero_le _) (Nat.zero_le _)) hS (fun _ h => h.elim) (fun H locs _ _ hfr hS => ?_)
  have hR := gRep.keep hR hfr (fun _ _ h => h)
  refine lv_iadd hx hb dX9_comes_161 ?_
  refine gm_iast hx hb hK.1 hR injM hS (a := 1) (by decide) rfl (fun r => bM_1) (vp_in_iff.mpr (by decide)) dX9_comes_162 (fun H locs hR hS => ?_)
  rw [show (3 : Int32).toNatClampNeg = 3 from by decide] at hR
  obtain ⟨X13, eX13⟩ : ∃ Y : gM, Y = updM X12 1 3 ((X12 1 3) + (f_X9_of X12 (X 1 1) 5)) := ⟨_, rfl⟩
  rw [← eX13] at hR
  try replace hok := hok X13 eX13
  refine lv_iload hx hb dX9_comes_163 (lv_at hl 6 rfl) ?_
  exact gm_iret hx hb hr hlocks hS (by (try simp only [p_X9_comes, ← eX1, ← eX3, ← eX4, ← eX5, ← eX6, ← eX7, ← eX8, ← eX9, ← eX10, ← eX11, ← eX12, ← eX13]); (try rfl)) (by (try simp only [p_X9_comes, ← eX1, ← eX3, ← eX4, ← eX5, ← eX6, ← eX7, ← eX8, ← eX9, ← eX10, ← eX11, ← eX12, ← eX13]); exact hR) dX9_comes_165
