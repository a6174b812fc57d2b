def lf_X9_fateOf_2 (a1 : Int32) (a2 : Int32) (K : (gM) → (Nat) → (Int32 × gM)) : Nat → (gM) → (Nat) → (Int32 × gM)
  | 0, Z, k_3 => K Z k_3
  | n + 1, Z, k_3 =>
    if 300 < nI k_3 then
      K Z k_3
    else
      let X1 := p_X9_goTick Z
      if f_X9_of X1 a1 6 < 3 then
        lf_X9_fateOf_2 a1 a2 K n X1 (k_3 + 1)
      else
        if a2 = 0 then
          (f_X9_of X1 a1 6, X1)
        else
          if a2 = 1 then
            (nI k_3, X1)
          else
            if a2 = 2 then
              (f_X9_of X1 a1 12, X1)
            else
              (f_X9_of X1 a1 4, X1)
def lok_X9_fateOf_2 (a1 : Int32) (a2 : Int32) (KO : (gM) → (Nat) → Prop) : Nat → (gM) → (Nat) → Prop
  | 0, Z, k_3 => True
  | n + 1, Z, k_3 =>
    (if 300 < nI k_3 then
      KO Z k_3
    else
      (ok_X9_goTick Z) ∧
      ∀ X1 : gM, X1 = p_X9_goTick Z →
      (ok_X9_of X1 a1 6) ∧
      (if f_X9_of X1 a1 6 < 3 then
        lok_X9_fateOf_2 a1 a2 KO n X1 (k_3 + 1)
      else
        (if a2 = 0 then
          (ok_X9_of X1 a1 6) ∧
          True
        else
          (if a2 = 1 then
            True
          else
            (if a2 = 2 then
              (ok_X9_of X1 a1 12) ∧
              True
            else
              (ok_X9_of X1 a1 4) ∧
              True)))))
def p_X9_fateOf (X : gM) (a1 : Int32) (a2 : Int32) : Int32 × gM :=
  lf_X9_fateOf_2 a1 a2 (fun X1 k_3w1 =>
        ((-5), X1)) 2147483648 X 1
def ok_X9_fateOf (X : gM) (a1 : Int32) (a2 : Int32) : Prop :=
  lok_X9_fateOf_2 a1 a2 (fun X1 k_3w1 =>
        True) 2147483648 X 1
set_option maxHeartbeats 4000000 in
set_option maxRecDepth 100000 in
theorem lp_X9_fateOf_2 {p : Program} {l : Launch} {e : Env} {s : State} {m : MethodId} {args : Array Value} {below : List Frame} {meth : Method} {c0 : Code} {D : va_G} {cy : Nat → ClassId} (C : gCtx cX9_fateOf 4 (some .int) RX9 wsX9_fateOf D cy p s m args meth c0) (μ : Nat) (a1 : Int32) (a2 : Int32) 
    (KO : (gM) → (Nat) → Prop) (K : (gM) → (Nat) → (Int32 × gM)) (hexit : ∀ (Z : gM) (k_3 : Nat), k_3 ≤ 2147483647 → KO Z k_3 → ∀ (H : Heap) (locs : List Loc) (ls : Array Slot), MR D cy μ Z H → va_S (MA μ) s.heap H locs → lv_has ls 4 [(0, .ref μ), (1, .int a1), (2, .int a2), (3, .int (nI k_3))] → W p l e { frames := 6, cells := 0, slots := 0, locals := 139 } s m args below meth c0 H locs 0 0 (MQ below (gQi (K Z k_3).1 (MR D cy μ (K Z k_3).2) (MA μ)) args s 0 0 (MA μ)) (F0 m 75 ls [])) :
    ∀ (n : Nat) (Z : gM) (k_3 : Nat), k_3 ≤ 2147483647 → lok_X9_fateOf_2 a1 a2 KO n Z k_3 → 2147483647 < k_3 + n → ∀ (H : Heap) (locs : List Loc) (ls : Array Slot), MR D cy μ Z H → va_S (MA μ) s.heap H locs → lv_has ls 4 [(0, .ref μ), (1, .int a1), (2, .int a2), (3, .int (nI k_3))] → W p l e { frames := 6, cells := 0, slots := 0, locals := 139 } s m args below meth c0 H locs 0 0 (MQ below (gQi (lf_X9_fateOf_2 a1 a2 K n Z k_3).1 (MR D cy μ (lf_X9_fateOf_2 a1 a2 K n Z k_3).2) (MA μ)) args s 0 0 (MA μ)) (F0 m 2 ls []) := by
  obtain ⟨hx, hb, hr, hts, hown, hlocks, hml, hK⟩ := C
  intro n
  induction n with
  | zero =>
    intro Z k_3 hb_3 hok hme
    exact absurd hme (by omega)
  | succ n ih =>
    intro Z k_3 hb_3 hok hme H locs ls hR hS hl
    unfold lok_X9_fateOf_2 at hok
    refine lv_iload_n hx hb dX9_fateOf_2 rfl (lv_at hl 3 rfl) ?_
    refine lv_sipush (v := 300) hx hb dX9_fateOf_3 (by decide) ?_
    refine lv_icmp_gt (tgt := 75) hx hb dX9_fateOf_6 (by decide) (fun c_1 => ?_) (fun c_1 => ?_)
    · try rw [if_pos c_1] at hok
      refine gm_q (Q2 := MQ below (gQi (K Z k_3).1 (MR D cy μ (K Z k_3).2) (MA μ)) args s 0 0 (MA μ)) (by simp only [lf_X9_fateOf_2, ↓if_pos c_1]) ?_
      exact hexit Z k_3 hb_3 hok _ _ _ hR hS (lv_sub hl [0, 1, 2, 3] rfl)
    · try rw [if_neg c_1] at hok
      have lt_2 : k_3 < 301 := g_le (Nat.lt_of_le_of_lt hb_3 (by decide)) (by decide) c_1
      refine lv_aload_n hx hb dX9_fateOf_9 rfl (lv_at hl 0 rfl) ?_
      obtain ⟨h_3, hok⟩ := hok
      refine gm_cv (gm_call (As := []) (rest := []) (ci := 9) (q := (RX9, TX9, 15)) ⟨hx, hb, hml, hown, hts⟩ hK (c_X9_goTick l D cy μ Z h_3) (cwV 0 hts gX9_fateOf_X9_goTick rfl rfl rfl (by decide +kernel) ⟨Nat.le_of_ble_eq_true rfl, Nat.le_of_ble_eq_true rfl⟩) (MR.mk0 hR) rfl hR rfl hl.1 rfl (Nat.le_of_ble_eq_true rfl) dX9_fateOf_10 (Nat.zero_le _) (Nat.zero_le _)) hS (fun _ h => h) (fun H locs hR _ _ hS => ?_)
      obtain ⟨X1, eX1⟩ : ∃ Y : gM, Y = p_X9_goTick Z := ⟨_, rfl⟩
      rw [← eX1] at hR
      try replace hok := hok X1 eX1
      refine lv_aload_n hx hb dX9_fateOf_13 rfl (lv_at hl 0 rfl) ?_
      refine lv_iload_n hx hb dX9_fateOf_14 rfl (lv_at hl 1 rfl) ?_
      refine lv_bipush (v := 6) hx hb dX9_fateOf_15 (by decide) ?_
      obtain ⟨h_4, hok⟩ := hok
      refine gm_ci (gm_call (As := [.int a1, .int 6]) (rest := []) (ci := 9) (q := (RX9, TX9, 15)) ⟨hx, hb, hml, hown, hts⟩ hK (c_X9_of l D cy μ X1 a1 6 h_4) (cwV 2 hts gX9_fateOf_X9_of rfl rfl rfl (by decide +kernel) ⟨Nat.le_of_ble_eq_true rfl, Nat.le_of_ble_eq_true rfl⟩) (MR.mk0 hR) rfl hR rfl hl.1 rfl (Nat.le_of_ble_eq_true rfl) dX9_fateOf_17 (Nat.zero_le _) (Nat.zero_le _)) hS (fun _ h => h.elim) (fun H locs _ _ hfr hS => ?_)
      have hR := gRep.keep hR hfr (fun _ _ h => h)
      refine lv_iconst (v := 3) hx hb dX9_fateOf_20 (by decide) ?_
      refine lv_icmp_lt (tgt := 69) hx hb dX9_fateOf_21 (by decide) (fun c_5 => ?_) (fun c_5 => ?_)
      · try rw [if_pos c_5] at hok
        refine lv_iinc (v := nI (k_3 + 1)) (lv' := [(3, .int (nI (k_3 + 1))), (0, .ref μ), (1, .int a1), (2, .int a2)]) hx hb dX9_fateOf_69 hl (k := 3) rfl (nI_1 _) (by decide) rfl (fun ls hl => ?_)
        refine lv_goto (tgt := 2) hx hb dX9_fateOf_72 (by decide) ?_
        refine gm_q (Q2 := MQ below (gQi (lf_X9_fateOf_2 a1 a2 K n X1 (k_3 + 1)).1 (MR D cy μ (lf_X9_fateOf_2 a1 a2 K n X1 (k_3 + 1)).2) (MA μ)) args s 0 0 (MA μ)) (by simp only [lf_X9_fateOf_2, ↓if_neg c_1, ↓if_pos c_5, ← eX1]) ?_
        exact ih X1 (k_3 + 1) (Nat.lt_of_lt_of_le lt_2 (by decide)) hok (by omega) _ _ _ hR hS (lv_sub hl [1, 2, 3, 0] rfl)
      · try rw [if_neg c_5] at hok
        refine lv_iload_n hx hb dX9_fateOf_24 rfl (lv_at hl 2 rfl) ?_
        refine lv_if_ne (tgt := 38) hx hb dX9_fateOf_25 (by decide) (fun c_6 => ?_) (fun c_6 => ?_)
        · try rw [if_neg c_6] at hok
          refine lv_iload_n hx hb dX9_fateOf_38 rfl (lv_at hl 2 rfl) ?_
          refine lv_iconst (v := 1) hx hb dX9_fateOf_39 (by decide) ?_
          refine lv_icmp_ne (tgt := 47) hx hb dX9_fateOf_40 (by decide) (fun c_7 => ?_) (fun c_7 => ?_)
          · try rw [if_neg c_7] at hok
            refine lv_iload_n hx hb dX9_fateOf_47 rfl (lv_at hl 2 rfl) ?_
            refine lv_iconst (v := 2) hx hb dX9_fateOf_48 (by decide) ?_
            refine lv_icmp_ne (tgt := 62) hx hb dX9_fateOf_49 (by decide) (fun c_8 => ?_) (fun c_8 => ?_)
            · try rw [if_neg c_8] at hok
              refine lv_aload_n hx hb dX9_fateOf_62 rfl (lv_at hl 0 rfl) ?_
              refine lv_iload_n hx hb dX9_fateOf_63 rfl (lv_at hl 1 rfl) ?_
              refine lv_iconst (v := 4) hx hb dX9_fateOf_64 (by decide) ?_
              obtain ⟨h_9, hok⟩ := hok
              refine gm_ci (gm_call (As := [.int a1, .int 4]) (rest := []) (ci := 9) (q := (RX9, TX9, 15)) ⟨hx, hb, hml, hown, hts⟩ hK (c_X9_of l D cy μ X1 a1 4 h_9) (cwV 2 hts gX9_fateOf_X9_of rfl rfl rfl (by decide +kernel) ⟨Nat.le_of_ble_eq_true rfl, Nat.le_of_ble_eq_true rfl⟩) (MR.mk0 hR) rfl hR rfl hl.1 rfl (Nat.le_of_ble_eq_true rfl) dX9_fateOf_65 (Nat.zero_le _) (Nat.zero_le _)) hS (fun _ h => h.elim) (fun H locs _ _ hfr hS => ?_)
              have hR := gRep.keep hR hfr (fun _ _ h => h)
              exact gm_iret hx hb hr hlocks hS (by (try simp only [lf_X9_fateOf_2, ↓if_neg c_1, ↓if_neg c_5, ↓if_neg c_6, ↓if_neg c_7, ↓if_neg c_8, ← eX1]); (try rfl)) (by (try simp only [lf_X9_fateOf_2, ↓if_neg c_1, ↓if_neg c_5, ↓if_neg c_6, ↓if_neg c_7, ↓if_neg c_8, ← eX1]); exact hR) dX9_fateOf_68
            · try rw [if_pos c_8] at hok
              refine lv_aload_n hx hb dX9_fateOf_52 rfl (lv_at hl 0 rfl) ?_
              refine lv_iload_n hx hb dX9_fateOf_53 rfl (lv_at hl 1 rfl) ?_
              refine lv_bipush (v := 12) hx hb dX9_fateOf_54 (by decide) ?_
              obtain ⟨h_10, hok⟩ := hok
              refine gm_ci (gm_call (As := [.int a1, .int 12]) (rest := []) (ci := 9) (q := (RX9, TX9, 15)) ⟨hx, hb, hml, hown, hts⟩ hK (c_X9_of l D cy μ X1 a1 12 h_10) (cwV 2 hts gX9_fateOf_X9_of rfl rfl rfl (by decide +kernel) ⟨Nat.le_of_ble_eq_true rfl, Nat.le_of_ble_eq_true rfl⟩) (MR.mk0 hR) rfl hR rfl hl.1 rfl (Nat.le_of_ble_eq_true rfl) dX9_fateOf_56 (Nat.zero_le _) (Nat.zero_le _)) hS (fun _ h => h.elim) (fun H locs _ _ hfr hS => ?_)
              have hR := gRep.keep hR hfr (fun _ _ h => h)
              refine lv_goto (tgt := 68) hx hb dX9_fateOf_59 (by decide) ?_
              exact gm_iret hx hb hr hlocks hS (by (try simp only [lf_X9_fateOf_2, ↓if_neg c_1, ↓if_neg c_5, ↓if_neg c_6, ↓if_neg c_7, ↓if_pos c_8, ← eX1]); (try rfl)) (by (try simp only [lf_X9_fateOf_2, ↓if_neg c_1, ↓if_neg c_5, ↓if_neg c_6, ↓if_neg c_7, ↓if_pos c_8, ← eX1]); exact hR) dX9_fateOf_68
          · try rw [if_pos c_7] at hok
            refine lv_iload_n hx hb dX9_fateOf_43 rfl (lv_at hl 3 rfl) ?_
            refine lv_goto (tgt := 68) hx hb dX9_fateOf_44 (by decide) ?_
            exact gm_iret hx hb hr hlocks hS (by (try simp only [lf_X9_fateOf_2, ↓if_neg c_1, ↓if_neg c_5, ↓if_neg c_6, ↓if_pos c_7, ← eX1]); (try rfl)) (by (try simp only [lf_X9_fateOf_2, ↓if_neg c_1, ↓if_neg c_5, ↓if_neg c_6, ↓if_pos c_7, ← eX1]); exact hR) dX9_fateOf_68
        · try rw [if_pos c_6] at hok
          refine lv_aload_n hx hb dX9_fateOf_28 rfl (lv_at hl 0 rfl) ?_
          refine lv_iload_n hx hb dX9_fateOf_29 rfl (lv_at hl 1 rfl) ?_
          refine lv_bipush (v := 6) hx hb dX9_fateOf_30 (by decide) ?_
          obtain ⟨h_11, hok⟩ := hok
          refine gm_ci (gm_call (As := [.int a1, .int 6]) (rest := []) (ci := 9) (q := (RX9, TX9, 15)) ⟨hx, hb, hml, hown, hts⟩ hK (c_X9_of l D cy μ X1 a1 6 h_11) (cwV 2 hts gX9_fateOf_X9_of rfl rfl rfl (by decide +kernel) ⟨Nat.le_of_ble_eq_true rfl, Nat.le_of_ble_eq_true rfl⟩) (MR.mk0 hR) rfl hR rfl hl.1 rfl (Nat.le_of_ble_eq_true rfl) dX9_fateOf_32 (Nat.zero_le _) (Nat.zero_le _)) hS (fun _ h => h.elim) (fun H locs _ _ hfr hS => ?_)
          have hR := gRep.keep hR hfr (fun _ _ h => h)
          refine lv_goto (tgt := 68) hx hb dX9_fateOf_35 (by decide) ?_
          exact gm_iret hx hb hr hlocks hS (by (try simp only [lf_X9_fateOf_2, ↓if_neg c_1, ↓if_neg c_5, ↓if_pos c_6, ← eX1]); (try rfl)) (by (try simp only [lf_X9_fateOf_2, ↓if_neg c_1, ↓if_neg c_5, ↓if_pos c_6, ← eX1]); exact hR) dX9_fateOf_68
set_option maxHeartbeats 4000000 in
set_option maxRecDepth 100000 in
theorem c_X9_fateOf (l : Launch) (D : va_G) (cy : Nat → ClassId) (μ : Nat) (X : gM) (a1 : Int32) (a2 : Int32)  (hok : ok_X9_fateOf X a1 a2) : Met l yX9_fateOf wsX9_fateOf ({ frames := 6, cells := 0, slots := 0, locals := 139 }) (gP [.ref μ, .int a1, .int a2] D cy (MR D cy μ X)) (gQi (p_X9_fateOf X a1 a2).1 (MR D cy μ (p_X9_fateOf X a1 a2).2) (MA μ)) 0 0 (MA μ) := by
  refine gm_met (cc := cX9_fateOf) (maxL := 4) (ret := (some .int)) [.ref μ, .int a1, .int a2] (by decide) rfl (Nat.le_of_ble_eq_true rfl) ?_
  intro p e s m args below meth c0 ls C hR hl
  obtain ⟨hx, hb, hr, hts, hown, hlocks, hml, hK⟩ := C
  have hl : lv_has ls 4 [(0, .ref μ), (1, .int a1), (2, .int a2)] := hl
  have hS : va_S (MA μ) s.heap s.heap [] := va_S.rf
  unfold ok_X9_fateOf at hok
  refine lv_iconst (v := 1) hx hb dX9_fateOf_0 (by decide) ?_
  refine lv_istore_n (lv' := [(3, .int 1), (0, .ref μ), (1, .int a1), (2, .int a2)]) hx hb dX9_fateOf_1 rfl hl (by decide) rfl (fun ls hl => ?_)
  refine gm_q (Q2 := MQ below (gQi (lf_X9_fateOf_2 a1 a2 (fun X1 k_3w1 =>
        ((-5), X1)) 2147483648 X 1).1 (MR D cy μ (lf_X9_fateOf_2 a1 a2 (fun X1 k_3w1 =>
        ((-5), X1)) 2147483648 X 1).2) (MA μ)) args s 0 0 (MA μ)) (by simp only [p_X9_fateOf]) ?_
  refine lp_X9_fateOf_2 ⟨hx, hb, hr, hts, hown, hlocks, hml, hK⟩ μ a1 a2  _ _ (fun X1 k_3w1 hbk_3w1 hok H locs ls hR hS hl => ?_) 2147483648 X 1 (by decide) hok (by omega) _ _ _ hR hS (lv_sub hl [1, 2, 3, 0] rfl)
  refine lv_bipush (v := (-5)) hx hb dX9_fateOf_75 (by decide) ?_
  exact gm_iret hx hb hr hlocks hS (by (try simp only [p_X9_fateOf]); (try rfl)) (by (try simp only [p_X9_fateOf]); exact hR) dX9_fateOf_77
def lf_X9_fate_38 (a1 : Int32) (a2 : Int32) (K : (gM) → (Nat) → (Int32 × gM)) : Nat → (gM) → (Nat) → (Int32 × gM)
  | 0, Z, k_3 => K Z k_3
  | n + 1, Z, k_3 =>
    if 974 ≤ nI k_3 then
      K Z k_3
    else
      let X1 := updM Z 4 k_3 (Z 1 k_3)
      lf_X9_fate_38 a1 a2 K n X1 (k_3 + 1)
def lok_X9_fate_38 (a1 : Int32) (a2 : Int32) (KO : (gM) → (Nat) → Prop) : Nat → (gM) → (Nat) → Prop
  | 0, Z, k_3 => True
  | n + 1, Z, k_3 =>
    (if 974 ≤ nI k_3 then
      KO Z k_3
    else
      ∀ X1 : gM, X1 = updM Z 4 k_3 (Z 1 k_3) →
      lok_X9_fate_38 a1 a2 KO n X1 (k_3 + 1))
def lf_X9_fate_73 (a1 : Int32) (a2 : Int32) (y_3 : Int32) (K : (gM) → (Nat) → (Int32 × gM)) : Nat → (gM) → (Nat) → (Int32 × gM)
  | 0, Z, k_4 => K Z k_4
  | n + 1, Z, k_4 =>
    if 974 ≤ nI k_4 then
      K Z k_4
    else
      let X1 := updM Z 1 k_4 (Z 4 k_4)
      lf_X9_fate_73 a1 a2 y_3 K n X1 (k_4 + 1)
def lok_X9_fate_73 (a1 : Int32) (a2 : Int32) (y_3 : Int32) (KO : (gM) → (Nat) → Prop) : Nat → (gM) → (Nat) → Prop
  | 0, Z, k_4 => True
  | n + 1, Z, k_4 =>
    (if 974 ≤ nI k_4 then
      KO Z k_4
    else
      ∀ X1 : gM, X1 = updM Z 1 k_4 (Z 4 k_4) →
      lok_X9_fate_73 a1 a2 y_3 KO n X1 (k_4 + 1))
def p_X9_fate (X : gM) (a1 : Int32) (a2 : Int32) : Int32 × gM :=
  if f_X9_isTicket X a1 = 0 then
    ((-1), X)
  else
    if f_X9_in a2 0 3 = 0 then
      ((-2), X)
    else
      if f_X9_of X a1 6 < 3 then
        lf_X9_fate_38 a1 a2 (fun X1 k_3w5 =>
              let X2 := (p_X9_fateOf X1 a1 a2).2
              lf_X9_fate_73 a1 a2 ((p_X9_fateOf X1 a1 a2).1) (fun X3 k_4w7 =>
              ((p_X9_fateOf X1 a1 a2).1, X3)) 2147483648 X2 0) 2147483648 X 0
      else
        ((-4), X)
def ok_X9_fate (X : gM) (a1 : Int32) (a2 : Int32) : Prop :=
  (if f_X9_isTicket X a1 = 0 then
    True
  else
    (if f_X9_in a2 0 3 = 0 then
      True
    else
      (ok_X9_of X a1 6) ∧
      (if f_X9_of X a1 6 < 3 then
        lok_X9_fate_38 a1 a2 (fun X1 k_3w5 =>
              (ok_X9_fateOf X1 a1 a2) ∧
              ∀ X2 : gM, X2 = (p_X9_fateOf X1 a1 a2).2 →
              lok_X9_fate_73 a1 a2 ((p_X9_fateOf X1 a1 a2).1) (fun X3 k_4w7 =>
              True) 2147483648 X2 0) 2147483648 X 0
      else
        True)))
set_option maxHeartbeats 4000000 in
set_option maxRecDepth 100000 in
theorem lp_X9_fate_38 {p : Program} {l : Launch} {e : Env} {s : State} {m : MethodId} {args : Array Value} {below : List Frame} {meth : Method} {c0 : Code} {D : va_G} {cy : Nat → ClassId} (C : gCtx cX9_fate 5 (some .int) RX9 wsX9_fate D cy p s m args meth c0) (μ : Nat) (a1 : Int32) (a2 : Int32) 
    (KO : (gM) → (Nat) → Prop) (K : (gM) → (Nat) → (Int32 × gM)) (hexit : ∀ (Z : gM) (k_3 : Nat), k_3 ≤ 2147483647 → KO Z k_3 → ∀ (H : Heap) (locs : List Loc) (ls : Array Slot), MR D cy μ Z H → va_S (MA μ) s.heap H locs → lv_has ls 5 [(0, .ref μ), (1, .int a1), (2, .int a2), (3, .int (nI k_3))] → W p l e { frames := 7, cells := 0, slots := 0, locals := 162 } s m args below meth c0 H locs 0 0 (MQ below (gQi (K Z k_3).1 (MR D cy μ (K Z k_3).2) (MA μ)) args s 0 0 (MA μ)) (F0 m 63 ls [])) :
    ∀ (n : Nat) (Z : gM) (k_3 : Nat), k_3 ≤ 2147483647 → lok_X9_fate_38 a1 a2 KO n Z k_3 → 2147483647 < k_3 + n → ∀ (H : Heap) (locs : List Loc) (ls : Array Slot), MR D cy μ Z H → va_S (MA μ) s.heap H locs → lv_has ls 5 [(0, .ref μ), (1, .int a1), (2, .int a2), (3, .int (nI k_3))] → W p l e { frames := 7, cells := 0, slots := 0, locals := 162 } s m args below meth c0 H locs 0 0 (MQ below (gQi (lf_X9_fate_38 a1 a2 K n Z k_3).1 (MR D cy μ (lf_X9_fate_38 a1 a2 K n Z k_3).2) (MA μ)) args s 0 0 (MA μ)) (F0 m 38 ls []) := by
  obtain ⟨hx, hb, hr, hts, hown, hlocks, hml, hK⟩ := C
  have lk19 := hts (.fieldLink RX9 19 "MercuryLineModel" "aside" "[I") (by decide +kernel)
  have inX9 : ∀ w ∈ u_ws RX9 TX9 15, w ∈ wsX9_fate := by decide +kernel
  have lk7 := hts (.fieldLink RX9 7 "MercuryLineModel" "s" "[I") (by decide +kernel)
  intro n
  induction n with
  | zero =>
    intro Z k_3 hb_3 hok hme
    exact absurd hme (by omega)
  | succ n ih =>
    intro Z k_3 hb_3 hok hme H locs ls hR hS hl
    unfold lok_X9_fate_38 at hok
    refine lv_iload_n hx hb dX9_fate_38 rfl (lv_at hl 3 rfl) ?_
    refine lv_sipush (v := 974) hx hb dX9_fate_39 (by decide) ?_
    refine lv_icmp_ge (tgt := 63) hx hb dX9_fate_42 (by decide) (fun c_1 => ?_) (fun c_1 => ?_)
    · try rw [if_pos c_1] at hok
      have ge_2 : 974 ≤ k_3 := g_ge2 (Nat.lt_of_le_of_lt hb_3 (by decide)) (by decide) c_1
      refine gm_q (Q2 := MQ below (gQi (K Z k_3).1 (MR D cy μ (K Z k_3).2) (MA μ)) args s 0 0 (MA μ)) (by simp only [lf_X9_fate_38, ↓if_pos c_1]) ?_
      exact hexit Z k_3 hb_3 hok _ _ _ hR hS (lv_sub hl [0, 1, 2, 3] rfl)
    · try rw [if_neg c_1] at hok
      have lt_3 : k_3 < 974 := g_lt (Nat.lt_of_le_of_lt hb_3 (by decide)) (by decide) c_1
      refine lv_aload_n hx hb dX9_fate_45 rfl (lv_at hl 0 rfl) ?_
      refine va_get (D := D) (ci := 9) (v := .ref (μ + 4)) (C := RX9) (T := TX9) (N := 15) hx hb hts inX9 hown hK.1 (MR.mk0 hR) 0 rfl rfl 5 (by decide) lk19 (fun _ h9 => h9) rfl dX9_fate_46 ?_
      refine lv_iload_n hx hb dX9_fate_49 rfl (lv_at hl 3 rfl) ?_
      refine lv_aload_n hx hb dX9_fate_50 rfl (lv_at hl 0 rfl) ?_
      refine va_get (D := D) (ci := 9) (v := .ref (μ + 1)) (C := RX9) (T := TX9) (N := 15) hx hb hts inX9 hown hK.1 (MR.mk0 hR) 0 rfl rfl 0 (by decide) lk7 (fun _ h9 => h9) rfl dX9_fate_51 ?_
      refine lv_iload_n hx hb dX9_fate_54 rfl (lv_at hl 3 rfl) ?_
      refine gm_iald hx hb hK.1 (MR.mk1 hR (c := 1) (by decide) bM_1) (vp_in_nI lt_3 (by decide)) dX9_fate_55 ?_
      rw [nI_clamp (n := k_3) (by omega)]
      refine gm_iast hx hb hK.1 hR injM hS (a := 4) (by decide) rfl (fun r => bM_4) (vp_in_nI lt_3 (by decide)) dX9_fate_56 (fun H locs hR hS => ?_)
      rw [nI_clamp (n := k_3) (by omega)] at hR
      obtain ⟨X1, eX1⟩ : ∃ Y : gM, Y = updM Z 4 k_3 (Z 1 k_3) := ⟨_, rfl⟩
      rw [← eX1] at hR
      try replace hok := hok X1 eX1
      refine lv_iinc (v := nI (k_3 + 1)) (lv' := [(3, .int (nI (k_3 + 1))), (0, .ref μ), (1, .int a1), (2, .int a2)]) hx hb dX9_fate_57 hl (k := 3) rfl (nI_1 _) (by decide) rfl (fun ls hl => ?_)
      refine lv_goto (tgt := 38) hx hb dX9_fate_60 (by decide) ?_
      refine gm_q (Q2 := MQ below (gQi (lf_X9_fate_38 a1 a2 K n X1 (k_3 + 1)).1 (MR D cy μ (lf_X9_fate_38 a1 a2 K n X1 (k_3 + 1)).2) (MA μ)) args s 0 0 (MA μ)) (by simp only [lf_X9_fate_38, ↓if_neg c_1, ← eX1]) ?_
      exact ih X1 (k_3 + 1) (Nat.lt_of_lt_of_le lt_3 (by decide)) hok (by omega) _ _ _ hR hS (lv_sub hl [1, 2, 3, 0] rfl)
set_option maxHeartbeats 4000000 in
set_option maxRecDepth 100000 in
theorem lp_X9_fate_73 {p : Program} {l : Launch} {e : Env} {s : State} {m : MethodId} {args : Array Value} {below : List Frame} {meth : Method} {c0 : Code} {D : va_G} {cy : Nat → ClassId} (C : gCtx cX9_fate 5 (some .int) RX9 wsX9_fate D cy p s m args meth c0) (μ : Nat) (a1 : Int32) (a2 : Int32) (y_3 : Int32) 
    (KO : (gM) → (Nat) → Prop) (K : (gM) → (Nat) → (Int32 × gM)) (hexit : ∀ (Z : gM) (k_4 : Nat), k_4 ≤ 2147483647 → KO Z k_4 → ∀ (H : Heap) (locs : List Loc) (ls : Array Slot), MR D cy μ Z H → va_S (MA μ) s.heap H locs → lv_has ls 5 [(0, .ref μ), (1, .int a1), (2, .int a2), (3, .int y_3), (4, .int (nI k_4))] → W p l e { frames := 7, cells := 0, slots := 0, locals := 162 } s m args below meth c0 H locs 0 0 (MQ below (gQi (K Z k_4).1 (MR D cy μ (K Z k_4).2) (MA μ)) args s 0 0 (MA μ)) (F0 m 101 ls [])) :
    ∀ (n : Nat) (Z : gM) (k_4 : Nat), k_4 ≤ 2147483647 → lok_X9_fate_73 a1 a2 y_3 KO n Z k_4 → 2147483647 < k_4 + n → ∀ (H : Heap) (locs : List Loc) (ls : Array Slot), MR D cy μ Z H → va_S (MA μ) s.heap H locs → lv_has ls 5 [(0, .ref μ), (1, .int a1), (2, .int a2), (3, .int y_3), (4, .int (nI k_4))] → W p l e { frames := 7, cells := 0, slots := 0, locals := 162 } s m args below meth c0 H locs 0 0 (MQ below (gQi (lf_X9_fate_73 a1 a2 y_3 K n Z k_4).1 (MR D cy μ (lf_X9_fate_73 a1 a2 y_3 K n Z k_4).2) (MA μ)) args s 0 0 (MA μ)) (F0 m 73 ls []) := by
  obtain ⟨hx, hb, hr, hts, hown, hlocks, hml, hK⟩ := C
  have lk7 := hts (.fieldLink RX9 7 "MercuryLineModel" "s" "[I") (by decide +kernel)
  have inX9 : ∀ w ∈ u_ws RX9 TX9 15, w ∈ wsX9_fate := by decide +kernel
  have lk19 := hts (.fieldLink RX9 19 "MercuryLineModel" "aside" "[I") (by decide +kernel)
  intro n
  induction n with
  | zero =>
    intro Z k_4 hb_4 hok hme
    exact absurd hme (by omega)
  | succ n ih =>
    intro Z k_4 hb_4 hok hme H locs ls hR hS hl
    unfold lok_X9_fate_73 at hok
    refine lv_iload hx hb dX9_fate_73 (lv_at hl 4 rfl) ?_
    refine lv_sipush (v := 974) hx hb dX9_fate_75 (by decide) ?_
    refine lv_icmp_ge (tgt := 101) hx hb dX9_fate_78 (by decide) (fun c_1 => ?_) (fun c_1 => ?_)
    · try rw [if_pos c_1] at hok
      have ge_2 : 974 ≤ k_4 := g_ge2 (Nat.lt_of_le_of_lt hb_4 (by decide)) (by decide) c_1
      refine gm_q (Q2 := MQ below (gQi (K Z k_4).1 (MR D cy μ (K Z k_4).2) (MA μ)) args s 0 0 (MA μ)) (by simp only [lf_X9_fate_73, ↓if_pos c_1]) ?_
      exact hexit Z k_4 hb_4 hok _ _ _ hR hS (lv_sub hl [0, 1, 2, 3, 4] rfl)
    · try rw [if_neg c_1] at hok
      have lt_3 : k_4 < 974 := g_lt (Nat.lt_of_le_of_lt hb_4 (by decide)) (by decide) c_1
      refine lv_aload_n hx hb dX9_fate_81 rfl (lv_at hl 0 rfl) ?_
      refine va_get (D := D) (ci := 9) (v := .ref (μ + 1)) (C := RX9) (T := TX9) (N := 15) hx hb hts inX9 hown hK.1 (MR.mk0 hR) 0 rfl rfl 0 (by decide) lk7 (fun _ h9 => h9) rfl dX9_fate_82 ?_
      refine lv_iload hx hb dX9_fate_85 (lv_at hl 4 rfl) ?_
      refine lv_aload_n hx hb dX9_fate_87 rfl (lv_at hl 0 rfl) ?_
      refine va_get (D := D) (ci := 9) (v := .ref (μ + 4)) (C := RX9) (T := TX9) (N := 15) hx hb hts inX9 hown hK.1 (MR.mk0 hR) 0 rfl rfl 5 (by decide) lk19 (fun _ h9 => h9) rfl dX9_fate_88 ?_
      refine lv_iload hx hb dX9_fate_91 (lv_at hl 4 rfl) ?_
      refine gm_iald hx hb hK.1 (MR.mk1 hR (c := 4) (by decide) bM_4) (vp_in_nI lt_3 (by decide)) dX9_fate_93 ?_
      rw [nI_clamp (n := k_4) (by omega)]
      refine gm_iast hx hb hK.1 hR injM hS (a := 1) (by decide) rfl (fun r => bM_1) (vp_in_nI lt_3 (by decide)) dX9_fate_94 (fun H locs hR hS => ?_)
      rw [nI_clamp (n := k_4) (by omega)] at hR
      obtain ⟨X1, eX1⟩ : ∃ Y : gM, Y = updM Z 1 k_4 (Z 4 k_4) := ⟨_, rfl⟩
      rw [← eX1] at hR
      try replace hok := hok X1 eX1
      refine lv_iinc (v := nI (k_4 + 1)) (lv' := [(4, .int (nI (k_4 + 1))), (0, .ref μ), (1, .int a1), (2, .int a2), (3, .int y_3)]) hx hb dX9_fate_95 hl (k := 4) rfl (nI_1 _) (by decide) rfl (fun ls hl => ?_)
      refine lv_goto (tgt := 73) hx hb dX9_fate_98 (by decide) ?_
      refine gm_q (Q2 := MQ below (gQi (lf_X9_fate_73 a1 a2 y_3 K n X1 (k_4 + 1)).1 (MR D cy μ (lf_X9_fate_73 a1 a2 y_3 K n X1 (k_4 + 1)).2) (MA μ)) args s 0 0 (MA μ)) (by simp only [lf_X9_fate_73, ↓if_neg c_1, ← eX1]) ?_
      exact ih X1 (k_4 + 1) (Nat.lt_of_lt_of_le lt_3 (by decide)) hok (by omega) _ _ _ hR hS (lv_sub hl [1, 2, 3, 4, 0] rfl)
set_option maxHeartbeats 4000000 in
set_option maxRecDepth 100000 in
theorem c_X9_fate (l : Launch) (D : va_G) (cy : Nat → ClassId) (μ : Nat) (X : gM) (a1 : Int32) (a2 : Int32)  (hok : ok_X9_fate X a1 a2) : Met l yX9_fate wsX9_fate ({ frames := 7, cells := 0, slots := 0, locals := 162 }) (gP [.ref μ, .int a1, .int a2] D cy (MR D cy μ X)) (gQi (p_X9_fate X a1 a2).1 (MR D cy μ (p_X9_fate X a1 a2).2) (MA μ)) 0 0 (MA μ) := by
  refine gm_met (cc := cX9_fate) (maxL := 5) (ret := (some .int)) [.ref μ, .int a1, .int a2] (by decide) rfl (Nat.le_of_ble_eq_true rfl) ?_
  intro p e s m args below meth c0 ls C hR hl
  obtain ⟨hx, hb, hr, hts, hown, hlocks, hml, hK⟩ := C
  have hl : lv_has ls 5 [(0, .ref μ), (1, .int a1), (2, .int a2)] := hl
  have hS : va_S (MA μ) s.heap s.heap [] := va_S.rf
  unfold ok_X9_fate at hok
  refine lv_aload_n hx hb dX9_fate_0 rfl (lv_at hl 0 rfl) ?_
  refine lv_iload_n hx hb dX9_fate_1 rfl (lv_at hl 1 rfl) ?_
  refine gm_ci (gm_call (As := [.int a1]) (rest := []) (ci := 9) (q := (RX9, TX9, 15)) ⟨hx, hb, hml, hown, hts⟩ hK (c_X9_isTicket l D cy μ X a1) (cwV 1 hts gX9_fate_X9_isTicket rfl rfl rfl (by decide +kernel) ⟨Nat.le_of_ble_eq_true rfl, Nat.le_of_ble_eq_true rfl⟩) (MR.mk0 hR) rfl hR rfl hl.1 rfl (Nat.le_of_ble_eq_true rfl) dX9_fate_2 (Nat.zero_le _) (Nat.zero_le _)) hS (fun _ h => h.elim) (fun H locs _ _ hfr hS => ?_)
  have hR := gRep.keep hR hfr (fun _ _ h => h)
  refine lv_if_ne (tgt := 10) hx hb dX9_fate_5 (by decide) (fun c_1 => ?_) (fun c_1 => ?_)
  · try rw [if_neg c_1] at hok
    refine lv_iload_n hx hb dX9_fate_10 rfl (lv_at hl 2 rfl) ?_
    refine lv_iconst (v := 0) hx hb dX9_fate_11 (by decide) ?_
    refine lv_iconst (v := 3) hx hb dX9_fate_12 (by decide) ?_
    refine gm_ci (gm_callS (As := [.int a2, .int 0, .int 3]) (rest := []) ⟨hx, hb, hml, hown, hts⟩ hK (c_X9_in l D cy a2 0 3) (va_cwS 3 hts gX9_fate_X9_in rfl rfl rfl (by decide +kernel) ⟨Nat.le_of_ble_eq_true rfl, Nat.le_of_ble_eq_true rfl⟩) trivial rfl hl.1 rfl (Nat.le_of_ble_eq_true rfl) dX9_fate_13 (Nat.zero_le _) (Nat.zero_le _)) hS (fun _ h => h.elim) (fun H locs _ _ hfr hS => ?_)
    have hR := gRep.keep hR hfr (fun _ _ h => h)
    refine lv_if_ne (tgt := 22) hx hb dX9_fate_16 (by decide) (fun c_2 => ?_) (fun c_2 => ?_)
    · try rw [if_neg c_2] at hok
      refine lv_aload_n hx hb dX9_fate_22 rfl (lv_at hl 0 rfl) ?_
      refine lv_iload_n hx hb dX9_fate_23 rfl (lv_at hl 1 rfl) ?_
      refine lv_bipush (v := 6) hx hb dX9_fate_24 (by decide) ?_
      obtain ⟨h_3, hok⟩ := hok
      refine gm_ci (gm_call (As := [.int a1, .int 6]) (rest := []) (ci := 9) (q := (RX9, TX9, 15)) ⟨hx, hb, hml, hown, hts⟩ hK (c_X9_of l D cy μ X a1 6 h_3) (cwV 2 hts gX9_fate_X9_of rfl rfl rfl (by decide +kernel) ⟨Nat.le_of_ble_eq_true rfl, Nat.le_of_ble_eq_true rfl⟩) (MR.mk0 hR) rfl hR rfl hl.1 rfl (Nat.le_of_ble_eq_true rfl) dX9_fate_26 (Nat.zero_le _) (Nat.zero_le _)) hS (fun _ h => h.elim) (fun H locs _ _ hfr hS => ?_)
      have hR := gRep.keep hR hfr (fun _ _ h => h)
      refine lv_iconst (v := 3) hx hb dX9_fate_29 (by decide) ?_
      refine lv_icmp_lt (tgt := 36) hx hb dX9_fate_30 (by decide) (fun c_4 => ?_) (fun c_4 => ?_)
      · try rw [if_pos c_4] at hok
        refine lv_iconst (v := 0) hx hb dX9_fate_36 (by decide) ?_
        refine lv_istore_n (lv' := [(3, .int 0), (0, .ref μ), (1, .int a1), (2, .int a2)]) hx hb dX9_fate_37 rfl hl (by decide) rfl (fun ls hl => ?_)
        refine gm_q (Q2 := MQ below (gQi (lf_X9_fate_38 a1 a2 (fun X1 k_3w5 =>
              let X2 := (p_X9_fateOf X1 a1 a2).2
              lf_X9_fate_73 a1 a2 ((p_X9_fateOf X1 a1 a2).1) (fun X3 k_4w7 =>
              ((p_X9_fateOf X1 a1 a2).1, X3)) 2147483648 X2 0) 2147483648 X 0).1 (MR D cy μ (lf_X9_fate_38 a1 a2 (fun X1 k_3w5 =>
              let X2 := (p_X9_fateOf X1 a1 a2).2
              lf_X9_fate_73 a1 a2 ((p_X9_fateOf X1 a1 a2).1) (fun X3 k_4w7 =>
              ((p_X9_fateOf X1 a1 a2).1, X3)) 2147483648 X2 0) 2147483648 X 0).2) (MA μ)) args s 0 0 (MA μ)) (by simp only [p_X9_fate, ↓if_neg c_1, ↓if_neg c_2, ↓if_pos c_4]) ?_
        refine lp_X9_fate_38 ⟨hx, hb, hr, hts, hown, hlocks, hml, hK⟩ μ a1 a2  _ _ (fun X1 k_3w5 hbk_3w5 hok H locs ls hR hS hl => ?_) 2147483648 X 0 (by decide) hok (by omega) _ _ _ hR hS (lv_sub hl [1, 2, 3, 0] rfl)
        refine lv_aload_n hx hb dX9_fate_63 rfl (lv_at hl 0 rfl) ?_
        refine lv_iload_n hx hb dX9_fate_64 rfl (lv_at hl 1 rfl) ?_
        refine lv_iload_n hx hb dX9_fate_65 rfl (lv_at hl 2 rfl) ?_
        obtain ⟨h_6, hok⟩ := hok
        refine gm_ci (gm_call (As := [.int a1, .int a2]) (rest := []) (ci := 9) (q := (RX9, TX9, 15)) ⟨hx, hb, hml, hown, hts⟩ hK (c_X9_fateOf l D cy μ X1 a1 a2 h_6) (cwV 2 hts gX9_fate_X9_fateOf rfl rfl rfl (by decide +kernel) ⟨Nat.le_of_ble_eq_true rfl, Nat.le_of_ble_eq_true rfl⟩) (MR.mk0 hR) rfl hR rfl hl.1 rfl (Nat.le_of_ble_eq_true rfl) dX9_fate_66 (Nat.zero_le _) (Nat.zero_le _)) hS (fun _ h => h) (fun H locs hR _ _ hS => ?_)
        obtain ⟨X2, eX2⟩ : ∃ Y : gM, Y = (p_X9_fateOf X1 a1 a2).2 := ⟨_, rfl⟩
        rw [← eX2] at hR
        try replace hok := hok X2 eX2
        refine lv_istore_n (lv' := [(3, .int ((p_X9_fateOf X1 a1 a2).1)), (0, .ref μ), (1, .int a1), (2, .int a2)]) hx hb dX9_fate_69 rfl hl (by decide) rfl (fun ls hl => ?_)
        refine lv_iconst (v := 0) hx hb dX9_fate_70 (by decide) ?_
        refine lv_istore (lv' := [(4, .int 0), (3, .int ((p_X9_fateOf X1 a1 a2).1)), (0, .ref μ), (1, .int a1), (2, .int a2)]) hx hb dX9_fate_71 hl (by decide) rfl (fun ls hl => ?_)
        refine gm_q (Q2 := MQ below (gQi (lf_X9_fate_73 a1 a2 ((p_X9_fateOf X1 a1 a2).1) (fun X3 k_4w7 =>
              ((p_X9_fateOf X1 a1 a2).1, X3)) 2147483648 X2 0).1 (MR D cy μ (lf_X9_fate_73 a1 a2 ((p_X9_fateOf X1 a1 a2).1) (fun X3 k_4w7 =>
              ((p_X9_fateOf X1 a1 a2).1, X3)) 2147483648 X2 0).2) (MA μ)) args s 0 0 (MA μ)) (by simp only [p_X9_fate, ↓if_neg c_1, ↓if_neg c_2, ↓if_pos c_4, ← eX2]) ?_
        refine lp_X9_fate_73 ⟨hx, hb, hr, hts, hown, hlocks, hml, hK⟩ μ a1 a2 ((p_X9_fateOf X1 a1 a2).1)  _ _ (fun X3 k_4w7 hbk_4w7 hok H locs ls hR hS hl => ?_) 2147483648 X2 0 (by decide) hok (by omega) _ _ _ hR hS (lv_sub hl [2, 3, 4, 1, 0] rfl)
        refine lv_iload_n hx hb dX9_fate_101 rfl (lv_at hl 3 rfl) ?_
        exact gm_iret hx hb hr hlocks hS (by (try simp only [p_X9_fate, ↓if_neg c_1, ↓if_neg c_2, ↓if_pos c_4, ← eX2]); (try rfl)) (by (try simp only [p_X9_fate, ↓if_neg c_1, ↓if_neg c_2, ↓if_pos c_4, ← eX2]); exact hR) dX9_fate_102
      · try rw [if_neg c_4] at hok
        refine lv_bipush (v := (-4)) hx hb dX9_fate_33 (by decide) ?_
        exact gm_iret hx hb hr hlocks hS (by (try simp only [p_X9_fate, ↓if_neg c_1, ↓if_neg c_2, ↓if_neg c_4]); (try rfl)) (by (try simp only [p_X9_fate, ↓if_neg c_1, ↓if_neg c_2, ↓if_neg c_4]); exact hR) dX9_fate_35
    · try rw [if_pos c_2] at hok
      refine lv_bipush (v := (-2)) hx hb dX9_fate_19 (by decide) ?_
      exact gm_iret hx hb hr hlocks hS (by (try simp only [p_X9_fate, ↓if_neg c_1, ↓if_pos c_2]); (try rfl)) (by (try simp only [p_X9_fate, ↓if_neg c_1, ↓if_pos c_2]); exact hR) dX9_fate_21
  · try rw [if_pos c_1] at hok
    refine lv_iconst (v := (-1)) hx hb dX9_fate_8 (by decide) ?_
    exact gm_iret hx hb hr hlocks hS (by (try simp only [p_X9_fate, ↓if_pos c_1]); (try rfl)) (by (try simp only [p_X9_fate, ↓if_pos c_1]); exact hR) dX9_fate_9
def p_X9_beginAlone (X : gM) (a1 : Int32) : gM :=
  let X1 := updM X 0 13 (f_X9_ofLine X a1 1)
  let X2 := updM X1 0 14 (f_X9_ofLine X1 a1 2)
  X2
def ok_X9_beginAlone (X : gM) (a1 : Int32) : Prop :=
  (ok_X9_ofLine X a1 1) ∧
  ∀ X1 : gM, X1 = updM X 0 13 (f_X9_ofLine X a1 1) →
  (ok_X9_ofLine X1 a1 2) ∧
  True
set_option maxHeartbeats 4000000 in
set_option maxRecDepth 100000 in
theorem c_X9_beginAlone (l : Launch) (D : va_G) (cy : Nat → ClassId) (μ : Nat) (X : gM) (a1 : Int32)  (hok : ok_X9_beginAlone X a1) : Met l yX9_beginAlone wsX9_beginAlone ({ frames := 1, cells := 0, slots := 0, locals := 22 }) (gP [.ref μ, .int a1] D cy (MR D cy μ X)) (gQv (MR D cy μ (p_X9_beginAlone X a1)) (MA μ)) 0 0 (MA μ) := by
  refine gm_met (cc := cX9_beginAlone) (maxL := 2) (ret := none) [.ref μ, .int a1] (by decide) rfl (Nat.le_of_ble_eq_true rfl) ?_
  intro p e s m args below meth c0 ls C hR hl
  obtain ⟨hx, hb, hr, hts, hown, hlocks, hml, hK⟩ := C
  have hl : lv_has ls 2 [(0, .ref μ), (1, .int a1)] := hl
  have hS : va_S (MA μ) s.heap s.heap [] := va_S.rf
  have lk194 := hts (.fieldLink RX9 194 "MercuryLineModel" "phase" "I") (by decide +kernel)
  have inX9 : ∀ w ∈ u_ws RX9 TX9 15, w ∈ wsX9_beginAlone := by decide +kernel
  have lk197 := hts (.fieldLink RX9 197 "MercuryLineModel" "drift" "I") (by decide +kernel)
  unfold ok_X9_beginAlone at hok
  refine lv_aload_n hx hb dX9_beginAlone_0 rfl (lv_at hl 0 rfl) ?_
  refine lv_aload_n hx hb dX9_beginAlone_1 rfl (lv_at hl 0 rfl) ?_
  refine lv_iload_n hx hb dX9_beginAlone_2 rfl (lv_at hl 1 rfl) ?_
  refine lv_iconst (v := 1) hx hb dX9_beginAlone_3 (by decide) ?_
  obtain ⟨h_1, hok⟩ := hok
  refine gm_ci (gm_call (As := [.int a1, .int 1]) (rest := [.ref μ]) (ci := 9) (q := (RX9, TX9, 15)) ⟨hx, hb, hml, hown, hts⟩ hK (c_X9_ofLine l D cy μ X a1 1 h_1) (cwV 2 hts gX9_beginAlone_X9_ofLine rfl rfl rfl (by decide +kernel) ⟨Nat.le_of_ble_eq_true rfl, Nat.le_of_ble_eq_true rfl⟩) (MR.mk0 hR) rfl hR rfl hl.1 rfl (Nat.le_of_ble_eq_true rfl) dX9_beginAlone_4 (Nat.zero_le _) (Nat.zero_le _)) hS (fun _ h => h.elim) (fun H locs _ _ hfr hS => ?_)
  have hR := gRep.keep hR hfr (fun _ _ h => h)
  refine gm_put (v := .int (f_X9_ofLine X a1 1)) (ty := .int) (ci := 9) (C := RX9) (T := TX9) (N := 15) hx hb hts inX9 tyX9 tyX9_ok nmX9 hown hK.1 hR injM hS (a := 0) (by decide) rfl bM_0 rfl 13 (by decide) lk194 (fun _ h9 => h9) rfl (by decide +kernel) rfl rfl (Nat.le_of_ble_eq_true rfl) (j := 13) (x := f_X9_ofLine X a1 1) (by rw [bM_0]; rfl) dX9_beginAlone_7 (fun H locs hR hS => ?_)
  obtain ⟨X1, eX1⟩ : ∃ Y : gM, Y = updM X 0 13 (f_X9_ofLine X a1 1) := ⟨_, rfl⟩
  rw [← eX1] at hR
  try replace hok := hok X1 eX1
  refine lv_aload_n hx hb dX9_beginAlone_10 rfl (lv_at hl 0 rfl) ?_
  refine lv_aload_n hx hb dX9_beginAlone_11 rfl (lv_at hl 0 rfl) ?_
  refine lv_iload_n hx hb dX9_beginAlone_12 rfl (lv_at hl 1 rfl) ?_
  refine lv_iconst (v := 2) hx hb dX9_beginAlone_13 (by decide) ?_
  obtain ⟨h_2, hok⟩ := hok
  refine gm_ci (gm_call (As := [.int a1, .int 2]) (rest := [.ref μ]) (ci := 9) (q := (RX9, TX9, 15)) ⟨hx, hb, hml, hown, hts⟩ hK (c_X9_ofLine l D cy μ X1 a1 2 h_2) (cwV 2 hts gX9_beginAlone_X9_ofLine rfl rfl rfl (by decide +kernel) ⟨Nat.le_of_ble_eq_true rfl, Nat.le_of_ble_eq_true rfl⟩) (MR.mk0 hR) rfl hR rfl hl.1 rfl (Nat.le_of_ble_eq_true rfl) dX9_beginAlone_14 (Nat.zero_le _) (Nat.zero_le _)) hS (fun _ h => h.elim) (fun H locs _ _ hfr hS => ?_)
  have hR := gRep.keep hR hfr (fun _ _ h => h)
  refine gm_put (v := .int (f_X9_ofLine X1 a1 2)) (ty := .int) (ci := 9) (C := RX9) (T := TX9) (N := 15) hx hb hts inX9 tyX9 tyX9_ok nmX9 hown hK.1 hR injM hS (a := 0) (by decide) rfl bM_0 rfl 14 (by decide) lk197 (fun _ h9 => h9) rfl (by decide +kernel) rfl rfl (Nat.le_of_ble_eq_true rfl) (j := 14) (x := f_X9_ofLine X1 a1 2) (by rw [bM_0]; rfl) dX9_beginAlone_17 (fun H locs hR hS => ?_)
  obtain ⟨X2, eX2⟩ : ∃ Y : gM, Y = updM X1 0 14 (f_X9_ofLine X1 a1 2) := ⟨_, rfl⟩
  rw [← eX2] at hR
  try replace hok := hok X2 eX2
  exact gm_vret hx hb hr hlocks hS (by (try simp only [p_X9_beginAlone, ← eX1, ← eX2]); exact hR) dX9_beginAlone_20
def p_X9_goAlone (X : gM) (a1 : Int32) : gM :=
  let X1 := updM X 0 14 ((X 0 14) + (f_X9_ofLine X a1 3))
  if X1 0 14 < 10 then
    if (-10) < X1 0 14 then
      let X2 := updM X1 0 14 ((X1 0 14) - 0)
      let X3 := updM X2 0 13 (((X2 0 13) + 1) - ((X2 0 13) + 1) / (f_X9_ofLine X2 a1 0) * (f_X9_ofLine X2 a1 0))
      X3
    else
      let X4 := updM X1 0 14 ((X1 0 14) - (-10))
      let X5 := updM X4 0 13 (((X4 0 13) + 2) - ((X4 0 13) + 2) / (f_X9_ofLine X4 a1 0) * (f_X9_ofLine X4 a1 0))
      X5
  else
    let X6 := updM X1 0 14 ((X1 0 14) - 10)
    let X7 := updM X6 0 13 (((X6 0 13) + 0) - ((X6 0 13) + 0) / (f_X9_ofLine X6 a1 0) * (f_X9_ofLine X6 a1 0))
    X7
def ok_X9_goAlone (X : gM) (a1 : Int32) : Prop :=
  (ok_X9_ofLine X a1 3) ∧
  ∀ X1 : gM, X1 = updM X 0 14 ((X 0 14) + (f_X9_ofLine X a1 3)) →
  (if X1 0 14 < 10 then
    (if (-10) < X1 0 14 then
      ∀ X2 : gM, X2 = updM X1 0 14 ((X1 0 14) - 0) →
      (ok_X9_ofLine X2 a1 0) ∧
      (¬ (f_X9_ofLine X2 a1 0) = 0) ∧
      True
    else
      ∀ X4 : gM, X4 = updM X1 0 14 ((X1 0 14) - (-10)) →
      (ok_X9_ofLine X4 a1 0) ∧
      (¬ (f_X9_ofLine X4 a1 0) = 0) ∧
      True)
  else
    ∀ X6 : gM, X6 = updM X1 0 14 ((X1 0 14) - 10) →
    (ok_X9_ofLine X6 a1 0) ∧
    (¬ (f_X9_ofLine X6 a1 0) = 0) ∧
    True)
set_option maxHeartbeats 4000000 in
set_option maxRecDepth 100000 in
theorem c_X9_goAlone (l : Launch) (D : va_G) (cy : Nat → ClassId) (μ : Nat) (X : gM) (a1 : Int32)  (hok : ok_X9_goAlone X a1) : Met l yX9_goAlone wsX9_goAlone ({ frames := 1, cells := 0, slots := 0, locals := 22 }) (gP [.ref μ, .int a1] D cy (MR D cy μ X)) (gQv (MR D cy μ (p_X9_goAlone X a1)) (MA μ)) 0 0 (MA μ) := by
  refine gm_met (cc := cX9_goAlone) (maxL := 3) (ret := none) [.ref μ, .int a1] (by decide) rfl (Nat.le_of_ble_eq_true rfl) ?_
  intro p e s m args below meth c0 ls C hR hl
  obtain ⟨hx, hb, hr, hts, hown, hlocks, hml, hK⟩ := C
  have hl : lv_has ls 3 [(0, .ref μ), (1, .int a1)] := hl
  have hS : va_S (MA μ) s.heap s.heap [] := va_S.rf
  have lk197 := hts (.fieldLink RX9 197 "MercuryLineModel" "drift" "I") (by decide +kernel)
  have inX9 : ∀ w ∈ u_ws RX9 TX9 15, w ∈ wsX9_goAlone := by decide +kernel
  have lk194 := hts (.fieldLink RX9 194 "MercuryLineModel" "phase" "I") (by decide +kernel)
  unfold ok_X9_goAlone at hok
  refine lv_aload_n hx hb dX9_goAlone_0 rfl (lv_at hl 0 rfl) ?_
  refine lv_dup hx hb dX9_goAlone_1 rfl ?_
  refine va_get (D := D) (ci := 9) (v := .int (X 0 14)) (C := RX9) (T := TX9) (N := 15) hx hb hts inX9 hown hK.1 (MR.mk0 hR) 0 rfl rfl 14 (by decide) lk197 (fun _ h9 => h9) rfl dX9_goAlone_2 ?_
  refine lv_aload_n hx hb dX9_goAlone_5 rfl (lv_at hl 0 rfl) ?_
  refine lv_iload_n hx hb dX9_goAlone_6 rfl (lv_at hl 1 rfl) ?_
  refine lv_iconst (v := 3) hx hb dX9_goAlone_7 (by decide) ?_
  obtain ⟨h_1, hok⟩ := hok
  refine gm_ci (gm_call (As := [.int a1, .int 3]) (rest := [.int (X 0 14), .ref μ]) (ci := 9) (q := (RX9, TX9, 15)) ⟨hx, hb, hml, hown, hts⟩ hK (c_X9_ofLine l D cy μ X a1 3 h_1) (cwV 2 hts gX9_goAlone_X9_ofLine rfl rfl rfl (by decide +kernel) ⟨Nat.le_of_ble_eq_true rfl, Nat.le_of_ble_eq_true rfl⟩) (MR.mk0 hR) rfl hR rfl hl.1 rfl (Nat.le_of_ble_eq_true rfl) dX9_goAlone_8 (Nat.zero_le _) (Nat.zero_le _)) hS (fun _ h => h.elim) (fun H locs _ _ hfr hS => ?_)
  have hR := gRep.keep hR hfr (fun _ _ h => h)
  refine lv_iadd hx hb dX9_goAlone_11 ?_
  refine gm_put (v := .int ((X 0 14) + (f_X9_ofLine X a1 3))) (ty := .int) (ci := 9) (C := RX9) (T := TX9) (N := 15) hx hb hts inX9 tyX9 tyX9_ok nmX9 hown hK.1 hR injM hS (a := 0) (by decide) rfl bM_0 rfl 14 (by decide) lk197 (fun _ h9 => h9) rfl (by decide +kernel) rfl rfl (Nat.le_of_ble_eq_true rfl) (j := 14) (x := (X 0 14) + (f_X9_ofLine X a1 3)) (by rw [bM_0]; rfl) dX9_goAlone_12 (fun H locs hR hS => ?_)
  obtain ⟨X1, eX1⟩ : ∃ Y : gM, Y = updM X 0 14 ((X 0 14) + (f_X9_ofLine X a1 3)) := ⟨_, rfl⟩
  rw [← eX1] at hR
  try replace hok := hok X1 eX1
  refine lv_aload_n hx hb dX9_goAlone_15 rfl (lv_at hl 0 rfl) ?_
  refine va_get (D := D) (ci := 9) (v := .int (X1 0 14)) (C := RX9) (T := TX9) (N := 15) hx hb hts inX9 hown hK.1 (MR.mk0 hR) 0 rfl rfl 14 (by decide) lk197 (fun _ h9 => h9) rfl dX9_goAlone_16 ?_
  refine lv_bipush (v := 10) hx hb dX9_goAlone_19 (by decide) ?_
  refine lv_icmp_lt (tgt := 28) hx hb dX9_goAlone_21 (by decide) (fun c_2 => ?_) (fun c_2 => ?_)
  · try rw [if_pos c_2] at hok
    refine lv_aload_n hx hb dX9_goAlone_28 rfl (lv_at hl 0 rfl) ?_
    refine va_get (D := D) (ci := 9) (v := .int (X1 0 14)) (C := RX9) (T := TX9) (N := 15) hx hb hts inX9 hown hK.1 (MR.mk0 hR) 0 rfl rfl 14 (by decide) lk197 (fun _ h9 => h9) rfl dX9_goAlone_29 ?_
    refine lv_bipush (v := (-10)) hx hb dX9_goAlone_32 (by decide) ?_
    refine lv_icmp_gt (tgt := 41) hx hb dX9_goAlone_34 (by decide) (fun c_3 => ?_) (fun c_3 => ?_)
    · try rw [if_pos c_3] at hok
      refine lv_iconst (v := 1) hx hb dX9_goAlone_41 (by decide) ?_
      refine lv_istore_n (lv' := [(2, .int 1), (0, .ref μ), (1, .int a1)]) hx hb dX9_goAlone_42 rfl hl (by decide) rfl (fun ls hl => ?_)
      refine lv_aload_n hx hb dX9_goAlone_43 rfl (lv_at hl 1 rfl) ?_
      refine lv_dup hx hb dX9_goAlone_44 rfl ?_
      refine va_get (D := D) (ci := 9) (v := .int (X1 0 14)) (C := RX9) (T := TX9) (N := 15) hx hb hts inX9 hown hK.1 (MR.mk0 hR) 0 rfl rfl 14 (by decide) lk197 (fun _ h9 => h9) rfl dX9_goAlone_45 ?_
      refine lv_iload_n hx hb dX9_goAlone_48 rfl (lv_at hl 0 rfl) ?_
      refine lv_if_ne (tgt := 57) hx hb dX9_goAlone_49 (by decide) (fun c_4 => ?_) (fun c_4 => ?_)
      · refine lv_iload_n hx hb dX9_goAlone_57 rfl (lv_at hl 0 rfl) ?_
        refine lv_iconst (v := 2) hx hb dX9_goAlone_58 (by decide) ?_
        refine lv_icmp_ne (tgt := 67) hx hb dX9_goAlone_59 (by decide) (fun c_5 => ?_) (fun c_5 => ?_)
        · refine lv_iconst (v := 0) hx hb dX9_goAlone_67 (by decide) ?_
          refine lv_isub hx hb dX9_goAlone_68 ?_
          refine gm_put (v := .int ((X1 0 14) - 0)) (ty := .int) (ci := 9) (C := RX9) (T := TX9) (N := 15) hx hb hts inX9 tyX9 tyX9_ok nmX9 hown hK.1 hR injM hS (a := 0) (by decide) rfl bM_0 rfl 14 (by decide) lk197 (fun _ h9 => h9) rfl (by decide +kernel) rfl rfl (Nat.le_of_ble_eq_true rfl) (j := 14) (x := (X1 0 14) - 0) (by rw [bM_0]; rfl) dX9_goAlone_69 (fun H locs hR hS => ?_)
          obtain ⟨X2, eX2⟩ : ∃ Y : gM, Y = updM X1 0 14 ((X1 0 14) - 0) := ⟨_, rfl⟩
          rw [← eX2] at hR
          try replace hok := hok X2 eX2
          refine lv_aload_n hx hb dX9_goAlone_72 rfl (lv_at hl 1 rfl) ?_
          refine lv_aload_n hx hb dX9_goAlone_73 rfl (lv_at hl 1 rfl) ?_
          refine va_get (D := D) (ci := 9) (v := .int (X2 0 13)) (C := RX9) (T := TX9) (N := 15) hx hb hts inX9 hown hK.1 (MR.mk0 hR) 0 rfl rfl 13 (by decide) lk194 (fun _ h9 => h9) rfl dX9_goAlone_74 ?_
          refine lv_iload_n hx hb dX9_goAlone_77 rfl (lv_at hl 0 rfl) ?_
          refine lv_iadd hx hb dX9_goAlone_78 ?_
          refine lv_aload_n hx hb dX9_goAlone_79 rfl (lv_at hl 1 rfl) ?_
          refine lv_iload_n hx hb dX9_goAlone_80 rfl (lv_at hl 2 rfl) ?_
          refine lv_iconst (v := 0) hx hb dX9_goAlone_81 (by decide) ?_
          obtain ⟨h_6, hok⟩ := hok
          refine gm_ci (gm_call (As := [.int a1, .int 0]) (rest := [.int ((X2 0 13) + 1), .ref μ]) (ci := 9) (q := (RX9, TX9, 15)) ⟨hx, hb, hml, hown, hts⟩ hK (c_X9_ofLine l D cy μ X2 a1 0 h_6) (cwV 2 hts gX9_goAlone_X9_ofLine rfl rfl rfl (by decide +kernel) ⟨Nat.le_of_ble_eq_true rfl, Nat.le_of_ble_eq_true rfl⟩) (MR.mk0 hR) rfl hR rfl hl.1 rfl (Nat.le_of_ble_eq_true rfl) dX9_goAlone_82 (Nat.zero_le _) (Nat.zero_le _)) hS (fun _ h => h.elim) (fun H locs _ _ hfr hS => ?_)
          have hR := gRep.keep hR hfr (fun _ _ h => h)
          obtain ⟨h_7, hok⟩ := hok
          refine lv_irem hx hb dX9_goAlone_85 h_7 ?_
          refine gm_put (v := .int (((X2 0 13) + 1) - ((X2 0 13) + 1) / (f_X9_ofLine X2 a1 0) * (f_X9_ofLine X2 a1 0))) (ty := .int) (ci := 9) (C := RX9) (T := TX9) (N := 15) hx hb hts inX9 tyX9 tyX9_ok nmX9 hown hK.1 hR injM hS (a := 0) (by decide) rfl bM_0 rfl 13 (by decide) lk194 (fun _ h9 => h9) rfl (by decide +kernel) rfl rfl (Nat.le_of_ble_eq_true rfl) (j := 13) (x := ((X2 0 13) + 1) - ((X2 0 13) + 1) / (f_X9_ofLine X2 a1 0) * (f_X9_ofLine X2 a1 0)) (by rw [bM_0]; rfl) dX9_goAlone_86 (fun H locs hR hS => ?_)
          obtain ⟨X3, eX3⟩ : ∃ Y : gM, Y = updM X2 0 13 (((X2 0 13) + 1) - ((X2 0 13) + 1) / (f_X9_ofLine X2 a1 0) * (f_X9_ofLine X2 a1 0)) := ⟨_, rfl⟩
          rw [← eX3] at hR
          try replace hok := hok X3 eX3
          exact gm_vret hx hb hr hlocks hS (by (try simp only [p_X9_goAlone, ↓if_pos c_2, ↓if_pos c_3, ← eX1, ← eX2, ← eX3]); exact hR) dX9_goAlone_89
        · exact absurd c_5 (by decide)
      · exact absurd c_4 (by decide)
    · try rw [if_neg c_3] at hok
      refine lv_iconst (v := 2) hx hb dX9_goAlone_37 (by decide) ?_
      refine lv_goto (tgt := 42) hx hb dX9_goAlone_38 (by decide) ?_
      refine lv_istore_n (lv' := [(2, .int 2), (0, .ref μ), (1, .int a1)]) hx hb dX9_goAlone_42 rfl hl (by decide) rfl (fun ls hl => ?_)
      refine lv_aload_n hx hb dX9_goAlone_43 rfl (lv_at hl 1 rfl) ?_
      refine lv_dup hx hb dX9_goAlone_44 rfl ?_
      refine va_get (D := D) (ci := 9) (v := .int (X1 0 14)) (C := RX9) (T := TX9) (N := 15) hx hb hts inX9 hown hK.1 (MR.mk0 hR) 0 rfl rfl 14 (by decide) lk197 (fun _ h9 => h9) rfl dX9_goAlone_45 ?_
      refine lv_iload_n hx hb dX9_goAlone_48 rfl (lv_at hl 0 rfl) ?_
      refine lv_if_ne (tgt := 57) hx hb dX9_goAlone_49 (by decide) (fun c_8 => ?_) (fun c_8 => ?_)
      · refine lv_iload_n hx hb dX9_goAlone_57 rfl (lv_at hl 0 rfl) ?_
        refine lv_iconst (v := 2) hx hb dX9_goAlone_58 (by decide) ?_
        refine lv_icmp_ne (tgt := 67) hx hb dX9_goAlone_59 (by decide) (fun c_9 => ?_) (fun c_9 => ?_)
        · exact absurd c_9 (by decide)
        · refine lv_bipush (v := (-10)) hx hb dX9_goAlone_62 (by decide) ?_
          refine lv_goto (tgt := 68) hx hb dX9_goAlone_64 (by decide) ?_
          refine lv_isub hx hb dX9_goAlone_68 ?_
          refine gm_put (v := .int ((X1 0 14) - (-10))) (ty := .int) (ci := 9) (C := RX9) (T := TX9) (N := 15) hx hb hts inX9 tyX9 tyX9_ok nmX9 hown hK.1 hR injM hS (a := 0) (by decide) rfl bM_0 rfl 14 (by decide) lk197 (fun _ h9 => h9) rfl (by decide +kernel) rfl rfl (Nat.le_of_ble_eq_true rfl) (j := 14) (x := (X1 0 14) - (-10)) (by rw [bM_0]; rfl) dX9_goAlone_69 (fun H locs hR hS => ?_)
          obtain ⟨X4, eX4⟩ : ∃ Y : gM, Y = updM X1 0 14 ((X1 0 14) - (-10)) := ⟨_, rfl⟩
          rw [← eX4] at hR
          try replace hok := hok X4 eX4
          refine lv_aload_n hx hb dX9_goAlone_72 rfl (lv_at hl 1 rfl) ?_
          refine lv_aload_n hx hb dX9_goAlone_73 rfl (lv_at hl 1 rfl) ?_
          refine va_get (D := D) (ci := 9) (v := .int (X4 0 13)) (C := RX9) (T := TX9) (N := 15) hx hb hts inX9 hown hK.1 (MR.mk0 hR) 0 rfl rfl 13 (by decide) lk194 (fun _ h9 => h9) rfl dX9_goAlone_74 ?_
          refine lv_iload_n hx hb dX9_goAlone_77 rfl (lv_at hl 0 rfl) ?_
          refine lv_iadd hx hb dX9_goAlone_78 ?_
          refine lv_aload_n hx hb dX9_goAlone_79 rfl (lv_at hl 1 rfl) ?_
          refine lv_iload_n hx hb dX9_goAlone_80 rfl (lv_at hl 2 rfl) ?_
          refine lv_iconst (v := 0) hx hb dX9_goAlone_81 (by decide) ?_
          obtain ⟨h_10, hok⟩ := hok
          refine gm_ci (gm_call (As := [.int a1, .int 0]) (rest := [.int ((X4 0 13) + 2), .ref μ]) (ci := 9) (q := (RX9, TX9, 15)) ⟨hx, hb, hml, hown, hts⟩ hK (c_X9_ofLine l D cy μ X4 a1 0 h_10) (cwV 2 hts gX9_goAlone_X9_ofLine rfl rfl rfl (by decide +kernel) ⟨Nat.le_of_ble_eq_true rfl, Nat.le_of_ble_eq_true rfl⟩) (MR.mk0 hR) rfl hR rfl hl.1 rfl (Nat.le_of_ble_eq_true rfl) dX9_goAlone_82 (Nat.zero_le _) (Nat.zero_le _)) hS (fun _ h => h.elim) (fun H locs _ _ hfr hS => ?_)
          have hR := gRep.keep hR hfr (fun _ _ h => h)
          obtain ⟨h_11, hok⟩ := hok
          refine lv_irem hx hb dX9_goAlone_85 h_11 ?_
          refine gm_put (v := .int (((X4 0 13) + 2) - ((X4 0 13) + 2) / (f_X9_ofLine X4 a1 0) * (f_X9_ofLine X4 a1 0))) (ty := .int) (ci := 9) (C := RX9) (T := TX9) (N := 15) hx hb hts inX9 tyX9 tyX9_ok nmX9 hown hK.1 hR injM hS (a := 0) (by decide) rfl bM_0 rfl 13 (by decide) lk194 (fun _ h9 => h9) rfl (by decide +kernel) rfl rfl (Nat.le_of_ble_eq_true rfl) (j := 13) (x := ((X4 0 13) + 2) - ((X4 0 13) + 2) / (f_X9_ofLine X4 a1 0) * (f_X9_ofLine X4 a1 0)) (by rw [bM_0]; rfl) dX9_goAlone_86 (fun H locs hR hS => ?_)
          obtain ⟨X5, eX5⟩ : ∃ Y : gM, Y = updM X4 0 13 (((X4 0 13) + 2) - ((X4 0 13) + 2) / (f_X9_ofLine X4 a1 0) * (f_X9_ofLine X4 a1 0)) := ⟨_, rfl⟩
          rw [← eX5] at hR
          try replace hok := hok X5 eX5
          exact gm_vret hx hb hr hlocks hS (by (try simp only [p_X9_goAlone, ↓if_pos c_2, ↓if_neg c_3, ← eX1, ← eX4, ← eX5]); exact hR) dX9_goAlone_89
      · exact absurd c_8 (by decide)
  · try rw [if_neg c_2] at hok
    refine lv_iconst (v := 0) hx hb dX9_goAlone_24 (by decide) ?_
    refine lv_goto (tgt := 42) hx hb dX9_goAlone_25 (by decide) ?_
    refine lv_istore_n (lv' := [(2, .int 0), (0, .ref μ), (1, .int a1)]) hx hb dX9_goAlone_42 rfl hl (by decide) rfl (fun ls hl => ?_)
    refine lv_aload_n hx hb dX9_goAlone_43 rfl (lv_at hl 1 rfl) ?_
    refine lv_dup hx hb dX9_goAlone_44 rfl ?_
    refine va_get (D := D) (ci := 9) (v := .int (X1 0 14)) (C := RX9) (T := TX9) (N := 15) hx hb hts inX9 hown hK.1 (MR.mk0 hR) 0 rfl rfl 14 (by decide) lk197 (fun _ h9 => h9) rfl dX9_goAlone_45 ?_
    refine lv_iload_n hx hb dX9_goAlone_48 rfl (lv_at hl 0 rfl) ?_
    refine lv_if_ne (tgt := 57) hx hb dX9_goAlone_49 (by decide) (fun c_12 => ?_) (fun c_12 => ?_)
    · exact absurd c_12 (by decide)
    · refine lv_bipush (v := 10) hx hb dX9_goAlone_52 (by decide) ?_
      refine lv_goto (tgt := 68) hx hb dX9_goAlone_54 (by decide) ?_
      refine lv_isub hx hb dX9_goAlone_68 ?_
      refine gm_put (v := .int ((X1 0 14) - 10)) (ty := .int) (ci := 9) (C := RX9) (T := TX9) (N := 15) hx hb hts inX9 tyX9 tyX9_ok nmX9 hown hK.1 hR injM hS (a := 0) (by decide) rfl bM_0 rfl 14 (by decide) lk197 (fun _ h9 => h9) rfl (by decide +kernel) rfl rfl (Nat.le_of_ble_eq_true rfl) (j := 14) (x := (X1 0 14) - 10) (by rw [bM_0]; rfl) dX9_goAlone_69 (fun H locs hR hS => ?_)
      obtain ⟨X6, eX6⟩ : ∃ Y : gM, Y = updM X1 0 14 ((X1 0 14) - 10) := ⟨_, rfl⟩
      rw [← eX6] at hR
      try replace hok := hok X6 eX6
      refine lv_aload_n hx hb dX9_goAlone_72 rfl (lv_at hl 1 rfl) ?_
      refine lv_aload_n hx hb dX9_goAlone_73 rfl (lv_at hl 1 rfl) ?_
      refine va_get (D := D) (ci := 9) (v := .int (X6 0 13)) (C := RX9) (T := TX9) (N := 15) hx hb hts inX9 hown hK.1 (MR.mk0 hR) 0 rfl rfl 13 (by decide) lk194 (fun _ h9 => h9) rfl dX9_goAlone_74 ?_
      refine lv_iload_n hx hb dX9_goAlone_77 rfl (lv_at hl 0 rfl) ?_
      refine lv_iadd hx hb dX9_goAlone_78 ?_
      refine lv_aload_n hx hb dX9_goAlone_79 rfl (lv_at hl 1 rfl) ?_
      refine lv_iload_n hx hb dX9_goAlone_80 rfl (lv_at hl 2 rfl) ?_
      refine lv_iconst (v := 0) hx hb dX9_goAlone_81 (by decide) ?_
      obtain ⟨h_13, hok⟩ := hok
      refine gm_ci (gm_call (As := [.int a1, .int 0]) (rest := [.int ((X6 0 13) + 0), .ref μ]) (ci := 9) (q := (RX9, TX9, 15)) ⟨hx, hb, hml, hown, hts⟩ hK (c_X9_ofLine l D cy μ X6 a1 0 h_13) (cwV 2 hts gX9_goAlone_X9_ofLine rfl rfl rfl (by decide +kernel) ⟨Nat.le_of_ble_eq_true rfl, Nat.le_of_ble_eq_true rfl⟩) (MR.mk0 hR) rfl hR rfl hl.1 rfl (Nat.le_of_ble_eq_true rfl) dX9_goAlone_82 (Nat.zero_le _) (Nat.zero_le _)) hS (fun _ h => h.elim) (fun H locs _ _ hfr hS => ?_)
      have hR := gRep.keep hR hfr (fun _ _ h => h)
      obtain ⟨h_14, hok⟩ := hok
      refine lv_irem hx hb dX9_goAlone_85 h_14 ?_
      refine gm_put (v := .int (((X6 0 13) + 0) - ((X6 0 13) + 0) / (f_X9_ofLine X6 a1 0) * (f_X9_ofLine X6 a1 0))) (ty := .int) (ci := 9) (C := RX9) (T := TX9) (N := 15) hx hb hts inX9 tyX9 tyX9_ok nmX9 hown hK.1 hR injM hS (a := 0) (by decide) rfl bM_0 rfl 13 (by decide) lk194 (fun _ h9 => h9) rfl (by decide +kernel) rfl rfl (Nat.le_of_ble_eq_true rfl) (j := 13) (x := ((X6 0 13) + 0) - ((X6 0 13) + 0) / (f_X9_ofLine X6 a1 0) * (f_X9_ofLine X6 a1 0)) (by rw [bM_0]; rfl) dX9_goAlone_86 (fun H locs hR hS => ?_)
      obtain ⟨X7, eX7⟩ : ∃ Y : gM, Y = updM X6 0 13 (((X6 0 13) + 0) - ((X6 0 13) + 0) / (f_X9_ofLine X6 a1 0) * (f_X9_ofLine X6 a1 0)) := ⟨_, rfl⟩
      rw [← eX7] at hR
      try replace hok := hok X7 eX7
      exact gm_vret hx hb hr hlocks hS (by (try simp only [p_X9_goAlone, ↓if_neg c_2, ← eX1, ← eX6, ← eX7]); exact hR) dX9_goAlone_89
def f_X9_slotAlone (X : gM) (a1 : Int32) : Int32 :=
  ((X 0 13) + (X 1 (((f_X9_stationAt a1) + 0).toNatClampNeg))) - ((X 0 13) + (X 1 (((f_X9_stationAt a1) + 0).toNatClampNeg))) / (f_X9_ofLine X (a1 / 10) 0) * (f_X9_ofLine X (a1 / 10) 0)
def ok_X9_slotAlone (X : gM) (a1 : Int32) : Prop :=
  (vp_in ((f_X9_stationAt a1) + 0) 974) ∧
  (ok_X9_ofLine X (a1 / 10) 0) ∧
  (¬ (f_X9_ofLine X (a1 / 10) 0) = 0) ∧
  True
set_option maxHeartbeats 4000000 in
set_option maxRecDepth 100000 in
theorem c_X9_slotAlone (l : Launch) (D : va_G) (cy : Nat → ClassId) (μ : Nat) (X : gM) (a1 : Int32)  (hok : ok_X9_slotAlone X a1) : Met l yX9_slotAlone wsX9_slotAlone ({ frames := 1, cells := 0, slots := 0, locals := 22 }) (gP [.ref μ, .int a1] D cy (MR D cy μ X)) (gQi (f_X9_slotAlone X a1) (fun _ => True) gNo) 0 0 gNo := by
  refine gm_met (cc := cX9_slotAlone) (maxL := 2) (ret := (some .int)) [.ref μ, .int a1] (by decide) rfl (Nat.le_of_ble_eq_true rfl) ?_
  intro p e s m args below meth c0 ls C hR hl
  obtain ⟨hx, hb, hr, hts, hown, hlocks, hml, hK⟩ := C
  have hl : lv_has ls 2 [(0, .ref μ), (1, .int a1)] := hl
  have hS : va_S gNo s.heap s.heap [] := va_S.rf
  have lk194 := hts (.fieldLink RX9 194 "MercuryLineModel" "phase" "I") (by decide +kernel)
  have inX9 : ∀ w ∈ u_ws RX9 TX9 15, w ∈ wsX9_slotAlone := by decide +kernel
  have lk7 := hts (.fieldLink RX9 7 "MercuryLineModel" "s" "[I") (by decide +kernel)
  unfold ok_X9_slotAlone at hok
  refine lv_aload_n hx hb dX9_slotAlone_0 rfl (lv_at hl 0 rfl) ?_
  refine va_get (D := D) (ci := 9) (v := .int (X 0 13)) (C := RX9) (T := TX9) (N := 15) hx hb hts inX9 hown hK.1 (MR.mk0 hR) 0 rfl rfl 13 (by decide) lk194 (fun _ h9 => h9) rfl dX9_slotAlone_1 ?_
  refine lv_aload_n hx hb dX9_slotAlone_4 rfl (lv_at hl 0 rfl) ?_
  refine va_get (D := D) (ci := 9) (v := .ref (μ + 1)) (C := RX9) (T := TX9) (N := 15) hx hb hts inX9 hown hK.1 (MR.mk0 hR) 0 rfl rfl 0 (by decide) lk7 (fun _ h9 => h9) rfl dX9_slotAlone_5 ?_
  refine lv_iload_n hx hb dX9_slotAlone_8 rfl (lv_at hl 1 rfl) ?_
  refine gm_ci (gm_callS (As := [.int a1]) (rest := [.ref (μ + 1), .int (X 0 13)]) ⟨hx, hb, hml, hown, hts⟩ hK (c_X9_stationAt l D cy a1) (va_cwS 1 hts gX9_slotAlone_X9_stationAt rfl rfl rfl (by decide +kernel) ⟨Nat.le_of_ble_eq_true rfl, Nat.le_of_ble_eq_true rfl⟩) trivial rfl hl.1 rfl (Nat.le_of_ble_eq_true rfl) dX9_slotAlone_9 (Nat.zero_le _) (Nat.zero_le _)) hS (fun _ h => h.elim) (fun H locs _ _ hfr hS => ?_)
  have hR := gRep.keep hR hfr (fun _ _ h => h)
  refine lv_iconst (v := 0) hx hb dX9_slotAlone_12 (by decide) ?_
  refine lv_iadd hx hb dX9_slotAlone_13 ?_
  obtain ⟨h_1, hok⟩ := hok
  refine gm_iald hx hb hK.1 (MR.mk1 hR (c := 1) (by decide) bM_1) h_1 dX9_slotAlone_14 ?_
  refine lv_iadd hx hb dX9_slotAlone_15 ?_
  refine lv_aload_n hx hb dX9_slotAlone_16 rfl (lv_at hl 0 rfl) ?_
  refine lv_iload_n hx hb dX9_slotAlone_17 rfl (lv_at hl 1 rfl) ?_
  refine lv_bipush (v := 10) hx hb dX9_slotAlone_18 (by decide) ?_
  refine lv_idiv hx hb dX9_slotAlone_20 (by decide) ?_
  refine lv_iconst (v := 0) hx hb dX9_slotAlone_21 (by decide) ?_
  obtain ⟨h_2, hok⟩ := hok
  refine gm_ci (gm_call (As := [.int (a1 / 10), .int 0]) (rest := [.int ((X 0 13) + (X 1 (((f_X9_stationAt a1) + 0).toNatClampNeg)))]) (ci := 9) (q := (RX9, TX9, 15)) ⟨hx, hb, hml, hown, hts⟩ hK (c_X9_ofLine l D cy μ X (a1 / 10) 0 h_2) (cwV 2 hts gX9_slotAlone_X9_ofLine rfl rfl rfl (by decide +kernel) ⟨Nat.le_of_ble_eq_true rfl, Nat.le_of_ble_eq_true rfl⟩) (MR.mk0 hR) rfl hR rfl hl.1 rfl (Nat.le_of_ble_eq_true rfl) dX9_slotAlone_22 (Nat.zero_le _) (Nat.zero_le _)) hS (fun _ h => h.elim) (fun H locs _ _ hfr hS => ?_)
  have hR := gRep.keep hR hfr (fun _ _ h => h)
  obtain ⟨h_3, hok⟩ := hok
  refine lv_irem hx hb dX9_slotAlone_25 h_3 ?_
  exact gm_iret hx hb hr hlocks hS (by (try simp only [f_X9_slotAlone]); (try rfl)) trivial dX9_slotAlone_26
def lf_X9_slotIn_34 (a1 : Int32) (a2 : Int32) (K : (gM) → (Nat) → (Int32 × gM)) : Nat → (gM) → (Nat) → (Int32 × gM)
  | 0, Z, k_3 => K Z k_3
  | n + 1, Z, k_3 =>
    if a2 ≤ nI k_3 then
      K Z k_3
    else
      let X1 := p_X9_goAlone Z (a1 / 10)
      lf_X9_slotIn_34 a1 a2 K n X1 (k_3 + 1)
def lok_X9_slotIn_34 (a1 : Int32) (a2 : Int32) (KO : (gM) → (Nat) → Prop) : Nat → (gM) → (Nat) → Prop
  | 0, Z, k_3 => True
  | n + 1, Z, k_3 =>
    (if a2 ≤ nI k_3 then
      KO Z k_3
    else
      (ok_X9_goAlone Z (a1 / 10)) ∧
      ∀ X1 : gM, X1 = p_X9_goAlone Z (a1 / 10) →
      lok_X9_slotIn_34 a1 a2 KO n X1 (k_3 + 1))
def p_X9_slotIn (X : gM) (a1 : Int32) (a2 : Int32) : Int32 × gM :=
  if f_X9_isStation X a1 = 0 then
    ((-1), X)
  else
    if f_X9_in a2 0 300 = 0 then
      ((-2), X)
    else
      let X1 := p_X9_beginAlone X (a1 / 10)
      lf_X9_slotIn_34 a1 a2 (fun X2 k_3w5 =>
            (f_X9_slotAlone X2 a1, X2)) 2147483648 X1 0
def ok_X9_slotIn (X : gM) (a1 : Int32) (a2 : Int32) : Prop :=
  (ok_X9_isStation X a1) ∧
  (if f_X9_isStation X a1 = 0 then
    True
  else
    (if f_X9_in a2 0 300 = 0 then
      True
    else
      (ok_X9_beginAlone X (a1 / 10)) ∧
      ∀ X1 : gM, X1 = p_X9_beginAlone X (a1 / 10) →
      lok_X9_slotIn_34 a1 a2 (fun X2 k_3w5 =>
            (ok_X9_slotAlone X2 a1) ∧
            True) 2147483648 X1 0))
set_option maxHeartbeats 4000000 in
set_option maxRecDepth 100000 in
theorem lp_X9_slotIn_34 {p : Program} {l : Launch} {e : Env} {s : State} {m : MethodId} {args : Array Value} {below : List Frame} {meth : Method} {c0 : Code} {D : va_G} {cy : Nat → ClassId} (C : gCtx cX9_slotIn 4 (some .int) RX9 wsX9_slotIn D cy p s m args meth c0) (μ : Nat) (a1 : Int32) (a2 : Int32) 
    (KO : (gM) → (Nat) → Prop) (K : (gM) → (Nat) → (Int32 × gM)) (hexit : ∀ (Z : gM) (k_3 : Nat), k_3 ≤ 2147483647 → KO Z k_3 → ∀ (H : Heap) (locs : List Loc) (ls : Array Slot), MR D cy μ Z H → va_S (MA μ) s.heap H locs → lv_has ls 4 [(0, .ref μ), (1, .int a1), (2, .int a2), (3, .int (nI k_3))] → W p l e { frames := 2, cells := 0, slots := 0, locals := 44 } s m args below meth c0 H locs 0 0 (MQ below (gQi (K Z k_3).1 (MR D cy μ (K Z k_3).2) (MA μ)) args s 0 0 (MA μ)) (F0 m 53 ls [])) :
    ∀ (n : Nat) (Z : gM) (k_3 : Nat), k_3 ≤ 2147483647 → lok_X9_slotIn_34 a1 a2 KO n Z k_3 → 2147483647 < k_3 + n → ∀ (H : Heap) (locs : List Loc) (ls : Array Slot), MR D cy μ Z H → va_S (MA μ) s.heap H locs → lv_has ls 4 [(0, .ref μ), (1, .int a1), (2, .int a2), (3, .int (nI k_3))] → W p l e { frames := 2, cells := 0, slots := 0, locals := 44 } s m args below meth c0 H locs 0 0 (MQ below (gQi (lf_X9_slotIn_34 a1 a2 K n Z k_3).1 (MR D cy μ (lf_X9_slotIn_34 a1 a2 K n Z k_3).2) (MA μ)) args s 0 0 (MA μ)) (F0 m 34 ls []) := by
  obtain ⟨hx, hb, hr, hts, hown, hlocks, hml, hK⟩ := C
  intro n
  induction n with
  | zero =>
    intro Z k_3 hb_3 hok hme
    exact absurd hme (by omega)
  | succ n ih =>
    intro Z k_3 hb_3 hok hme H locs ls hR hS hl
    unfold lok_X9_slotIn_34 at hok
    refine lv_iload_n hx hb dX9_slotIn_34 rfl (lv_at hl 3 rfl) ?_
    refine lv_iload_n hx hb dX9_slotIn_35 rfl (lv_at hl 2 rfl) ?_
    refine lv_icmp_ge (tgt := 53) hx hb dX9_slotIn_36 (by decide) (fun c_1 => ?_) (fun c_1 => ?_)
    · try rw [if_pos c_1] at hok
      refine gm_q (Q2 := MQ below (gQi (K Z k_3).1 (MR D cy μ (K Z k_3).2) (MA μ)) args s 0 0 (MA μ)) (by simp only [lf_X9_slotIn_34, ↓if_pos c_1]) ?_
      exact hexit Z k_3 hb_3 hok _ _ _ hR hS (lv_sub hl [0, 1, 2, 3] rfl)
    · try rw [if_neg c_1] at hok
      have lt_2 : k_3 < 2147483647 := g_big (Nat.lt_of_le_of_lt hb_3 (by decide)) c_1
      refine lv_aload_n hx hb dX9_slotIn_39 rfl (lv_at hl 0 rfl) ?_
      refine lv_iload_n hx hb dX9_slotIn_40 rfl (lv_at hl 1 rfl) ?_
      refine lv_bipush (v := 10) hx hb dX9_slotIn_41 (by decide) ?_
      refine lv_idiv hx hb dX9_slotIn_43 (by decide) ?_
      obtain ⟨h_3, hok⟩ := hok
      refine gm_cv (gm_call (As := [.int (a1 / 10)]) (rest := []) (ci := 9) (q := (RX9, TX9, 15)) ⟨hx, hb, hml, hown, hts⟩ hK (c_X9_goAlone l D cy μ Z (a1 / 10) h_3) (cwV 1 hts gX9_slotIn_X9_goAlone rfl rfl rfl (by decide +kernel) ⟨Nat.le_of_ble_eq_true rfl, Nat.le_of_ble_eq_true rfl⟩) (MR.mk0 hR) rfl hR rfl hl.1 rfl (Nat.le_of_ble_eq_true rfl) dX9_slotIn_44 (Nat.zero_le _) (Nat.zero_le _)) hS (fun _ h => h) (fun H locs hR _ _ hS => ?_)
      obtain ⟨X1, eX1⟩ : ∃ Y : gM, Y = p_X9_goAlone Z (a1 / 10) := ⟨_, rfl⟩
      rw [← eX1] at hR
      try replace hok := hok X1 eX1
      refine lv_iinc (v := nI (k_3 + 1)) (lv' := [(3, .int (nI (k_3 + 1))), (0, .ref μ), (1, .int a1), (2, .int a2)]) hx hb dX9_slotIn_47 hl (k := 3) rfl (nI_1 _) (by decide) rfl (fun ls hl => ?_)
      refine lv_goto (tgt := 34) hx hb dX9_slotIn_50 (by decide) ?_
      refine gm_q (Q2 := MQ below (gQi (lf_X9_slotIn_34 a1 a2 K n X1 (k_3 + 1)).1 (MR D cy μ (lf_X9_slotIn_34 a1 a2 K n X1 (k_3 + 1)).2) (MA μ)) args s 0 0 (MA μ)) (by simp only [lf_X9_slotIn_34, ↓if_neg c_1, ← eX1]) ?_
      exact ih X1 (k_3 + 1) lt_2 hok (by omega) _ _ _ hR hS (lv_sub hl [1, 2, 3, 0] rfl)
set_option maxHeartbeats 4000000 in
set_option maxRecDepth 100000 in
theorem c_X9_slotIn (l : Launch) (D : va_G) (cy : Nat → ClassId) (μ : Nat) (X : gM) (a1 : Int32) (a2 : Int32)  (hok : ok_X9_slotIn X a1 a2) : Met l yX9_slotIn wsX9_slotIn ({ frames := 2, cells := 0, slots := 0, locals := 44 }) (gP [.ref μ, .int a1, .int a2] D cy (MR D cy μ X)) (gQi (p_X9_slotIn X a1 a2).1 (MR D cy μ (p_X9_slotIn X a1 a2).2) (MA μ)) 0 0 (MA μ) := by
  refine gm_met (cc := cX9_slotIn) (maxL := 4) (ret := (some .int)) [.ref μ, .int a1, .int a2] (by decide) rfl (Nat.le_of_ble_eq_true rfl) ?_
  intro p e s m args below meth c0 ls C hR hl
  obtain ⟨hx, hb, hr, hts, hown, hlocks, hml, hK⟩ := C
  have hl : lv_has ls 4 [(0, .ref μ), (1, .int a1), (2, .int a2)] := hl
  have hS : va_S (MA μ) s.heap s.heap [] := va_S.rf
  unfold ok_X9_slotIn at hok
  refine lv_aload_n hx hb dX9_slotIn_0 rfl (lv_at hl 0 rfl) ?_
  refine lv_iload_n hx hb dX9_slotIn_1 rfl (lv_at hl 1 rfl) ?_
  obtain ⟨h_1, hok⟩ := hok
  refine gm_ci (gm_call (As := [.int a1]) (rest := []) (ci := 9) (q := (RX9, TX9, 15)) ⟨hx, hb, hml, hown, hts⟩ hK (c_X9_isStation l D cy μ X a1 h_1) (cwV 1 hts gX9_slotIn_X9_isStation rfl rfl rfl (by decide +kernel) ⟨Nat.le_of_ble_eq_true rfl, Nat.le_of_ble_eq_true rfl⟩) (MR.mk0 hR) rfl hR rfl hl.1 rfl (Nat.le_of_ble_eq_true rfl) dX9_slotIn_2 (Nat.zero_le _) (Nat.zero_le _)) hS (fun _ h => h.elim) (fun H locs _ _ hfr hS => ?_)
  have hR := gRep.keep hR hfr (fun _ _ h => h)
  refine lv_if_ne (tgt := 10) hx hb dX9_slotIn_5 (by decide) (fun c_2 => ?_) (fun c_2 => ?_)
  · try rw [if_neg c_2] at hok
    refine lv_iload_n hx hb dX9_slotIn_10 rfl (lv_at hl 2 rfl) ?_
    refine lv_iconst (v := 0) hx hb dX9_slotIn_11 (by decide) ?_
    refine lv_sipush (v := 300) hx hb dX9_slotIn_12 (by decide) ?_
    refine gm_ci (gm_callS (As := [.int a2, .int 0, .int 300]) (rest := []) ⟨hx, hb, hml, hown, hts⟩ hK (c_X9_in l D cy a2 0 300) (va_cwS 3 hts gX9_slotIn_X9_in rfl rfl rfl (by decide +kernel) ⟨Nat.le_of_ble_eq_true rfl, Nat.le_of_ble_eq_true rfl⟩) trivial rfl hl.1 rfl (Nat.le_of_ble_eq_true rfl) dX9_slotIn_15 (Nat.zero_le _) (Nat.zero_le _)) hS (fun _ h => h.elim) (fun H locs _ _ hfr hS => ?_)
    have hR := gRep.keep hR hfr (fun _ _ h => h)
    refine lv_if_ne (tgt := 24) hx hb dX9_slotIn_18 (by decide) (fun c_3 => ?_) (fun c_3 => ?_)
    · try rw [if_neg c_3] at hok
      refine lv_aload_n hx hb dX9_slotIn_24 rfl (lv_at hl 0 rfl) ?_
      refine lv_iload_n hx hb dX9_slotIn_25 rfl (lv_at hl 1 rfl) ?_
      refine lv_bipush (v := 10) hx hb dX9_slotIn_26 (by decide) ?_
      refine lv_idiv hx hb dX9_slotIn_28 (by decide) ?_
      obtain ⟨h_4, hok⟩ := hok
      refine gm_cv (gm_call (As := [.int (a1 / 10)]) (rest := []) (ci := 9) (q := (RX9, TX9, 15)) ⟨hx, hb, hml, hown, hts⟩ hK (c_X9_beginAlone l D cy μ X (a1 / 10) h_4) (cwV 1 hts gX9_slotIn_X9_beginAlone rfl rfl rfl (by decide +kernel) ⟨Nat.le_of_ble_eq_true rfl, Nat.le_of_ble_eq_true rfl⟩) (MR.mk0 hR) rfl hR rfl hl.1 rfl (Nat.le_of_ble_eq_true rfl) dX9_slotIn_29 (Nat.zero_le _) (Nat.zero_le _)) hS (fun _ h => h) (fun H locs hR _ _ hS => ?_)
      obtain ⟨X1, eX1⟩ : ∃ Y : gM, Y = p_X9_beginAlone X (a1 / 10) := ⟨_, rfl⟩
      rw [← eX1] at hR
      try replace hok := hok X1 eX1
      refine lv_iconst (v := 0) hx hb dX9_slotIn_32 (by decide) ?_
      refine lv_istore_n (lv' := [(3, .int 0), (0, .ref μ), (1, .int a1), (2, .int a2)]) hx hb dX9_slotIn_33 rfl hl (by decide) rfl (fun ls hl => ?_)
      refine gm_q (Q2 := MQ below (gQi (lf_X9_slotIn_34 a1 a2 (fun X2 k_3w5 =>
            (f_X9_slotAlone X2 a1, X2)) 2147483648 X1 0).1 (MR D cy μ (lf_X9_slotIn_34 a1 a2 (fun X2 k_3w5 =>
            (f_X9_slotAlone X2 a1, X2)) 2147483648 X1 0).2) (MA μ)) args s 0 0 (MA μ)) (by simp only [p_X9_slotIn, ↓if_neg c_2, ↓if_neg c_3, ← eX1]) ?_
      refine lp_X9_slotIn_34 ⟨hx, hb, hr, hts, hown, hlocks, hml, hK⟩ μ a1 a2  _ _ (fun X2 k_3w5 hbk_3w5 hok H locs ls hR hS hl => ?_) 2147483648 X1 0 (by decide) hok (by omega) _ _ _ hR hS (lv_sub hl [1, 2, 3, 0] rfl)
      refine lv_aload_n hx hb dX9_slotIn_53 rfl (lv_at hl 0 rfl) ?_
      refine lv_iload_n hx hb dX9_slotIn_54 rfl (lv_at hl 1 rfl) ?_
      obtain ⟨h_6, hok⟩ := hok
      refine gm_ci (gm_call (As := [.int a1]) (rest := []) (ci := 9) (q := (RX9, TX9, 15)) ⟨hx, hb, hml, hown, hts⟩ hK (c_X9_slotAlone l D cy μ X2 a1 h_6) (cwV 1 hts gX9_slotIn_X9_slotAlone rfl rfl rfl (by decide +kernel) ⟨Nat.le_of_ble_eq_true rfl, Nat.le_of_ble_eq_true rfl⟩) (MR.mk0 hR) rfl hR rfl hl.1 rfl (Nat.le_of_ble_eq_true rfl) dX9_slotIn_55 (Nat.zero_le _) (Nat.zero_le _)) hS (fun _ h => h.elim) (fun H locs _ _ hfr hS => ?_)
      have hR := gRep.keep hR hfr (fun _ _ h => h)
      exact gm_iret hx hb hr hlocks hS (by (try simp only [p_X9_slotIn, ↓if_neg c_2, ↓if_neg c_3, ← eX1]); (try rfl)) (by (try simp only [p_X9_slotIn, ↓if_neg c_2, ↓if_neg c_3, ← eX1]); exact hR) dX9_slotIn_58
    · try rw [if_pos c_3] at hok
      refine lv_bipush (v := (-2)) hx hb dX9_slotIn_21 (by decide) ?_
      exact gm_iret hx hb hr hlocks hS (by (try simp only [p_X9_slotIn, ↓if_neg c_2, ↓if_pos c_3]); (try rfl)) (by (try simp only [p_X9_slotIn, ↓if_neg c_2, ↓if_pos c_3]); exact hR) dX9_slotIn_23
  · try rw [if_pos c_2] at hok
    refine lv_iconst (v := (-1)) hx hb dX9_slotIn_8 (by decide) ?_
    exact gm_iret hx hb hr hlocks hS (by (try simp only [p_X9_slotIn, ↓if_pos c_2]); (try rfl)) (by (try simp only [p_X9_slotIn, ↓if_pos c_2]); exact hR) dX9_slotIn_9
def lf_X9_lapsNeeded_57 (a1 : Int32) (a2 : Int32) (y_3 : Int32) (y_4 : Int32) (K : (gM) → (Int32) → (Nat) → (Int32 × gM)) : Nat → (gM) → (Int32) → (Nat) → (Int32 × gM)
  | 0, Z, x_5, k_6 => K Z x_5 k_6
  | n + 1, Z, x_5, k_6 =>
    if 300 ≤ nI k_6 then
      K Z x_5 k_6
    else
      if 10 ≤ x_5 then
        K Z x_5 k_6
      else
        let X1 := p_X9_goAlone Z y_3
        if f_X9_slotAlone X1 a2 = y_4 then
          (x_5, X1)
        else
          if f_X9_slotAlone X1 a1 = y_4 then
            lf_X9_lapsNeeded_57 a1 a2 y_3 y_4 K n X1 (x_5 + 1) (k_6 + 1)
          else
            lf_X9_lapsNeeded_57 a1 a2 y_3 y_4 K n X1 (x_5 + 0) (k_6 + 1)
def lok_X9_lapsNeeded_57 (a1 : Int32) (a2 : Int32) (y_3 : Int32) (y_4 : Int32) (KO : (gM) → (Int32) → (Nat) → Prop) : Nat → (gM) → (Int32) → (Nat) → Prop
  | 0, Z, x_5, k_6 => True
  | n + 1, Z, x_5, k_6 =>
    (if 300 ≤ nI k_6 then
      KO Z x_5 k_6
    else
      (if 10 ≤ x_5 then
        KO Z x_5 k_6
      else
        (ok_X9_goAlone Z y_3) ∧
        ∀ X1 : gM, X1 = p_X9_goAlone Z y_3 →
        (ok_X9_slotAlone X1 a2) ∧
        (if f_X9_slotAlone X1 a2 = y_4 then
          True
        else
          (ok_X9_slotAlone X1 a1) ∧
          (if f_X9_slotAlone X1 a1 = y_4 then
            lok_X9_lapsNeeded_57 a1 a2 y_3 y_4 KO n X1 (x_5 + 1) (k_6 + 1)
          else
            lok_X9_lapsNeeded_57 a1 a2 y_3 y_4 KO n X1 (x_5 + 0) (k_6 + 1)))))
def p_X9_lapsNeeded (X : gM) (a1 : Int32) (a2 : Int32) : Int32 × gM :=
  if f_X9_isStation X a1 = 0 then
    ((-1), X)
  else
    if f_X9_isStation X a2 = 0 then
      ((-1), X)
    else
      if a1 = a2 then
        ((-2), X)
      else
        if a2 / 10 = a1 / 10 then
          let X1 := p_X9_beginAlone X (a1 / 10)
          lf_X9_lapsNeeded_57 a1 a2 (a1 / 10) (f_X9_slotAlone X1 a1) (fun X2 x_5w9 k_6w9 =>
                ((-5), X2)) 2147483648 X1 1 0
        else
          ((-2), X)
def ok_X9_lapsNeeded (X : gM) (a1 : Int32) (a2 : Int32) : Prop :=
  (ok_X9_isStation X a1) ∧
  (if f_X9_isStation X a1 = 0 then
    True
  else
    (ok_X9_isStation X a2) ∧
    (if f_X9_isStation X a2 = 0 then
      True
    else
      (if a1 = a2 then
        True
      else
        (if a2 / 10 = a1 / 10 then
          (ok_X9_beginAlone X (a1 / 10)) ∧
          ∀ X1 : gM, X1 = p_X9_beginAlone X (a1 / 10) →
          (ok_X9_slotAlone X1 a1) ∧
          lok_X9_lapsNeeded_57 a1 a2 (a1 / 10) (f_X9_slotAlone X1 a1) (fun X2 x_5w9 k_6w9 =>
                True) 2147483648 X1 1 0
        else
          True))))
set_option maxHeartbeats 4000000 in
set_option maxRecDepth 100000 in
theorem lp_X9_lapsNeeded_57 {p : Program} {l : Launch} {e : Env} {s : State} {m : MethodId} {args : Array Value} {below : List Frame} {meth : Method} {c0 : Code} {D : va_G} {cy : Nat → ClassId} (C : gCtx cX9_lapsNeeded 7 (some .int) RX9 wsX9_lapsNeeded D cy p s m args meth c0) (μ : Nat) (a1 : Int32) (a2 : Int32) (y_3 : Int32) (y_4 : Int32) 
    (KO : (gM) → (Int32) → (Nat) → Prop) (K : (gM) → (Int32) → (Nat) → (Int32 × gM)) (hexit : ∀ (Z : gM) (x_5 : Int32) (k_6 : Nat), k_6 ≤ 2147483647 → KO Z x_5 k_6 → ∀ (H : Heap) (locs : List Loc) (ls : Array Slot), MR D cy μ Z H → va_S (MA μ) s.heap H locs → lv_has ls 7 [(0, .ref μ), (1, .int a1), (2, .int a2), (3, .int y_3), (4, .int y_4), (5, .int x_5), (6, .int (nI k_6))] → W p l e { frames := 2, cells := 0, slots := 0, locals := 44 } s m args below meth c0 H locs 0 0 (MQ below (gQi (K Z x_5 k_6).1 (MR D cy μ (K Z x_5 k_6).2) (MA μ)) args s 0 0 (MA μ)) (F0 m 116 ls [])) :
    ∀ (n : Nat) (Z : gM) (x_5 : Int32) (k_6 : Nat), k_6 ≤ 2147483647 → lok_X9_lapsNeeded_57 a1 a2 y_3 y_4 KO n Z x_5 k_6 → 2147483647 < k_6 + n → ∀ (H : Heap) (locs : List Loc) (ls : Array Slot), MR D cy μ Z H → va_S (MA μ) s.heap H locs → lv_has ls 7 [(0, .ref μ), (1, .int a1), (2, .int a2), (3, .int y_3), (4, .int y_4), (5, .int x_5), (6, .int (nI k_6))] → W p l e { frames := 2, cells := 0, slots := 0, locals := 44 } s m args below meth c0 H locs 0 0 (MQ below (gQi (lf_X9_lapsNeeded_57 a1 a2 y_3 y_4 K n Z x_5 k_6).1 (MR D cy μ (lf_X9_lapsNeeded_57 a1 a2 y_3 y_4 K n Z x_5 k_6).2) (MA μ)) args s 0 0 (MA μ)) (F0 m 57 ls []) := by
  obtain ⟨hx, hb, hr, hts, hown, hlocks, hml, hK⟩ := C
  intro n
  induction n with
  | zero =>
    intro Z x_5 k_6 hb_6 hok hme
    exact absurd hme (by omega)
  | succ n ih =>
    intro Z x_5 k_6 hb_6 hok hme H locs ls hR hS hl
    unfold lok_X9_lapsNeeded_57 at hok
    refine lv_iload hx hb dX9_lapsNeeded_57 (lv_at hl 6 rfl) ?_
    refine lv_sipush (v := 300) hx hb dX9_lapsNeeded_59 (by decide) ?_
    refine lv_icmp_ge (tgt := 116) hx hb dX9_lapsNeeded_62 (by decide) (fun c_1 => ?_) (fun c_1 => ?_)
    · try rw [if_pos c_1] at hok
      have ge_2 : 300 ≤ k_6 := g_ge2 (Nat.lt_of_le_of_lt hb_6 (by decide)) (by decide) c_1
      refine gm_q (Q2 := MQ below (gQi (K Z x_5 k_6).1 (MR D cy μ (K Z x_5 k_6).2) (MA μ)) args s 0 0 (MA μ)) (by simp only [lf_X9_lapsNeeded_57, ↓if_pos c_1]) ?_
      exact hexit Z x_5 k_6 hb_6 hok _ _ _ hR hS (lv_sub hl [0, 1, 2, 3, 4, 5, 6] rfl)
    · try rw [if_neg c_1] at hok
      have lt_3 : k_6 < 300 := g_lt (Nat.lt_of_le_of_lt hb_6 (by decide)) (by decide) c_1
      refine lv_iload hx hb dX9_lapsNeeded_65 (lv_at hl 5 rfl) ?_
      refine lv_bipush (v := 10) hx hb dX9_lapsNeeded_67 (by decide) ?_
      refine lv_icmp_ge (tgt := 116) hx hb dX9_lapsNeeded_69 (by decide) (fun c_4 => ?_) (fun c_4 => ?_)
      · try rw [if_pos c_4] at hok
        refine gm_q (Q2 := MQ below (gQi (K Z x_5 k_6).1 (MR D cy μ (K Z x_5 k_6).2) (MA μ)) args s 0 0 (MA μ)) (by simp only [lf_X9_lapsNeeded_57, ↓if_neg c_1, ↓if_pos c_4]) ?_
        exact hexit Z x_5 k_6 hb_6 hok _ _ _ hR hS (lv_sub hl [0, 1, 2, 3, 4, 5, 6] rfl)
      · try rw [if_neg c_4] at hok
        refine lv_aload_n hx hb dX9_lapsNeeded_72 rfl (lv_at hl 0 rfl) ?_
        refine lv_iload_n hx hb dX9_lapsNeeded_73 rfl (lv_at hl 3 rfl) ?_
        obtain ⟨h_5, hok⟩ := hok
        refine gm_cv (gm_call (As := [.int y_3]) (rest := []) (ci := 9) (q := (RX9, TX9, 15)) ⟨hx, hb, hml, hown, hts⟩ hK (c_X9_goAlone l D cy μ Z y_3 h_5) (cwV 1 hts gX9_lapsNeeded_X9_goAlone rfl rfl rfl (by decide +kernel) ⟨Nat.le_of_ble_eq_true rfl, Nat.le_of_ble_eq_true rfl⟩) (MR.mk0 hR) rfl hR rfl hl.1 rfl (Nat.le_of_ble_eq_true rfl) dX9_lapsNeeded_74 (Nat.zero_le _) (Nat.zero_le _)) hS (fun _ h => h) (fun H locs hR _ _ hS => ?_)
        obtain ⟨X1, eX1⟩ : ∃ Y : gM, Y = p_X9_goAlone Z y_3 := ⟨_, rfl⟩
        rw [← eX1] at hR
        try replace hok := hok X1 eX1
        refine lv_aload_n hx hb dX9_lapsNeeded_77 rfl (lv_at hl 0 rfl) ?_
        refine lv_iload_n hx hb dX9_lapsNeeded_78 rfl (lv_at hl 2 rfl) ?_
        obtain ⟨h_6, hok⟩ := hok
        refine gm_ci (gm_call (As := [.int a2]) (rest := []) (ci := 9) (q := (RX9, TX9, 15)) ⟨hx, hb, hml, hown, hts⟩ hK (c_X9_slotAlone l D cy μ X1 a2 h_6) (cwV 1 hts gX9_lapsNeeded_X9_slotAlone rfl rfl rfl (by decide +kernel) ⟨Nat.le_of_ble_eq_true rfl, Nat.le_of_ble_eq_true rfl⟩) (MR.mk0 hR) rfl hR rfl hl.1 rfl (Nat.le_of_ble_eq_true rfl) dX9_lapsNeeded_79 (Nat.zero_le _) (Nat.zero_le _)) hS (fun _ h => h.elim) (fun H locs _ _ hfr hS => ?_)
        have hR := gRep.keep hR hfr (fun _ _ h => h)
        refine lv_iload hx hb dX9_lapsNeeded_82 (lv_at hl 4 rfl) ?_
        refine lv_icmp_ne (tgt := 90) hx hb dX9_lapsNeeded_84 (by decide) (fun c_7 => ?_) (fun c_7 => ?_)
        · try rw [if_neg c_7] at hok
          refine lv_iload hx hb dX9_lapsNeeded_90 (lv_at hl 5 rfl) ?_
          refine lv_aload_n hx hb dX9_lapsNeeded_92 rfl (lv_at hl 0 rfl) ?_
          refine lv_iload_n hx hb dX9_lapsNeeded_93 rfl (lv_at hl 1 rfl) ?_
          obtain ⟨h_8, hok⟩ := hok
          refine gm_ci (gm_call (As := [.int a1]) (rest := [.int x_5]) (ci := 9) (q := (RX9, TX9, 15)) ⟨hx, hb, hml, hown, hts⟩ hK (c_X9_slotAlone l D cy μ X1 a1 h_8) (cwV 1 hts gX9_lapsNeeded_X9_slotAlone rfl rfl rfl (by decide +kernel) ⟨Nat.le_of_ble_eq_true rfl, Nat.le_of_ble_eq_true rfl⟩) (MR.mk0 hR) rfl hR rfl hl.1 rfl (Nat.le_of_ble_eq_true rfl) dX9_lapsNeeded_94 (Nat.zero_le _) (Nat.zero_le _)) hS (fun _ h => h.elim) (fun H locs _ _ hfr hS => ?_)
          have hR := gRep.keep hR hfr (fun _ _ h => h)
          refine lv_iload hx hb dX9_lapsNeeded_97 (lv_at hl 4 rfl) ?_
          refine lv_icmp_ne (tgt := 106) hx hb dX9_lapsNeeded_99 (by decide) (fun c_9 => ?_) (fun c_9 => ?_)
          · try rw [if_neg c_9] at hok
            refine lv_iconst (v := 0) hx hb dX9_lapsNeeded_106 (by decide) ?_
            refine lv_iadd hx hb dX9_lapsNeeded_107 ?_
            refine lv_istore (lv' := [(5, .int (x_5 + 0)), (0, .ref μ), (1, .int a1), (2, .int a2), (3, .int y_3), (4, .int y_4), (6, .int (nI k_6))]) hx hb dX9_lapsNeeded_108 hl (by decide) rfl (fun ls hl => ?_)
            refine lv_iinc (v := nI (k_6 + 1)) (lv' := [(6, .int (nI (k_6 + 1))), (5, .int (x_5 + 0)), (0, .ref μ), (1, .int a1), (2, .int a2), (3, .int y_3), (4, .int y_4)]) hx hb dX9_lapsNeeded_110 hl (k := 6) rfl (nI_1 _) (by decide) rfl (fun ls hl => ?_)
            refine lv_goto (tgt := 57) hx hb dX9_lapsNeeded_113 (by decide) ?_
            refine gm_q (Q2 := MQ below (gQi (lf_X9_lapsNeeded_57 a1 a2 y_3 y_4 K n X1 (x_5 + 0) (k_6 + 1)).1 (MR D cy μ (lf_X9_lapsNeeded_57 a1 a2 y_3 y_4 K n X1 (x_5 + 0) (k_6 + 1)).2) (MA μ)) args s 0 0 (MA μ)) (by simp only [lf_X9_lapsNeeded_57, ↓if_neg c_1, ↓if_neg c_4, ↓if_neg c_7, ↓if_neg c_9, ← eX1]) ?_
            exact ih X1 (x_5 + 0) (k_6 + 1) (Nat.lt_of_lt_of_le lt_3 (by decide)) hok (by omega) _ _ _ hR hS (lv_sub hl [2, 3, 4, 5, 6, 1, 0] rfl)
          · try rw [if_pos c_9] at hok
            refine lv_iconst (v := 1) hx hb dX9_lapsNeeded_102 (by decide) ?_
            refine lv_goto (tgt := 107) hx hb dX9_lapsNeeded_103 (by decide) ?_
            refine lv_iadd hx hb dX9_lapsNeeded_107 ?_
            refine lv_istore (lv' := [(5, .int (x_5 + 1)), (0, .ref μ), (1, .int a1), (2, .int a2), (3, .int y_3), (4, .int y_4), (6, .int (nI k_6))]) hx hb dX9_lapsNeeded_108 hl (by decide) rfl (fun ls hl => ?_)
            refine lv_iinc (v := nI (k_6 + 1)) (lv' := [(6, .int (nI (k_6 + 1))), (5, .int (x_5 + 1)), (0, .ref μ), (1, .int a1), (2, .int a2), (3, .int y_3), (4, .int y_4)]) hx hb dX9_lapsNeeded_110 hl (k := 6) rfl (nI_1 _) (by decide) rfl (fun ls hl => ?_)
            refine lv_goto (tgt := 57) hx hb dX9_lapsNeeded_113 (by decide) ?_
            refine gm_q (Q2 := MQ below (gQi (lf_X9_lapsNeeded_57 a1 a2 y_3 y_4 K n X1 (x_5 + 1) (k_6 + 1)).1 (MR D cy μ (lf_X9_lapsNeeded_57 a1 a2 y_3 y_4 K n X1 (x_5 + 1) (k_6 + 1)).2) (MA μ)) args s 0 0 (MA μ)) (by simp only [lf_X9_lapsNeeded_57, ↓if_neg c_1, ↓if_neg c_4, ↓if_neg c_7, ↓if_pos c_9, ← eX1]) ?_
            exact ih X1 (x_5 + 1) (k_6 + 1) (Nat.lt_of_lt_of_le lt_3 (by decide)) hok (by omega) _ _ _ hR hS (lv_sub hl [2, 3, 4, 5, 6, 1, 0] rfl)
        · try rw [if_pos c_7] at hok
          refine lv_iload hx hb dX9_lapsNeeded_87 (lv_at hl 5 rfl) ?_
          exact gm_iret hx hb hr hlocks hS (by (try simp only [lf_X9_lapsNeeded_57, ↓if_neg c_1, ↓if_neg c_4, ↓if_pos c_7, ← eX1]); (try rfl)) (by (try simp only [lf_X9_lapsNeeded_57, ↓if_neg c_1, ↓if_neg c_4, ↓if_pos c_7, ← eX1]); exact hR) dX9_lapsNeeded_89
set_option maxHeartbeats 4000000 in
set_option maxRecDepth 100000 in
theorem c_X9_lapsNeeded (l : Launch) (D : va_G) (cy : Nat → ClassId) (μ : Nat) (X : gM) (a1 : Int32) (a2 : Int32)  (hok : ok_X9_lapsNeeded X a1 a2) : Met l yX9_lapsNeeded wsX9_lapsNeeded ({ frames := 2, cells := 0, slots := 0, locals := 44 }) (gP [.ref μ, .int a1, .int a2] D cy (MR D cy μ X)) (gQi (p_X9_lapsNeeded X a1 a2).1 (MR D cy μ (p_X9_lapsNeeded X a1 a2).2) (MA μ)) 0 0 (MA μ) := by
  refine gm_met (cc := cX9_lapsNeeded) (maxL := 7) (ret := (some .int)) [.ref μ, .int a1, .int a2] (by decide) rfl (Nat.le_of_ble_eq_true rfl) ?_
  intro p e s m args below meth c0 ls C hR hl
  obtain ⟨hx, hb, hr, hts, hown, hlocks, hml, hK⟩ := C
  have hl : lv_has ls 7 [(0, .ref μ), (1, .int a1), (2, .int a2)] := hl
  have hS : va_S (MA μ) s.heap s.heap [] := va_S.rf
  unfold ok_X9_lapsNeeded at hok
  refine lv_aload_n hx hb dX9_lapsNeeded_0 rfl (lv_at hl 0 rfl) ?_
  refine lv_iload_n hx hb dX9_lapsNeeded_1 rfl (lv_at hl 1 rfl) ?_
  obtain ⟨h_1, hok⟩ := hok
  refine gm_ci (gm_call (As := [.int a1]) (rest := []) (ci := 9) (q := (RX9, TX9, 15)) ⟨hx, hb, hml, hown, hts⟩ hK (c_X9_isStation l D cy μ X a1 h_1) (cwV 1 hts gX9_lapsNeeded_X9_isStation rfl rfl rfl (by decide +kernel) ⟨Nat.le_of_ble_eq_true rfl, Nat.le_of_ble_eq_true rfl⟩) (MR.mk0 hR) rfl hR rfl hl.1 rfl (Nat.le_of_ble_eq_true rfl) dX9_lapsNeeded_2 (Nat.zero_le _) (Nat.zero_le _)) hS (fun _ h => h.elim) (fun H locs _ _ hfr hS => ?_)
  have hR := gRep.keep hR hfr (fun _ _ h => h)
  refine lv_if_eq (tgt := 16) hx hb dX9_lapsNeeded_5 (by decide) (fun c_2 => ?_) (fun c_2 => ?_)
  · try rw [if_pos c_2] at hok
    refine lv_iconst (v := (-1)) hx hb dX9_lapsNeeded_16 (by decide) ?_
    exact gm_iret hx hb hr hlocks hS (by (try simp only [p_X9_lapsNeeded, ↓if_pos c_2]); (try rfl)) (by (try simp only [p_X9_lapsNeeded, ↓if_pos c_2]); exact hR) dX9_lapsNeeded_17
  · try rw [if_neg c_2] at hok
    refine lv_aload_n hx hb dX9_lapsNeeded_8 rfl (lv_at hl 0 rfl) ?_
    refine lv_iload_n hx hb dX9_lapsNeeded_9 rfl (lv_at hl 2 rfl) ?_
    obtain ⟨h_3, hok⟩ := hok
    refine gm_ci (gm_call (As := [.int a2]) (rest := []) (ci := 9) (q := (RX9, TX9, 15)) ⟨hx, hb, hml, hown, hts⟩ hK (c_X9_isStation l D cy μ X a2 h_3) (cwV 1 hts gX9_lapsNeeded_X9_isStation rfl rfl rfl (by decide +kernel) ⟨Nat.le_of_ble_eq_true rfl, Nat.le_of_ble_eq_true rfl⟩) (MR.mk0 hR) rfl hR rfl hl.1 rfl (Nat.le_of_ble_eq_true rfl) dX9_lapsNeeded_10 (Nat.zero_le _) (Nat.zero_le _)) hS (fun _ h => h.elim) (fun H locs _ _ hfr hS => ?_)
    have hR := gRep.keep hR hfr (fun _ _ h => h)
    refine lv_if_ne (tgt := 18) hx hb dX9_lapsNeeded_13 (by decide) (fun c_4 => ?_) (fun c_4 => ?_)
    · try rw [if_neg c_4] at hok
      refine lv_iload_n hx hb dX9_lapsNeeded_18 rfl (lv_at hl 1 rfl) ?_
      refine lv_bipush (v := 10) hx hb dX9_lapsNeeded_19 (by decide) ?_
      refine lv_idiv hx hb dX9_lapsNeeded_21 (by decide) ?_
      refine lv_istore_n (lv' := [(3, .int (a1 / 10)), (0, .ref μ), (1, .int a1), (2, .int a2)]) hx hb dX9_lapsNeeded_22 rfl hl (by decide) rfl (fun ls hl => ?_)
      refine lv_iload_n hx hb dX9_lapsNeeded_23 rfl (lv_at hl 2 rfl) ?_
      refine lv_iload_n hx hb dX9_lapsNeeded_24 rfl (lv_at hl 3 rfl) ?_
      refine lv_icmp_eq (tgt := 36) hx hb dX9_lapsNeeded_25 (by decide) (fun c_5 => ?_) (fun c_5 => ?_)
      · try rw [if_pos c_5] at hok
        refine lv_bipush (v := (-2)) hx hb dX9_lapsNeeded_36 (by decide) ?_
        exact gm_iret hx hb hr hlocks hS (by (try simp only [p_X9_lapsNeeded, ↓if_neg c_2, ↓if_neg c_4, ↓if_pos c_5]); (try rfl)) (by (try simp only [p_X9_lapsNeeded, ↓if_neg c_2, ↓if_neg c_4, ↓if_pos c_5]); exact hR) dX9_lapsNeeded_38
      · try rw [if_neg c_5] at hok
        refine lv_iload_n hx hb dX9_lapsNeeded_28 rfl (lv_at hl 3 rfl) ?_
        refine lv_bipush (v := 10) hx hb dX9_lapsNeeded_29 (by decide) ?_
        refine lv_idiv hx hb dX9_lapsNeeded_31 (by decide) ?_
        refine lv_iload_n hx hb dX9_lapsNeeded_32 rfl (lv_at hl 0 rfl) ?_
        refine lv_icmp_eq (tgt := 39) hx hb dX9_lapsNeeded_33 (by decide) (fun c_6 => ?_) (fun c_6 => ?_)
        · try rw [if_pos c_6] at hok
          refine lv_aload_n hx hb dX9_lapsNeeded_39 rfl (lv_at hl 1 rfl) ?_
          refine lv_iload_n hx hb dX9_lapsNeeded_40 rfl (lv_at hl 0 rfl) ?_
          obtain ⟨h_7, hok⟩ := hok
          refine gm_cv (gm_call (As := [.int (a1 / 10)]) (rest := []) (ci := 9) (q := (RX9, TX9, 15)) ⟨hx, hb, hml, hown, hts⟩ hK (c_X9_beginAlone l D cy μ X (a1 / 10) h_7) (cwV 1 hts gX9_lapsNeeded_X9_beginAlone rfl rfl rfl (by decide +kernel) ⟨Nat.le_of_ble_eq_true rfl, Nat.le_of_ble_eq_true rfl⟩) (MR.mk0 hR) rfl hR rfl hl.1 rfl (Nat.le_of_ble_eq_true rfl) dX9_lapsNeeded_41 (Nat.zero_le _) (Nat.zero_le _)) hS (fun _ h => h) (fun H locs hR _ _ hS => ?_)
          obtain ⟨X1, eX1⟩ : ∃ Y : gM, Y = p_X9_beginAlone X (a1 / 10) := ⟨_, rfl⟩
          rw [← eX1] at hR
          try replace hok := hok X1 eX1
          refine lv_aload_n hx hb dX9_lapsNeeded_44 rfl (lv_at hl 1 rfl) ?_
          refine lv_iload_n hx hb dX9_lapsNeeded_45 rfl (lv_at hl 2 rfl) ?_
          obtain ⟨h_8, hok⟩ := hok
          refine gm_ci (gm_call (As := [.int a1]) (rest := []) (ci := 9) (q := (RX9, TX9, 15)) ⟨hx, hb, hml, hown, hts⟩ hK (c_X9_slotAlone l D cy μ X1 a1 h_8) (cwV 1 hts gX9_lapsNeeded_X9_slotAlone rfl rfl rfl (by decide +kernel) ⟨Nat.le_of_ble_eq_true rfl, Nat.le_of_ble_eq_true rfl⟩) (MR.mk0 hR) rfl hR rfl hl.1 rfl (Nat.le_of_ble_eq_true rfl) dX9_lapsNeeded_46 (Nat.zero_le _) (Nat.zero_le _)) hS (fun _ h => h.elim) (fun H locs _ _ hfr hS => ?_)
          have hR := gRep.keep hR hfr (fun _ _ h => h)
          refine lv_istore (lv' := [(4, .int (f_X9_slotAlone X1 a1)), (3, .int (a1 / 10)), (0, .ref μ), (1, .int a1), (2, .int a2)]) hx hb dX9_lapsNeeded_49 hl (by decide) rfl (fun ls hl => ?_)
          refine lv_iconst (v := 1) hx hb dX9_lapsNeeded_51 (by decide) ?_
          refine lv_istore (lv' := [(5, .int 1), (4, .int (f_X9_slotAlone X1 a1)), (3, .int (a1 / 10)), (0, .ref μ), (1, .int a1), (2, .int a2)]) hx hb dX9_lapsNeeded_52 hl (by decide) rfl (fun ls hl => ?_)
          refine lv_iconst (v := 0) hx hb dX9_lapsNeeded_54 (by decide) ?_
          refine lv_istore (lv' := [(6, .int 0), (5, .int 1), (4, .int (f_X9_slotAlone X1 a1)), (3, .int (a1 / 10)), (0, .ref μ), (1, .int a1), (2, .int a2)]) hx hb dX9_lapsNeeded_55 hl (by decide) rfl (fun ls hl => ?_)
          refine gm_q (Q2 := MQ below (gQi (lf_X9_lapsNeeded_57 a1 a2 (a1 / 10) (f_X9_slotAlone X1 a1) (fun X2 x_5w9 k_6w9 =>
                ((-5), X2)) 2147483648 X1 1 0).1 (MR D cy μ (lf_X9_lapsNeeded_57 a1 a2 (a1 / 10) (f_X9_slotAlone X1 a1) (fun X2 x_5w9 k_6w9 =>
                ((-5), X2)) 2147483648 X1 1 0).2) (MA μ)) args s 0 0 (MA μ)) (by simp only [p_X9_lapsNeeded, ↓if_neg c_2, ↓if_neg c_4, ↓if_neg c_5, ↓if_pos c_6, ← eX1]) ?_
          refine lp_X9_lapsNeeded_57 ⟨hx, hb, hr, hts, hown, hlocks, hml, hK⟩ μ a1 a2 (a1 / 10) (f_X9_slotAlone X1 a1)  _ _ (fun X2 x_5w9 k_6w9 hbk_6w9 hok H locs ls hR hS hl => ?_) 2147483648 X1 1 0 (by decide) hok (by omega) _ _ _ hR hS (lv_sub hl [4, 5, 6, 3, 2, 1, 0] rfl)
          refine lv_bipush (v := (-5)) hx hb dX9_lapsNeeded_116 (by decide) ?_
          exact gm_iret hx hb hr hlocks hS (by (try simp only [p_X9_lapsNeeded, ↓if_neg c_2, ↓if_neg c_4, ↓if_neg c_5, ↓if_pos c_6, ← eX1]); (try rfl)) (by (try simp only [p_X9_lapsNeeded, ↓if_neg c_2, ↓if_neg c_4, ↓if_neg c_5, ↓if_pos c_6, ← eX1]); exact hR) dX9_lapsNeeded_118
        · try rw [if_neg c_6] at hok
          refine lv_bipush (v := (-2)) hx hb dX9_lapsNeeded_36 (by decide) ?_
          exact gm_iret hx hb hr hlocks hS (by (try simp only [p_X9_lapsNeeded, ↓if_neg c_2, ↓if_neg c_4, ↓if_neg c_5, ↓if_neg c_6]); (try rfl)) (by (try simp only [p_X9_lapsNeeded, ↓if_neg c_2, ↓if_neg c_4, ↓if_neg c_5, ↓if_neg c_6]); exact hR) dX9_lapsNeeded_38
    · try rw [if_pos c_4] at hok
      refine lv_iconst (v := (-1)) hx hb dX9_lapsNeeded_16 (by decide) ?_
      exact gm_iret hx hb hr hlocks hS (by (try simp only [p_X9_lapsNeeded, ↓if_neg c_2, ↓if_pos c_4]); (try rfl)) (by (try simp only [p_X9_lapsNeeded, ↓if_neg c_2, ↓if_pos c_4]); exact hR) dX9_lapsNeeded_17
def f_X9_event (X : gM) (a1 : Int32) (a2 : Int32) : Int32 :=
  if a1 < 0 then
    (-2)
  else
    if f_X9_in a2 0 4 = 0 then
      (-2)
    else
      if X 1 9 ≤ a1 then
        (-5)
      else
        X 1 (((234 + (5 * a1)) + a2).toNatClampNeg)
def ok_X9_event (X : gM) (a1 : Int32) (a2 : Int32) : Prop :=
  (if a1 < 0 then
    True
  else
    (if f_X9_in a2 0 4 = 0 then
      True
    else
      (if X 1 9 ≤ a1 then
        True
      else
        (vp_in ((234 + (5 * a1)) + a2) 974) ∧
        True)))
set_option maxHeartbeats 4000000 in
set_option maxRecDepth 100000 in
theorem c_X9_event (l : Launch) (D : va_G) (cy : Nat → ClassId) (μ : Nat) (X : gM) (a1 : Int32) (a2 : Int32)  (hok : ok_X9_event X a1 a2) : Met l yX9_event wsX9_event ({ frames := 1, cells := 0, slots := 0, locals := 22 }) (gP [.ref μ, .int a1, .int a2] D cy (MR D cy μ X)) (gQi (f_X9_event X a1 a2) (fun _ => True) gNo) 0 0 gNo := by
  refine gm_met (cc := cX9_event) (maxL := 3) (ret := (some .int)) [.ref μ, .int a1, .int a2] (by decide) rfl (Nat.le_of_ble_eq_true rfl) ?_
  intro p e s m args below meth c0 ls C hR hl
  obtain ⟨hx, hb, hr, hts, hown, hlocks, hml, hK⟩ := C
  have hl : lv_has ls 3 [(0, .ref μ), (1, .int a1), (2, .int a2)] := hl
  have hS : va_S gNo s.heap s.heap [] := va_S.rf
  have lk7 := hts (.fieldLink RX9 7 "MercuryLineModel" "s" "[I") (by decide +kernel)
  have inX9 : ∀ w ∈ u_ws RX9 TX9 15, w ∈ wsX9_event := by decide +kernel
  unfold ok_X9_event at hok
  refine lv_iload_n hx hb dX9_event_0 rfl (lv_at hl 1 rfl) ?_
  refine lv_if_lt (tgt := 13) hx hb dX9_event_1 (by decide) (fun c_1 => ?_) (fun c_1 => ?_)
  · try rw [if_pos c_1] at hok
    refine lv_bipush (v := (-2)) hx hb dX9_event_13 (by decide) ?_
    exact gm_iret hx hb hr hlocks hS (by (try simp only [f_X9_event, ↓if_pos c_1]); (try rfl)) trivial dX9_event_15
  · try rw [if_neg c_1] at hok
    refine lv_iload_n hx hb dX9_event_4 rfl (lv_at hl 2 rfl) ?_
    refine lv_iconst (v := 0) hx hb dX9_event_5 (by decide) ?_
    refine lv_iconst (v := 4) hx hb dX9_event_6 (by decide) ?_
    refine gm_ci (gm_callS (As := [.int a2, .int 0, .int 4]) (rest := []) ⟨hx, hb, hml, hown, hts⟩ hK (c_X9_in l D cy a2 0 4) (va_cwS 3 hts gX9_event_X9_in rfl rfl rfl (by decide +kernel) ⟨Nat.le_of_ble_eq_true rfl, Nat.le_of_ble_eq_true rfl⟩) trivial rfl hl.1 rfl (Nat.le_of_ble_eq_true rfl) dX9_event_7 (Nat.zero_le _) (Nat.zero_le _)) hS (fun _ h => h.elim) (fun H locs _ _ hfr hS => ?_)
    have hR := gRep.keep hR hfr (fun _ _ h => h)
    refine lv_if_ne (tgt := 16) hx hb dX9_event_10 (by decide) (fun c_2 => ?_) (fun c_2 => ?_)
    · try rw [if_neg c_2] at hok
      refine lv_iload_n hx hb dX9_event_16 rfl (lv_at hl 1 rfl) ?_
      refine lv_aload_n hx hb dX9_event_17 rfl (lv_at hl 0 rfl) ?_
      refine va_get (D := D) (ci := 9) (v := .ref (μ + 1)) (C := RX9) (T := TX9) (N := 15) hx hb hts inX9 hown hK.1 (MR.mk0 hR) 0 rfl rfl 0 (by decide) lk7 (fun _ h9 => h9) rfl dX9_event_18 ?_
      refine lv_bipush (v := 9) hx hb dX9_event_21 (by decide) ?_
      refine gm_iald hx hb hK.1 (MR.mk1 hR (c := 1) (by decide) bM_1) (vp_in_iff.mpr (by decide)) dX9_event_23 ?_
      rw [show (9 : Int32).toNatClampNeg = 9 from by decide]
      refine lv_icmp_ge (tgt := 44) hx hb dX9_event_24 (by decide) (fun c_3 => ?_) (fun c_3 => ?_)
      · try rw [if_pos c_3] at hok
        refine lv_bipush (v := (-5)) hx hb dX9_event_44 (by decide) ?_
        exact gm_iret hx hb hr hlocks hS (by (try simp only [f_X9_event, ↓if_neg c_1, ↓if_neg c_2, ↓if_pos c_3]); (try rfl)) trivial dX9_event_46
      · try rw [if_neg c_3] at hok
        refine lv_aload_n hx hb dX9_event_27 rfl (lv_at hl 0 rfl) ?_
        refine va_get (D := D) (ci := 9) (v := .ref (μ + 1)) (C := RX9) (T := TX9) (N := 15) hx hb hts inX9 hown hK.1 (MR.mk0 hR) 0 rfl rfl 0 (by decide) lk7 (fun _ h9 => h9) rfl dX9_event_28 ?_
        refine lv_sipush (v := 234) hx hb dX9_event_31 (by decide) ?_
        refine lv_iconst (v := 5) hx hb dX9_event_34 (by decide) ?_
        refine lv_iload_n hx hb dX9_event_35 rfl (lv_at hl 1 rfl) ?_
        refine lv_imul hx hb dX9_event_36 ?_
        refine lv_iadd hx hb dX9_event_37 ?_
        refine lv_iload_n hx hb dX9_event_38 rfl (lv_at hl 2 rfl) ?_
        refine lv_iadd hx hb dX9_event_39 ?_
        obtain ⟨h_4, hok⟩ := hok
        refine gm_iald hx hb hK.1 (MR.mk1 hR (c := 1) (by decide) bM_1) h_4 dX9_event_40 ?_
        refine lv_goto (tgt := 46) hx hb dX9_event_41 (by decide) ?_
        exact gm_iret hx hb hr hlocks hS (by (try simp only [f_X9_event, ↓if_neg c_1, ↓if_neg c_2, ↓if_neg c_3]); (try rfl)) trivial dX9_event_46
    · try rw [if_pos c_2] at hok
      refine lv_bipush (v := (-2)) hx hb dX9_event_13 (by decide) ?_
      exact gm_iret hx hb hr hlocks hS (by (try simp only [f_X9_event, ↓if_neg c_1, ↓if_pos c_2]); (try rfl)) trivial dX9_event_15
def f_X9_count (X : gM) (a1 : Int32) : Int32 :=
  if f_X9_in a1 2 10 = 0 then
    if a1 = 0 then
      X 1 0
    else
      if a1 = 1 then
        X 1 1
      else
        if a1 = 2 then
          (-2)
        else
          if a1 = 3 then
            (-2)
          else
            if a1 = 4 then
              (-2)
            else
              if a1 = 5 then
                (-2)
              else
                if a1 = 6 then
                  (-2)
                else
                  if a1 = 7 then
                    (-2)
                  else
                    if a1 = 8 then
                      (-2)
                    else
                      if a1 = 9 then
                        (-2)
                      else
                        if a1 = 10 then
                          (-2)
                        else
                          if a1 = 11 then
                            X 1 3
                          else
                            if a1 = 12 then
                              X 1 4
                            else
                              if a1 = 13 then
                                X 1 5
                              else
                                if a1 = 14 then
                                  ((X 1 3) - (X 1 4)) - (X 1 5)
                                else
                                  if a1 = 15 then
                                    X 1 6
                                  else
                                    if a1 = 16 then
                                      X 1 7
                                    else
                                      if a1 = 17 then
                                        X 1 2
                                      else
                                        if a1 = 18 then
                                          X 1 8
                                        else
                                          if a1 = 19 then
                                            X 0 2
                                          else
                                            if a1 = 20 then
                                              X 0 7
                                            else
                                              (-2)
  else
    f_X9_inState X (a1 - 2)
def ok_X9_count (X : gM) (a1 : Int32) : Prop :=
  (if f_X9_in a1 2 10 = 0 then
    True
  else
    (ok_X9_inState X (a1 - 2)) ∧
    True)
set_option maxHeartbeats 4000000 in
set_option maxRecDepth 100000 in
theorem c_X9_count (l : Launch) (D : va_G) (cy : Nat → ClassId) (μ : Nat) (X : gM) (a1 : Int32)  (hok : ok_X9_count X a1) : Met l yX9_count wsX9_count ({ frames := 2, cells := 0, slots := 0, locals := 45 }) (gP [.ref μ, .int a1] D cy (MR D cy μ X)) (gQi (f_X9_count X a1) (fun _ => True) gNo) 0 0 gNo := by
  refine gm_met (cc := cX9_count) (maxL := 2) (ret := (some .int)) [.ref μ, .int a1] (by decide) rfl (Nat.le_of_ble_eq_true rfl) ?_
  intro p e s m args below meth c0 ls C hR hl
  obtain ⟨hx, hb, hr, hts, hown, hlocks, hml, hK⟩ := C
  have hl : lv_has ls 2 [(0, .ref μ), (1, .int a1)] := hl
  have hS : va_S gNo s.heap s.heap [] := va_S.rf
  have lk7 := hts (.fieldLink RX9 7 "MercuryLineModel" "s" "[I") (by decide +kernel)
  have inX9 : ∀ w ∈ u_ws RX9 TX9 15, w ∈ wsX9_count := by decide +kernel
  have lk29 := hts (.fieldLink RX9 29 "MercuryLineModel" "kept" "I") (by decide +kernel)
  have lk149 := hts (.fieldLink RX9 149 "MercuryLineModel" "length" "I") (by decide +kernel)
  unfold ok_X9_count at hok
  refine lv_iload_n hx hb dX9_count_0 rfl (lv_at hl 1 rfl) ?_
  refine lv_iconst (v := 2) hx hb dX9_count_1 (by decide) ?_
  refine lv_bipush (v := 10) hx hb dX9_count_2 (by decide) ?_
  refine gm_ci (gm_callS (As := [.int a1, .int 2, .int 10]) (rest := []) ⟨hx, hb, hml, hown, hts⟩ hK (c_X9_in l D cy a1 2 10) (va_cwS 3 hts gX9_count_X9_in rfl rfl rfl (by decide +kernel) ⟨Nat.le_of_ble_eq_true rfl, Nat.le_of_ble_eq_true rfl⟩) trivial rfl hl.1 rfl (Nat.le_of_ble_eq_true rfl) dX9_count_4 (Nat.zero_le _) (Nat.zero_le _)) hS (fun _ h => h.elim) (fun H locs _ _ hfr hS => ?_)
  have hR := gRep.keep hR hfr (fun _ _ h => h)
  refine lv_if_eq (tgt := 18) hx hb dX9_count_7 (by decide) (fun c_1 => ?_) (fun c_1 => ?_)
  · try rw [if_pos c_1] at hok
    refine lv_iload_n hx hb dX9_count_18 rfl (lv_at hl 1 rfl) ?_
    rcases Decidable.em (a1 = 0) with c_2 | c_2
    · try rw [if_pos c_2] at hok
      refine lv_tableIn (tgt := 116) hx hb dX9_count_19 (by rw [c_2]; decide) (by rw [c_2]; decide) (by rw [c_2]; rfl) (by decide) ?_
      refine lv_aload_n hx hb dX9_count_116 rfl (lv_at hl 0 rfl) ?_
      refine va_get (D := D) (ci := 9) (v := .ref (μ + 1)) (C := RX9) (T := TX9) (N := 15) hx hb hts inX9 hown hK.1 (MR.mk0 hR) 0 rfl rfl 0 (by decide) lk7 (fun _ h9 => h9) rfl dX9_count_117 ?_
      refine lv_iconst (v := 0) hx hb dX9_count_120 (by decide) ?_
      refine gm_iald hx hb hK.1 (MR.mk1 hR (c := 1) (by decide) bM_1) (vp_in_iff.mpr (by decide)) dX9_count_121 ?_
      rw [show (0 : Int32).toNatClampNeg = 0 from by decide]
      exact gm_iret hx hb hr hlocks hS (by (try simp only [f_X9_count, ↓if_pos c_1, ↓if_pos c_2]); (try rfl)) trivial dX9_count_122
    · skip
      try rw [if_neg c_2] at hok
      rcases Decidable.em (a1 = 1) with c_3 | c_3
      · try rw [if_pos c_3] at hok
        refine lv_tableIn (tgt := 123) hx hb dX9_count_19 (by rw [c_3]; decide) (by rw [c_3]; decide) (by rw [c_3]; rfl) (by decide) ?_
        refine lv_aload_n hx hb dX9_count_123 rfl (lv_at hl 0 rfl) ?_
        refine va_get (D := D) (ci := 9) (v := .ref (μ + 1)) (C := RX9) (T := TX9) (N := 15) hx hb hts inX9 hown hK.1 (MR.mk0 hR) 0 rfl rfl 0 (by decide) lk7 (fun _ h9 => h9) rfl dX9_count_124 ?_
        refine lv_iconst (v := 1) hx hb dX9_count_127 (by decide) ?_
        refine gm_iald hx hb hK.1 (MR.mk1 hR (c := 1) (by decide) bM_1) (vp_in_iff.mpr (by decide)) dX9_count_128 ?_
        rw [show (1 : Int32).toNatClampNeg = 1 from by decide]
        exact gm_iret hx hb hr hlocks hS (by (try simp only [f_X9_count, ↓if_pos c_1, ↓if_neg c_2, ↓if_pos c_3]); (try rfl)) trivial dX9_count_129
      · skip
        try rw [if_neg c_3] at hok
        rcases Decidable.em (a1 = 2) with c_4 | c_4
        · try rw [if_pos c_4] at hok
          refine lv_tableIn (tgt := 213) hx hb dX9_count_19 (by rw [c_4]; decide) (by rw [c_4]; decide) (by rw [c_4]; rfl) (by decide) ?_
          refine lv_bipush (v := (-2)) hx hb dX9_count_213 (by decide) ?_
          exact gm_iret hx hb hr hlocks hS (by (try simp only [f_X9_count, ↓if_pos c_1, ↓if_neg c_2, ↓if_neg c_3, ↓if_pos c_4]); (try rfl)) trivial dX9_count_215
        · skip
          try rw [if_neg c_4] at hok
          rcases Decidable.em (a1 = 3) with c_5 | c_5
          · try rw [if_pos c_5] at hok
            refine lv_tableIn (tgt := 213) hx hb dX9_count_19 (by rw [c_5]; decide) (by rw [c_5]; decide) (by rw [c_5]; rfl) (by decide) ?_
            refine lv_bipush (v := (-2)) hx hb dX9_count_213 (by decide) ?_
            exact gm_iret hx hb hr hlocks hS (by (try simp only [f_X9_count, ↓if_pos c_1, ↓if_neg c_2, ↓if_neg c_3, ↓if_neg c_4, ↓if_pos c_5]); (try rfl)) trivial dX9_count_215
          · skip
            try rw [if_neg c_5] at hok
            rcases Decidable.em (a1 = 4) with c_6 | c_6
            · try rw [if_pos c_6] at hok
              refine lv_tableIn (tgt := 213) hx hb dX9_count_19 (by rw [c_6]; decide) (by rw [c_6]; decide) (by rw [c_6]; rfl) (by decide) ?_
              refine lv_bipush (v := (-2)) hx hb dX9_count_213 (by decide) ?_
              exact gm_iret hx hb hr hlocks hS (by (try simp only [f_X9_count, ↓if_pos c_1, ↓if_neg c_2, ↓if_neg c_3, ↓if_neg c_4, ↓if_neg c_5, ↓if_pos c_6]); (try rfl)) trivial dX9_count_215
            · skip
              try rw [if_neg c_6] at hok
              rcases Decidable.em (a1 = 5) with c_7 | c_7
              · try rw [if_pos c_7] at hok
                refine lv_tableIn (tgt := 213) hx hb dX9_count_19 (by rw [c_7]; decide) (by rw [c_7]; decide) (by rw [c_7]; rfl) (by decide) ?_
                refine lv_bipush (v := (-2)) hx hb dX9_count_213 (by decide) ?_
                exact gm_iret hx hb hr hlocks hS (by (try simp only [f_X9_count, ↓if_pos c_1, ↓if_neg c_2, ↓if_neg c_3, ↓if_neg c_4, ↓if_neg c_5, ↓if_neg c_6, ↓if_pos c_7]); (try rfl)) trivial dX9_count_215
              · skip
                try rw [if_neg c_7] at hok
                rcases Decidable.em (a1 = 6) with c_8 | c_8
                · try rw [if_pos c_8] at hok
                  refine lv_tableIn (tgt := 213) hx hb dX9_count_19 (by rw [c_8]; decide) (by rw [c_8]; decide) (by rw [c_8]; rfl) (by decide) ?_
                  refine lv_bipush (v := (-2)) hx hb dX9_count_213 (by decide) ?_
                  exact gm_iret hx hb hr hlocks hS (by (try simp only [f_X9_count, ↓if_pos c_1, ↓if_neg c_2, ↓if_neg c_3, ↓if_neg c_4, ↓if_neg c_5, ↓if_neg c_6, ↓if_neg c_7, ↓if_pos c_8]); (try rfl)) trivial dX9_count_215
                · skip
                  try rw [if_neg c_8] at hok
                  rcases Decidable.em (a1 = 7) with c_9 | c_9
                  · try rw [if_pos c_9] at hok
                    refine lv_tableIn (tgt := 213) hx hb dX9_count_19 (by rw [c_9]; decide) (by rw [c_9]; decide) (by rw [c_9]; rfl) (by decide) ?_
                    refine lv_bipush (v := (-2)) hx hb dX9_count_213 (by decide) ?_
                    exact gm_iret hx hb hr hlocks hS (by (try simp only [f_X9_count, ↓if_pos c_1, ↓if_neg c_2, ↓if_neg c_3, ↓if_neg c_4, ↓if_neg c_5, ↓if_neg c_6, ↓if_neg c_7, ↓if_neg c_8, ↓if_pos c_9]); (try rfl)) trivial dX9_count_215
                  · skip
                    try rw [if_neg c_9] at hok
                    rcases Decidable.em (a1 = 8) with c_10 | c_10
                    · try rw [if_pos c_10] at hok
                      refine lv_tableIn (tgt := 213) hx hb dX9_count_19 (by rw [c_10]; decide) (by rw [c_10]; decide) (by rw [c_10]; rfl) (by decide) ?_
                      refine lv_bipush (v := (-2)) hx hb dX9_count_213 (by decide) ?_
                      exact gm_iret hx hb hr hlocks hS (by (try simp only [f_X9_count, ↓if_pos c_1, ↓if_neg c_2, ↓if_neg c_3, ↓if_neg c_4, ↓if_neg c_5, ↓if_neg c_6, ↓if_neg c_7, ↓if_neg c_8, ↓if_neg c_9, ↓if_pos c_10]); (try rfl)) trivial dX9_count_215
                    · skip
                      try rw [if_neg c_10] at hok
                      rcases Decidable.em (a1 = 9) with c_11 | c_11
                      · try rw [if_pos c_11] at hok
                        refine lv_tableIn (tgt := 213) hx hb dX9_count_19 (by rw [c_11]; decide) (by rw [c_11]; decide) (by rw [c_11]; rfl) (by decide) ?_
                        refine lv_bipush (v := (-2)) hx hb dX9_count_213 (by decide) ?_
                        exact gm_iret hx hb hr hlocks hS (by (try simp only [f_X9_count, ↓if_pos c_1, ↓if_neg c_2, ↓if_neg c_3, ↓if_neg c_4, ↓if_neg c_5, ↓if_neg c_6, ↓if_neg c_7, ↓if_neg c_8, ↓if_neg c_9, ↓if_neg c_10, ↓if_pos c_11]); (try rfl)) trivial dX9_count_215
                      · skip
                        try rw [if_neg c_11] at hok
                        rcases Decidable.em (a1 = 10) with c_12 | c_12
                        · try rw [if_pos c_12] at hok
                          refine lv_tableIn (tgt := 213) hx hb dX9_count_19 (by rw [c_12]; decide) (by rw [c_12]; decide) (by rw [c_12]; rfl) (by decide) ?_
                          refine lv_bipush (v := (-2)) hx hb dX9_count_213 (by decide) ?_
                          exact gm_iret hx hb hr hlocks hS (by (try simp only [f_X9_count, ↓if_pos c_1, ↓if_neg c_2, ↓if_neg c_3, ↓if_neg c_4, ↓if_neg c_5, ↓if_neg c_6, ↓if_neg c_7, ↓if_neg c_8, ↓if_neg c_9, ↓if_neg c_10, ↓if_neg c_11, ↓if_pos c_12]); (try rfl)) trivial dX9_count_215
                        · skip
                          try rw [if_neg c_12] at hok
                          rcases Decidable.em (a1 = 11) with c_13 | c_13
                          · try rw [if_pos c_13] at hok
                            refine lv_tableIn (tgt := 130) hx hb dX9_count_19 (by rw [c_13]; decide) (by rw [c_13]; decide) (by rw [c_13]; rfl) (by decide) ?_
                            refine lv_aload_n hx hb dX9_count_130 rfl (lv_at hl 0 rfl) ?_
                            refine va_get (D := D) (ci := 9) (v := .ref (μ + 1)) (C := RX9) (T := TX9) (N := 15) hx hb hts inX9 hown hK.1 (MR.mk0 hR) 0 rfl rfl 0 (by decide) lk7 (fun _ h9 => h9) rfl dX9_count_131 ?_
                            refine lv_iconst (v := 3) hx hb dX9_count_134 (by decide) ?_
                            refine gm_iald hx hb hK.1 (MR.mk1 hR (c := 1) (by decide) bM_1) (vp_in_iff.mpr (by decide)) dX9_count_135 ?_
                            rw [show (3 : Int32).toNatClampNeg = 3 from by decide]
                            exact gm_iret hx hb hr hlocks hS (by (try simp only [f_X9_count, ↓if_pos c_1, ↓if_neg c_2, ↓if_neg c_3, ↓if_neg c_4, ↓if_neg c_5, ↓if_neg c_6, ↓if_neg c_7, ↓if_neg c_8, ↓if_neg c_9, ↓if_neg c_10, ↓if_neg c_11, ↓if_neg c_12, ↓if_pos c_13]); (try rfl)) trivial dX9_count_136
                          · skip
                            try rw [if_neg c_13] at hok
                            rcases Decidable.em (a1 = 12) with c_14 | c_14
                            · try rw [if_pos c_14] at hok
                              refine lv_tableIn (tgt := 137) hx hb dX9_count_19 (by rw [c_14]; decide) (by rw [c_14]; decide) (by rw [c_14]; rfl) (by decide) ?_
                              refine lv_aload_n hx hb dX9_count_137 rfl (lv_at hl 0 rfl) ?_
                              refine va_get (D := D) (ci := 9) (v := .ref (μ + 1)) (C := RX9) (T := TX9) (N := 15) hx hb hts inX9 hown hK.1 (MR.mk0 hR) 0 rfl rfl 0 (by decide) lk7 (fun _ h9 => h9) rfl dX9_count_138 ?_
                              refine lv_iconst (v := 4) hx hb dX9_count_141 (by decide) ?_
                              refine gm_iald hx hb hK.1 (MR.mk1 hR (c := 1) (by decide) bM_1) (vp_in_iff.mpr (by decide)) dX9_count_142 ?_
                              rw [show (4 : Int32).toNatClampNeg = 4 from by decide]
                              exact gm_iret hx hb hr hlocks hS (by (try simp only [f_X9_count, ↓if_pos c_1, ↓if_neg c_2, ↓if_neg c_3, ↓if_neg c_4, ↓if_neg c_5, ↓if_neg c_6, ↓if_neg c_7, ↓if_neg c_8, ↓if_neg c_9, ↓if_neg c_10, ↓if_neg c_11, ↓if_neg c_12, ↓if_neg c_13, ↓if_pos c_14]); (try rfl)) trivial dX9_count_143
                            · skip
                              try rw [if_neg c_14] at hok
                              rcases Decidable.em (a1 = 13) with c_15 | c_15
                              · try rw [if_pos c_15] at hok
                                refine lv_tableIn (tgt := 144) hx hb dX9_count_19 (by rw [c_15]; decide) (by rw [c_15]; decide) (by rw [c_15]; rfl) (by decide) ?_
                                refine lv_aload_n hx hb dX9_count_144 rfl (lv_at hl 0 rfl) ?_
                                refine va_get (D := D) (ci := 9) (v := .ref (μ + 1)) (C := RX9) (T := TX9) (N := 15) hx hb hts inX9 hown hK.1 (MR.mk0 hR) 0 rfl rfl 0 (by decide) lk7 (fun _ h9 => h9) rfl dX9_count_145 ?_
                                refine lv_iconst (v := 5) hx hb dX9_count_148 (by decide) ?_
                                refine gm_iald hx hb hK.1 (MR.mk1 hR (c := 1) (by decide) bM_1) (vp_in_iff.mpr (by decide)) dX9_count_149 ?_
                                rw [show (5 : Int32).toNatClampNeg = 5 from by decide]
                                exact gm_iret hx hb hr hlocks hS (by (try simp only [f_X9_count, ↓if_pos c_1, ↓if_neg c_2, ↓if_neg c_3, ↓if_neg c_4, ↓if_neg c_5, ↓if_neg c_6, ↓if_neg c_7, ↓if_neg c_8, ↓if_neg c_9, ↓if_neg c_10, ↓if_neg c_11, ↓if_neg c_12, ↓if_neg c_13, ↓if_neg c_14, ↓if_pos c_15]); (try rfl)) trivial dX9_count_150
                              · skip
                                try rw [if_neg c_15] at hok
                                rcases Decidable.em (a1 = 14) with c_16 | c_16
                                · try rw [if_pos c_16] at hok
                                  refine lv_tableIn (tgt := 151) hx hb dX9_count_19 (by rw [c_16]; decide) (by rw [c_16]; decide) (by rw [c_16]; rfl) (by decide) ?_
                                  refine lv_aload_n hx hb dX9_count_151 rfl (lv_at hl 0 rfl) ?_
                                  refine va_get (D := D) (ci := 9) (v := .ref (μ + 1)) (C := RX9) (T := TX9) (N := 15) hx hb hts inX9 hown hK.1 (MR.mk0 hR) 0 rfl rfl 0 (by decide) lk7 (fun _ h9 => h9) rfl dX9_count_152 ?_
                                  refine lv_iconst (v := 3) hx hb dX9_count_155 (by decide) ?_
                                  refine gm_iald hx hb hK.1 (MR.mk1 hR (c := 1) (by decide) bM_1) (vp_in_iff.mpr (by decide)) dX9_count_156 ?_
                                  rw [show (3 : Int32).toNatClampNeg = 3 from by decide]
                                  refine lv_aload_n hx hb dX9_count_157 rfl (lv_at hl 0 rfl) ?_
                                  refine va_get (D := D) (ci := 9) (v := .ref (μ + 1)) (C := RX9) (T := TX9) (N := 15) hx hb hts inX9 hown hK.1 (MR.mk0 hR) 0 rfl rfl 0 (by decide) lk7 (fun _ h9 => h9) rfl dX9_count_158 ?_
                                  refine lv_iconst (v := 4) hx hb dX9_count_161 (by decide) ?_
                                  refine gm_iald hx hb hK.1 (MR.mk1 hR (c := 1) (by decide) bM_1) (vp_in_iff.mpr (by decide)) dX9_count_162 ?_
                                  rw [show (4 : Int32).toNatClampNeg = 4 from by decide]
                                  refine lv_isub hx hb dX9_count_163 ?_
                                  refine lv_aload_n hx hb dX9_count_164 rfl (lv_at hl 0 rfl) ?_
                                  refine va_get (D := D) (ci := 9) (v := .ref (μ + 1)) (C := RX9) (T := TX9) (N := 15) hx hb hts inX9 hown hK.1 (MR.mk0 hR) 0 rfl rfl 0 (by decide) lk7 (fun _ h9 => h9) rfl dX9_count_165 ?_
                                  refine lv_iconst (v := 5) hx hb dX9_count_168 (by decide) ?_
                                  refine gm_iald hx hb hK.1 (MR.mk1 hR (c := 1) (by decide) bM_1) (vp_in_iff.mpr (by decide)) dX9_count_169 ?_
                                  rw [show (5 : Int32).toNatClampNeg = 5 from by decide]
                                  refine lv_isub hx hb dX9_count_170 ?_
                                  exact gm_iret hx hb hr hlocks hS (by (try simp only [f_X9_count, ↓if_pos c_1, ↓if_neg c_2, ↓if_neg c_3, ↓if_neg c_4, ↓if_neg c_5, ↓if_neg c_6, ↓if_neg c_7, ↓if_neg c_8, ↓if_neg c_9, ↓if_neg c_10, ↓if_neg c_11, ↓if_neg c_12, ↓if_neg c_13, ↓if_neg c_14, ↓if_neg c_15, ↓if_pos c_16]); (try rfl)) trivial dX9_count_171
                                · skip
                                  try rw [if_neg c_16] at hok
                                  rcases Decidable.em (a1 = 15) with c_17 | c_17
                                  · try rw [if_pos c_17] at hok
                                    refine lv_tableIn (tgt := 172) hx hb dX9_count_19 (by rw [c_17]; decide) (by rw [c_17]; decide) (by rw [c_17]; rfl) (by decide) ?_
                                    refine lv_aload_n hx hb dX9_count_172 rfl (lv_at hl 0 rfl) ?_
                                    refine va_get (D := D) (ci := 9) (v := .ref (μ + 1)) (C := RX9) (T := TX9) (N := 15) hx hb hts inX9 hown hK.1 (MR.mk0 hR) 0 rfl rfl 0 (by decide) lk7 (fun _ h9 => h9) rfl dX9_count_173 ?_
                                    refine lv_bipush (v := 6) hx hb dX9_count_176 (by decide) ?_
                                    refine gm_iald hx hb hK.1 (MR.mk1 hR (c := 1) (by decide) bM_1) (vp_in_iff.mpr (by decide)) dX9_count_178 ?_
                                    rw [show (6 : Int32).toNatClampNeg = 6 from by decide]
                                    exact gm_iret hx hb hr hlocks hS (by (try simp only [f_X9_count, ↓if_pos c_1, ↓if_neg c_2, ↓if_neg c_3, ↓if_neg c_4, ↓if_neg c_5, ↓if_neg c_6, ↓if_neg c_7, ↓if_neg c_8, ↓if_neg c_9, ↓if_neg c_10, ↓if_neg c_11, ↓if_neg c_12, ↓if_neg c_13, ↓if_neg c_14, ↓if_neg c_15, ↓if_neg c_16, ↓if_pos c_17]); (try rfl)) trivial dX9_count_179
                                  · skip
                                    try rw [if_neg c_17] at hok
                                    rcases Decidable.em (a1 = 16) with c_18 | c_18
                                    · try rw [if_pos c_18] at hok
                                      refine lv_tableIn (tgt := 180) hx hb dX9_count_19 (by rw [c_18]; decide) (by rw [c_18]; decide) (by rw [c_18]; rfl) (by decide) ?_
                                      refine lv_aload_n hx hb dX9_count_180 rfl (lv_at hl 0 rfl) ?_
                                      refine va_get (D := D) (ci := 9) (v := .ref (μ + 1)) (C := RX9) (T := TX9) (N := 15) hx hb hts inX9 hown hK.1 (MR.mk0 hR) 0 rfl rfl 0 (by decide) lk7 (fun _ h9 => h9) rfl dX9_count_181 ?_
                                      refine lv_bipush (v := 7) hx hb dX9_count_184 (by decide) ?_
                                      refine gm_iald hx hb hK.1 (MR.mk1 hR (c := 1) (by decide) bM_1) (vp_in_iff.mpr (by decide)) dX9_count_186 ?_
                                      rw [show (7 : Int32).toNatClampNeg = 7 from by decide]
                                      exact gm_iret hx hb hr hlocks hS (by (try simp only [f_X9_count, ↓if_pos c_1, ↓if_neg c_2, ↓if_neg c_3, ↓if_neg c_4, ↓if_neg c_5, ↓if_neg c_6, ↓if_neg c_7, ↓if_neg c_8, ↓if_neg c_9, ↓if_neg c_10, ↓if_neg c_11, ↓if_neg c_12, ↓if_neg c_13, ↓if_neg c_14, ↓if_neg c_15, ↓if_neg c_16, ↓if_neg c_17, ↓if_pos c_18]); (try rfl)) trivial dX9_count_187
                                    · skip
                                      try rw [if_neg c_18] at hok
                                      rcases Decidable.em (a1 = 17) with c_19 | c_19
                                      · try rw [if_pos c_19] at hok
                                        refine lv_tableIn (tgt := 188) hx hb dX9_count_19 (by rw [c_19]; decide) (by rw [c_19]; decide) (by rw [c_19]; rfl) (by decide) ?_
                                        refine lv_aload_n hx hb dX9_count_188 rfl (lv_at hl 0 rfl) ?_
                                        refine va_get (D := D) (ci := 9) (v := .ref (μ + 1)) (C := RX9) (T := TX9) (N := 15) hx hb hts inX9 hown hK.1 (MR.mk0 hR) 0 rfl rfl 0 (by decide) lk7 (fun _ h9 => h9) rfl dX9_count_189 ?_
                                        refine lv_iconst (v := 2) hx hb dX9_count_192 (by decide) ?_
                                        refine gm_iald hx hb hK.1 (MR.mk1 hR (c := 1) (by decide) bM_1) (vp_in_iff.mpr (by decide)) dX9_count_193 ?_
                                        rw [show (2 : Int32).toNatClampNeg = 2 from by decide]
                                        exact gm_iret hx hb hr hlocks hS (by (try simp only [f_X9_count, ↓if_pos c_1, ↓if_neg c_2, ↓if_neg c_3, ↓if_neg c_4, ↓if_neg c_5, ↓if_neg c_6, ↓if_neg c_7, ↓if_neg c_8, ↓if_neg c_9, ↓if_neg c_10, ↓if_neg c_11, ↓if_neg c_12, ↓if_neg c_13, ↓if_neg c_14, ↓if_neg c_15, ↓if_neg c_16, ↓if_neg c_17, ↓if_neg c_18, ↓if_pos c_19]); (try rfl)) trivial dX9_count_194
                                      · skip
                                        try rw [if_neg c_19] at hok
                                        rcases Decidable.em (a1 = 18) with c_20 | c_20
                                        · try rw [if_pos c_20] at hok
                                          refine lv_tableIn (tgt := 195) hx hb dX9_count_19 (by rw [c_20]; decide) (by rw [c_20]; decide) (by rw [c_20]; rfl) (by decide) ?_
                                          refine lv_aload_n hx hb dX9_count_195 rfl (lv_at hl 0 rfl) ?_
                                          refine va_get (D := D) (ci := 9) (v := .ref (μ + 1)) (C := RX9) (T := TX9) (N := 15) hx hb hts inX9 hown hK.1 (MR.mk0 hR) 0 rfl rfl 0 (by decide) lk7 (fun _ h9 => h9) rfl dX9_count_196 ?_
                                          refine lv_bipush (v := 8) hx hb dX9_count_199 (by decide) ?_
                                          refine gm_iald hx hb hK.1 (MR.mk1 hR (c := 1) (by decide) bM_1) (vp_in_iff.mpr (by decide)) dX9_count_201 ?_
                                          rw [show (8 : Int32).toNatClampNeg = 8 from by decide]
                                          exact gm_iret hx hb hr hlocks hS (by (try simp only [f_X9_count, ↓if_pos c_1, ↓if_neg c_2, ↓if_neg c_3, ↓if_neg c_4, ↓if_neg c_5, ↓if_neg c_6, ↓if_neg c_7, ↓if_neg c_8, ↓if_neg c_9, ↓if_neg c_10, ↓if_neg c_11, ↓if_neg c_12, ↓if_neg c_13, ↓if_neg c_14, ↓if_neg c_15, ↓if_neg c_16, ↓if_neg c_17, ↓if_neg c_18, ↓if_neg c_19, ↓if_pos c_20]); (try rfl)) trivial dX9_count_202
                                        · skip
                                          try rw [if_neg c_20] at hok
                                          rcases Decidable.em (a1 = 19) with c_21 | c_21
                                          · try rw [if_pos c_21] at hok
                                            refine lv_tableIn (tgt := 203) hx hb dX9_count_19 (by rw [c_21]; decide) (by rw [c_21]; decide) (by rw [c_21]; rfl) (by decide) ?_
                                            refine lv_aload_n hx hb dX9_count_203 rfl (lv_at hl 0 rfl) ?_
                                            refine va_get (D := D) (ci := 9) (v := .int (X 0 2)) (C := RX9) (T := TX9) (N := 15) hx hb hts inX9 hown hK.1 (MR.mk0 hR) 0 rfl rfl 2 (by decide) lk29 (fun _ h9 => h9) rfl dX9_count_204 ?_
                                            exact gm_iret hx hb hr hlocks hS (by (try simp only [f_X9_count, ↓if_pos c_1, ↓if_neg c_2, ↓if_neg c_3, ↓if_neg c_4, ↓if_neg c_5, ↓if_neg c_6, ↓if_neg c_7, ↓if_neg c_8, ↓if_neg c_9, ↓if_neg c_10, ↓if_neg c_11, ↓if_neg c_12, ↓if_neg c_13, ↓if_neg c_14, ↓if_neg c_15, ↓if_neg c_16, ↓if_neg c_17, ↓if_neg c_18, ↓if_neg c_19, ↓if_neg c_20, ↓if_pos c_21]); (try rfl)) trivial dX9_count_207
                                          · skip
                                            try rw [if_neg c_21] at hok
                                            rcases Decidable.em (a1 = 20) with c_22 | c_22
                                            · try rw [if_pos c_22] at hok
                                              refine lv_tableIn (tgt := 208) hx hb dX9_count_19 (by rw [c_22]; decide) (by rw [c_22]; decide) (by rw [c_22]; rfl) (by decide) ?_
                                              refine lv_aload_n hx hb dX9_count_208 rfl (lv_at hl 0 rfl) ?_
                                              refine va_get (D := D) (ci := 9) (v := .int (X 0 7)) (C := RX9) (T := TX9) (N := 15) hx hb hts inX9 hown hK.1 (MR.mk0 hR) 0 rfl rfl 7 (by decide) lk149 (fun _ h9 => h9) rfl dX9_count_209 ?_
                                              exact gm_iret hx hb hr hlocks hS (by (try simp only [f_X9_count, ↓if_pos c_1, ↓if_neg c_2, ↓if_neg c_3, ↓if_neg c_4, ↓if_neg c_5, ↓if_neg c_6, ↓if_neg c_7, ↓if_neg c_8, ↓if_neg c_9, ↓if_neg c_10, ↓if_neg c_11, ↓if_neg c_12, ↓if_neg c_13, ↓if_neg c_14, ↓if_neg c_15, ↓if_neg c_16, ↓if_neg c_17, ↓if_neg c_18, ↓if_neg c_19, ↓if_neg c_20, ↓if_neg c_21, ↓if_pos c_22]); (try rfl)) trivial dX9_count_212
                                            · skip
                                              try rw [if_neg c_22] at hok
                                              refine lv_tableOut (tgt := 213) hx hb dX9_count_19 (g_sw0_20 c_2 c_3 c_4 c_5 c_6 c_7 c_8 c_9 c_10 c_11 c_12 c_13 c_14 c_15 c_16 c_17 c_18 c_19 c_20 c_21 c_22) (by decide) ?_
                                              refine lv_bipush (v := (-2)) hx hb dX9_count_213 (by decide) ?_
                                              exact gm_iret hx hb hr hlocks hS (by (try simp only [f_X9_count, ↓if_pos c_1, ↓if_neg c_2, ↓if_neg c_3, ↓if_neg c_4, ↓if_neg c_5, ↓if_neg c_6, ↓if_neg c_7, ↓if_neg c_8, ↓if_neg c_9, ↓if_neg c_10, ↓if_neg c_11, ↓if_neg c_12, ↓if_neg c_13, ↓if_neg c_14, ↓if_neg c_15, ↓if_neg c_16, ↓if_neg c_17, ↓if_neg c_18, ↓if_neg c_19, ↓if_neg c_20, ↓if_neg c_21, ↓if_neg c_22]); (try rfl)) trivial dX9_count_215
  · try rw [if_neg c_1] at hok
    refine lv_aload_n hx hb dX9_count_10 rfl (lv_at hl 0 rfl) ?_
    refine lv_iload_n hx hb dX9_count_11 rfl (lv_at hl 1 rfl) ?_
    refine lv_iconst (v := 2) hx hb dX9_count_12 (by decide) ?_
    refine lv_isub hx hb dX9_count_13 ?_
    obtain ⟨h_23, hok⟩ := hok
    refine gm_ci (gm_call (As := [.int (a1 - 2)]) (rest := []) (ci := 9) (q := (RX9, TX9, 15)) ⟨hx, hb, hml, hown, hts⟩ hK (c_X9_inState l D cy μ X (a1 - 2) h_23) (cwV 1 hts gX9_count_X9_inState rfl rfl rfl (by decide +kernel) ⟨Nat.le_of_ble_eq_true rfl, Nat.le_of_ble_eq_true rfl⟩) (MR.mk0 hR) rfl hR rfl hl.1 rfl (Nat.le_of_ble_eq_true rfl) dX9_count_14 (Nat.zero_le _) (Nat.zero_le _)) hS (fun _ h => h.elim) (fun H locs _ _ hfr hS => ?_)
    have hR := gRep.keep hR hfr (fun _ _ h => h)
    exact gm_iret hx hb hr hlocks hS (by (try simp only [f_X9_count, ↓if_neg c_1]); (try rfl)) trivial dX9_count_17
