def f_X9_against (X : gM) (a1 : Int32) (a2 : Int32) (a3 : Int32) (a4 : Int32) (a5 : Int32) : Int32 :=
  if f_X9_isStation X a3 = 0 then
    (-1)
  else
    if f_X9_isStation X a4 = 0 then
      (-1)
    else
      if f_X9_isWord a1 = 0 then
        (-2)
      else
        if f_X9_in a2 1 3 = 0 then
          (-2)
        else
          if f_X9_in a5 1 9 = 0 then
            (-2)
          else
            if a3 = a4 then
              (-2)
            else
              0
def ok_X9_against (X : gM) (a1 : Int32) (a2 : Int32) (a3 : Int32) (a4 : Int32) (a5 : Int32) : Prop :=
  (ok_X9_isStation X a3) ∧
  (if f_X9_isStation X a3 = 0 then
    True
  else
    (ok_X9_isStation X a4) ∧
    True)
set_option maxHeartbeats 4000000 in
set_option maxRecDepth 100000 in
theorem c_X9_against (l : Launch) (D : va_G) (cy : Nat → ClassId) (μ : Nat) (X : gM) (a1 : Int32) (a2 : Int32) (a3 : Int32) (a4 : Int32) (a5 : Int32)  (hok : ok_X9_against X a1 a2 a3 a4 a5) : Met l yX9_against wsX9_against ({ frames := 2, cells := 0, slots := 0, locals := 43 }) (gP [.ref μ, .int a1, .int a2, .int a3, .int a4, .int a5] D cy (MR D cy μ X)) (gQi (f_X9_against X a1 a2 a3 a4 a5) (fun _ => True) gNo) 0 0 gNo := by
  refine gm_met (cc := cX9_against) (maxL := 6) (ret := (some .int)) [.ref μ, .int a1, .int a2, .int a3, .int a4, .int a5] (by decide) rfl (Nat.le_of_ble_eq_true rfl) ?_
  intro p e s m args below meth c0 ls C hR hl
  obtain ⟨hx, hb, hr, hts, hown, hlocks, hml, hK⟩ := C
  have hl : lv_has ls 6 [(0, .ref μ), (1, .int a1), (2, .int a2), (3, .int a3), (4, .int a4), (5, .int a5)] := hl
  have hS : va_S gNo s.heap s.heap [] := va_S.rf
  unfold ok_X9_against at hok
  refine lv_aload_n hx hb dX9_against_0 rfl (lv_at hl 0 rfl) ?_
  refine lv_iload_n hx hb dX9_against_1 rfl (lv_at hl 3 rfl) ?_
  obtain ⟨h_1, hok⟩ := hok
  refine gm_ci (gm_call (As := [.int a3]) (rest := []) (ci := 9) (q := (RX9, TX9, 15)) ⟨hx, hb, hml, hown, hts⟩ hK (c_X9_isStation l D cy μ X a3 h_1) (cwV 1 hts gX9_against_X9_isStation rfl rfl rfl (by decide +kernel) ⟨Nat.le_of_ble_eq_true rfl, Nat.le_of_ble_eq_true rfl⟩) (MR.mk0 hR) rfl hR rfl hl.1 rfl (Nat.le_of_ble_eq_true rfl) dX9_against_2 (Nat.zero_le _) (Nat.zero_le _)) hS (fun _ h => h.elim) (fun H locs _ _ hfr hS => ?_)
  have hR := gRep.keep hR hfr (fun _ _ h => h)
  refine lv_if_eq (tgt := 17) hx hb dX9_against_5 (by decide) (fun c_2 => ?_) (fun c_2 => ?_)
  · try rw [if_pos c_2] at hok
    refine lv_iconst (v := (-1)) hx hb dX9_against_17 (by decide) ?_
    exact gm_iret hx hb hr hlocks hS (by (try simp only [f_X9_against, ↓if_pos c_2]); (try rfl)) trivial dX9_against_18
  · try rw [if_neg c_2] at hok
    refine lv_aload_n hx hb dX9_against_8 rfl (lv_at hl 0 rfl) ?_
    refine lv_iload hx hb dX9_against_9 (lv_at hl 4 rfl) ?_
    obtain ⟨h_3, hok⟩ := hok
    refine gm_ci (gm_call (As := [.int a4]) (rest := []) (ci := 9) (q := (RX9, TX9, 15)) ⟨hx, hb, hml, hown, hts⟩ hK (c_X9_isStation l D cy μ X a4 h_3) (cwV 1 hts gX9_against_X9_isStation rfl rfl rfl (by decide +kernel) ⟨Nat.le_of_ble_eq_true rfl, Nat.le_of_ble_eq_true rfl⟩) (MR.mk0 hR) rfl hR rfl hl.1 rfl (Nat.le_of_ble_eq_true rfl) dX9_against_11 (Nat.zero_le _) (Nat.zero_le _)) hS (fun _ h => h.elim) (fun H locs _ _ hfr hS => ?_)
    have hR := gRep.keep hR hfr (fun _ _ h => h)
    refine lv_if_ne (tgt := 19) hx hb dX9_against_14 (by decide) (fun c_4 => ?_) (fun c_4 => ?_)
    · try rw [if_neg c_4] at hok
      refine lv_iload_n hx hb dX9_against_19 rfl (lv_at hl 1 rfl) ?_
      refine gm_ci (gm_callS (As := [.int a1]) (rest := []) ⟨hx, hb, hml, hown, hts⟩ hK (c_X9_isWord l D cy a1) (va_cwS 1 hts gX9_against_X9_isWord rfl rfl rfl (by decide +kernel) ⟨Nat.le_of_ble_eq_true rfl, Nat.le_of_ble_eq_true rfl⟩) trivial rfl hl.1 rfl (Nat.le_of_ble_eq_true rfl) dX9_against_20 (Nat.zero_le _) (Nat.zero_le _)) hS (fun _ h => h.elim) (fun H locs _ _ hfr hS => ?_)
      have hR := gRep.keep hR hfr (fun _ _ h => h)
      refine lv_if_eq (tgt := 56) hx hb dX9_against_23 (by decide) (fun c_5 => ?_) (fun c_5 => ?_)
      · try rw [if_pos c_5] at hok
        refine lv_bipush (v := (-2)) hx hb dX9_against_56 (by decide) ?_
        exact gm_iret hx hb hr hlocks hS (by (try simp only [f_X9_against, ↓if_neg c_2, ↓if_neg c_4, ↓if_pos c_5]); (try rfl)) trivial dX9_against_58
      · try rw [if_neg c_5] at hok
        refine lv_iload_n hx hb dX9_against_26 rfl (lv_at hl 2 rfl) ?_
        refine lv_iconst (v := 1) hx hb dX9_against_27 (by decide) ?_
        refine lv_iconst (v := 3) hx hb dX9_against_28 (by decide) ?_
        refine gm_ci (gm_callS (As := [.int a2, .int 1, .int 3]) (rest := []) ⟨hx, hb, hml, hown, hts⟩ hK (c_X9_in l D cy a2 1 3) (va_cwS 3 hts gX9_against_X9_in rfl rfl rfl (by decide +kernel) ⟨Nat.le_of_ble_eq_true rfl, Nat.le_of_ble_eq_true rfl⟩) trivial rfl hl.1 rfl (Nat.le_of_ble_eq_true rfl) dX9_against_29 (Nat.zero_le _) (Nat.zero_le _)) hS (fun _ h => h.elim) (fun H locs _ _ hfr hS => ?_)
        have hR := gRep.keep hR hfr (fun _ _ h => h)
        refine lv_if_eq (tgt := 56) hx hb dX9_against_32 (by decide) (fun c_6 => ?_) (fun c_6 => ?_)
        · try rw [if_pos c_6] at hok
          refine lv_bipush (v := (-2)) hx hb dX9_against_56 (by decide) ?_
          exact gm_iret hx hb hr hlocks hS (by (try simp only [f_X9_against, ↓if_neg c_2, ↓if_neg c_4, ↓if_neg c_5, ↓if_pos c_6]); (try rfl)) trivial dX9_against_58
        · try rw [if_neg c_6] at hok
          refine lv_iload hx hb dX9_against_35 (lv_at hl 5 rfl) ?_
          refine lv_iconst (v := 1) hx hb dX9_against_37 (by decide) ?_
          refine lv_bipush (v := 9) hx hb dX9_against_38 (by decide) ?_
          refine gm_ci (gm_callS (As := [.int a5, .int 1, .int 9]) (rest := []) ⟨hx, hb, hml, hown, hts⟩ hK (c_X9_in l D cy a5 1 9) (va_cwS 3 hts gX9_against_X9_in rfl rfl rfl (by decide +kernel) ⟨Nat.le_of_ble_eq_true rfl, Nat.le_of_ble_eq_true rfl⟩) trivial rfl hl.1 rfl (Nat.le_of_ble_eq_true rfl) dX9_against_40 (Nat.zero_le _) (Nat.zero_le _)) hS (fun _ h => h.elim) (fun H locs _ _ hfr hS => ?_)
          have hR := gRep.keep hR hfr (fun _ _ h => h)
          refine lv_if_eq (tgt := 56) hx hb dX9_against_43 (by decide) (fun c_7 => ?_) (fun c_7 => ?_)
          · try rw [if_pos c_7] at hok
            refine lv_bipush (v := (-2)) hx hb dX9_against_56 (by decide) ?_
            exact gm_iret hx hb hr hlocks hS (by (try simp only [f_X9_against, ↓if_neg c_2, ↓if_neg c_4, ↓if_neg c_5, ↓if_neg c_6, ↓if_pos c_7]); (try rfl)) trivial dX9_against_58
          · try rw [if_neg c_7] at hok
            refine lv_iload_n hx hb dX9_against_46 rfl (lv_at hl 3 rfl) ?_
            refine lv_iload hx hb dX9_against_47 (lv_at hl 4 rfl) ?_
            refine lv_icmp_eq (tgt := 56) hx hb dX9_against_49 (by decide) (fun c_8 => ?_) (fun c_8 => ?_)
            · try rw [if_pos c_8] at hok
              refine lv_bipush (v := (-2)) hx hb dX9_against_56 (by decide) ?_
              exact gm_iret hx hb hr hlocks hS (by (try simp only [f_X9_against, ↓if_neg c_2, ↓if_neg c_4, ↓if_neg c_5, ↓if_neg c_6, ↓if_neg c_7, ↓if_pos c_8]); (try rfl)) trivial dX9_against_58
            · try rw [if_neg c_8] at hok
              refine lv_iconst (v := 0) hx hb dX9_against_52 (by decide) ?_
              refine lv_goto (tgt := 58) hx hb dX9_against_53 (by decide) ?_
              exact gm_iret hx hb hr hlocks hS (by (try simp only [f_X9_against, ↓if_neg c_2, ↓if_neg c_4, ↓if_neg c_5, ↓if_neg c_6, ↓if_neg c_7, ↓if_neg c_8]); (try rfl)) trivial dX9_against_58
    · try rw [if_pos c_4] at hok
      refine lv_iconst (v := (-1)) hx hb dX9_against_17 (by decide) ?_
      exact gm_iret hx hb hr hlocks hS (by (try simp only [f_X9_against, ↓if_neg c_2, ↓if_pos c_4]); (try rfl)) trivial dX9_against_18
def p_X9_book (X : gM) (a1 : Int32) (a2 : Int32) (a3 : Int32) (a4 : Int32) (a5 : Int32) : Int32 × gM :=
  if 0 ≤ f_X9_against X a1 a2 a3 a4 a5 then
    if X 1 1 = 40 then
      ((-3), X)
    else
      let X1 := p_X9_records X
      let X2 := (p_X9_comes X1 a1 a2 a3 a4 a5).2
      ((p_X9_comes X1 a1 a2 a3 a4 a5).1, X2)
  else
    (f_X9_against X a1 a2 a3 a4 a5, X)
def ok_X9_book (X : gM) (a1 : Int32) (a2 : Int32) (a3 : Int32) (a4 : Int32) (a5 : Int32) : Prop :=
  (ok_X9_against X a1 a2 a3 a4 a5) ∧
  (if 0 ≤ f_X9_against X a1 a2 a3 a4 a5 then
    (if X 1 1 = 40 then
      True
    else
      (ok_X9_records X) ∧
      ∀ X1 : gM, X1 = p_X9_records X →
      (ok_X9_comes X1 a1 a2 a3 a4 a5) ∧
      True)
  else
    True)
set_option maxHeartbeats 4000000 in
set_option maxRecDepth 100000 in
theorem c_X9_book (l : Launch) (D : va_G) (cy : Nat → ClassId) (μ : Nat) (X : gM) (a1 : Int32) (a2 : Int32) (a3 : Int32) (a4 : Int32) (a5 : Int32)  (hok : ok_X9_book X a1 a2 a3 a4 a5) : Met l yX9_book wsX9_book ({ frames := 3, cells := 0, slots := 0, locals := 68 }) (gP [.ref μ, .int a1, .int a2, .int a3, .int a4, .int a5] D cy (MR D cy μ X)) (gQi (p_X9_book X a1 a2 a3 a4 a5).1 (MR D cy μ (p_X9_book X a1 a2 a3 a4 a5).2) (MA μ)) 0 0 (MA μ) := by
  refine gm_met (cc := cX9_book) (maxL := 7) (ret := (some .int)) [.ref μ, .int a1, .int a2, .int a3, .int a4, .int a5] (by decide) rfl (Nat.le_of_ble_eq_true rfl) ?_
  intro p e s m args below meth c0 ls C hR hl
  obtain ⟨hx, hb, hr, hts, hown, hlocks, hml, hK⟩ := C
  have hl : lv_has ls 7 [(0, .ref μ), (1, .int a1), (2, .int a2), (3, .int a3), (4, .int a4), (5, .int a5)] := hl
  have hS : va_S (MA μ) s.heap s.heap [] := va_S.rf
  have lk7 := hts (.fieldLink RX9 7 "MercuryLineModel" "s" "[I") (by decide +kernel)
  have inX9 : ∀ w ∈ u_ws RX9 TX9 15, w ∈ wsX9_book := by decide +kernel
  unfold ok_X9_book at hok
  refine lv_aload_n hx hb dX9_book_0 rfl (lv_at hl 0 rfl) ?_
  refine lv_iload_n hx hb dX9_book_1 rfl (lv_at hl 1 rfl) ?_
  refine lv_iload_n hx hb dX9_book_2 rfl (lv_at hl 2 rfl) ?_
  refine lv_iload_n hx hb dX9_book_3 rfl (lv_at hl 3 rfl) ?_
  refine lv_iload hx hb dX9_book_4 (lv_at hl 4 rfl) ?_
  refine lv_iload hx hb dX9_book_6 (lv_at hl 5 rfl) ?_
  obtain ⟨h_1, hok⟩ := hok
  refine gm_ci (gm_call (As := [.int a1, .int a2, .int a3, .int a4, .int a5]) (rest := []) (ci := 9) (q := (RX9, TX9, 15)) ⟨hx, hb, hml, hown, hts⟩ hK (c_X9_against l D cy μ X a1 a2 a3 a4 a5 h_1) (cwV 5 hts gX9_book_X9_against rfl rfl rfl (by decide +kernel) ⟨Nat.le_of_ble_eq_true rfl, Nat.le_of_ble_eq_true rfl⟩) (MR.mk0 hR) rfl hR rfl hl.1 rfl (Nat.le_of_ble_eq_true rfl) dX9_book_8 (Nat.zero_le _) (Nat.zero_le _)) hS (fun _ h => h.elim) (fun H locs _ _ hfr hS => ?_)
  have hR := gRep.keep hR hfr (fun _ _ h => h)
  refine lv_istore (lv' := [(6, .int (f_X9_against X a1 a2 a3 a4 a5)), (0, .ref μ), (1, .int a1), (2, .int a2), (3, .int a3), (4, .int a4), (5, .int a5)]) hx hb dX9_book_11 hl (by decide) rfl (fun ls hl => ?_)
  refine lv_iload hx hb dX9_book_13 (lv_at hl 0 rfl) ?_
  refine lv_if_ge (tgt := 21) hx hb dX9_book_15 (by decide) (fun c_2 => ?_) (fun c_2 => ?_)
  · try rw [if_pos c_2] at hok
    refine lv_aload_n hx hb dX9_book_21 rfl (lv_at hl 1 rfl) ?_
    refine va_get (D := D) (ci := 9) (v := .ref (μ + 1)) (C := RX9) (T := TX9) (N := 15) hx hb hts inX9 hown hK.1 (MR.mk0 hR) 0 rfl rfl 0 (by decide) lk7 (fun _ h9 => h9) rfl dX9_book_22 ?_
    refine lv_iconst (v := 1) hx hb dX9_book_25 (by decide) ?_
    refine gm_iald hx hb hK.1 (MR.mk1 hR (c := 1) (by decide) bM_1) (vp_in_iff.mpr (by decide)) dX9_book_26 ?_
    rw [show (1 : Int32).toNatClampNeg = 1 from by decide]
    refine lv_bipush (v := 40) hx hb dX9_book_27 (by decide) ?_
    refine lv_icmp_ne (tgt := 35) hx hb dX9_book_29 (by decide) (fun c_3 => ?_) (fun c_3 => ?_)
    · try rw [if_neg c_3] at hok
      refine lv_aload_n hx hb dX9_book_35 rfl (lv_at hl 1 rfl) ?_
      obtain ⟨h_4, hok⟩ := hok
      refine gm_cv (gm_call (As := []) (rest := []) (ci := 9) (q := (RX9, TX9, 15)) ⟨hx, hb, hml, hown, hts⟩ hK (c_X9_records l D cy μ X h_4) (cwV 0 hts gX9_book_X9_records rfl rfl rfl (by decide +kernel) ⟨Nat.le_of_ble_eq_true rfl, Nat.le_of_ble_eq_true rfl⟩) (MR.mk0 hR) rfl hR rfl hl.1 rfl (Nat.le_of_ble_eq_true rfl) dX9_book_36 (Nat.zero_le _) (Nat.zero_le _)) hS (fun _ h => h) (fun H locs hR _ _ hS => ?_)
      obtain ⟨X1, eX1⟩ : ∃ Y : gM, Y = p_X9_records X := ⟨_, rfl⟩
      rw [← eX1] at hR
      try replace hok := hok X1 eX1
      refine lv_aload_n hx hb dX9_book_39 rfl (lv_at hl 1 rfl) ?_
      refine lv_iload_n hx hb dX9_book_40 rfl (lv_at hl 2 rfl) ?_
      refine lv_iload_n hx hb dX9_book_41 rfl (lv_at hl 3 rfl) ?_
      refine lv_iload_n hx hb dX9_book_42 rfl (lv_at hl 4 rfl) ?_
      refine lv_iload hx hb dX9_book_43 (lv_at hl 5 rfl) ?_
      refine lv_iload hx hb dX9_book_45 (lv_at hl 6 rfl) ?_
      obtain ⟨h_5, hok⟩ := hok
      refine gm_ci (gm_call (As := [.int a1, .int a2, .int a3, .int a4, .int a5]) (rest := []) (ci := 9) (q := (RX9, TX9, 15)) ⟨hx, hb, hml, hown, hts⟩ hK (c_X9_comes l D cy μ X1 a1 a2 a3 a4 a5 h_5) (cwV 5 hts gX9_book_X9_comes rfl rfl rfl (by decide +kernel) ⟨Nat.le_of_ble_eq_true rfl, Nat.le_of_ble_eq_true rfl⟩) (MR.mk0 hR) rfl hR rfl hl.1 rfl (Nat.le_of_ble_eq_true rfl) dX9_book_47 (Nat.zero_le _) (Nat.zero_le _)) hS (fun _ h => h) (fun H locs hR _ _ hS => ?_)
      obtain ⟨X2, eX2⟩ : ∃ Y : gM, Y = (p_X9_comes X1 a1 a2 a3 a4 a5).2 := ⟨_, rfl⟩
      rw [← eX2] at hR
      try replace hok := hok X2 eX2
      exact gm_iret hx hb hr hlocks hS (by (try simp only [p_X9_book, ↓if_pos c_2, ↓if_neg c_3, ← eX1, ← eX2]); (try rfl)) (by (try simp only [p_X9_book, ↓if_pos c_2, ↓if_neg c_3, ← eX1, ← eX2]); exact hR) dX9_book_50
    · try rw [if_pos c_3] at hok
      refine lv_bipush (v := (-3)) hx hb dX9_book_32 (by decide) ?_
      exact gm_iret hx hb hr hlocks hS (by (try simp only [p_X9_book, ↓if_pos c_2, ↓if_pos c_3]); (try rfl)) (by (try simp only [p_X9_book, ↓if_pos c_2, ↓if_pos c_3]); exact hR) dX9_book_34
  · try rw [if_neg c_2] at hok
    refine lv_iload hx hb dX9_book_18 (lv_at hl 0 rfl) ?_
    exact gm_iret hx hb hr hlocks hS (by (try simp only [p_X9_book, ↓if_neg c_2]); (try rfl)) (by (try simp only [p_X9_book, ↓if_neg c_2]); exact hR) dX9_book_20
def p_X9_cancel (X : gM) (a1 : Int32) : Int32 × gM :=
  if f_X9_isTicket X a1 = 0 then
    ((-1), X)
  else
    if f_X9_of X a1 6 < 3 then
      let X1 := p_X9_records X
      if f_X9_of X1 a1 6 = 1 then
        let X3 := p_X9_ends X1 a1 8 (-5) ((f_X9_of X1 a1 5) / 2)
        ((f_X9_of X1 a1 5) / 2, X3)
      else
        let X2 := p_X9_ends X1 a1 8 (-5) (f_X9_of X1 a1 5)
        (f_X9_of X1 a1 5, X2)
    else
      ((-4), X)
def ok_X9_cancel (X : gM) (a1 : Int32) : Prop :=
  (if f_X9_isTicket X a1 = 0 then
    True
  else
    (ok_X9_of X a1 6) ∧
    (if f_X9_of X a1 6 < 3 then
      (ok_X9_records X) ∧
      ∀ X1 : gM, X1 = p_X9_records X →
      (ok_X9_of X1 a1 6) ∧
      (if f_X9_of X1 a1 6 = 1 then
        (ok_X9_of X1 a1 5) ∧
        (ok_X9_ends X1 a1 8 (-5) ((f_X9_of X1 a1 5) / 2)) ∧
        True
      else
        (ok_X9_of X1 a1 5) ∧
        (ok_X9_ends X1 a1 8 (-5) (f_X9_of X1 a1 5)) ∧
        True)
    else
      True))
set_option maxHeartbeats 4000000 in
set_option maxRecDepth 100000 in
theorem c_X9_cancel (l : Launch) (D : va_G) (cy : Nat → ClassId) (μ : Nat) (X : gM) (a1 : Int32)  (hok : ok_X9_cancel X a1) : Met l yX9_cancel wsX9_cancel ({ frames := 3, cells := 0, slots := 0, locals := 68 }) (gP [.ref μ, .int a1] D cy (MR D cy μ X)) (gQi (p_X9_cancel X a1).1 (MR D cy μ (p_X9_cancel X a1).2) (MA μ)) 0 0 (MA μ) := by
  refine gm_met (cc := cX9_cancel) (maxL := 3) (ret := (some .int)) [.ref μ, .int a1] (by decide) rfl (Nat.le_of_ble_eq_true rfl) ?_
  intro p e s m args below meth c0 ls C hR hl
  obtain ⟨hx, hb, hr, hts, hown, hlocks, hml, hK⟩ := C
  have hl : lv_has ls 3 [(0, .ref μ), (1, .int a1)] := hl
  have hS : va_S (MA μ) s.heap s.heap [] := va_S.rf
  unfold ok_X9_cancel at hok
  refine lv_aload_n hx hb dX9_cancel_0 rfl (lv_at hl 0 rfl) ?_
  refine lv_iload_n hx hb dX9_cancel_1 rfl (lv_at hl 1 rfl) ?_
  refine gm_ci (gm_call (As := [.int a1]) (rest := []) (ci := 9) (q := (RX9, TX9, 15)) ⟨hx, hb, hml, hown, hts⟩ hK (c_X9_isTicket l D cy μ X a1) (cwV 1 hts gX9_cancel_X9_isTicket rfl rfl rfl (by decide +kernel) ⟨Nat.le_of_ble_eq_true rfl, Nat.le_of_ble_eq_true rfl⟩) (MR.mk0 hR) rfl hR rfl hl.1 rfl (Nat.le_of_ble_eq_true rfl) dX9_cancel_2 (Nat.zero_le _) (Nat.zero_le _)) hS (fun _ h => h.elim) (fun H locs _ _ hfr hS => ?_)
  have hR := gRep.keep hR hfr (fun _ _ h => h)
  refine lv_if_ne (tgt := 10) hx hb dX9_cancel_5 (by decide) (fun c_1 => ?_) (fun c_1 => ?_)
  · try rw [if_neg c_1] at hok
    refine lv_aload_n hx hb dX9_cancel_10 rfl (lv_at hl 0 rfl) ?_
    refine lv_iload_n hx hb dX9_cancel_11 rfl (lv_at hl 1 rfl) ?_
    refine lv_bipush (v := 6) hx hb dX9_cancel_12 (by decide) ?_
    obtain ⟨h_2, hok⟩ := hok
    refine gm_ci (gm_call (As := [.int a1, .int 6]) (rest := []) (ci := 9) (q := (RX9, TX9, 15)) ⟨hx, hb, hml, hown, hts⟩ hK (c_X9_of l D cy μ X a1 6 h_2) (cwV 2 hts gX9_cancel_X9_of rfl rfl rfl (by decide +kernel) ⟨Nat.le_of_ble_eq_true rfl, Nat.le_of_ble_eq_true rfl⟩) (MR.mk0 hR) rfl hR rfl hl.1 rfl (Nat.le_of_ble_eq_true rfl) dX9_cancel_14 (Nat.zero_le _) (Nat.zero_le _)) hS (fun _ h => h.elim) (fun H locs _ _ hfr hS => ?_)
    have hR := gRep.keep hR hfr (fun _ _ h => h)
    refine lv_iconst (v := 3) hx hb dX9_cancel_17 (by decide) ?_
    refine lv_icmp_lt (tgt := 24) hx hb dX9_cancel_18 (by decide) (fun c_3 => ?_) (fun c_3 => ?_)
    · try rw [if_pos c_3] at hok
      refine lv_aload_n hx hb dX9_cancel_24 rfl (lv_at hl 0 rfl) ?_
      obtain ⟨h_4, hok⟩ := hok
      refine gm_cv (gm_call (As := []) (rest := []) (ci := 9) (q := (RX9, TX9, 15)) ⟨hx, hb, hml, hown, hts⟩ hK (c_X9_records l D cy μ X h_4) (cwV 0 hts gX9_cancel_X9_records rfl rfl rfl (by decide +kernel) ⟨Nat.le_of_ble_eq_true rfl, Nat.le_of_ble_eq_true rfl⟩) (MR.mk0 hR) rfl hR rfl hl.1 rfl (Nat.le_of_ble_eq_true rfl) dX9_cancel_25 (Nat.zero_le _) (Nat.zero_le _)) hS (fun _ h => h) (fun H locs hR _ _ hS => ?_)
      obtain ⟨X1, eX1⟩ : ∃ Y : gM, Y = p_X9_records X := ⟨_, rfl⟩
      rw [← eX1] at hR
      try replace hok := hok X1 eX1
      refine lv_aload_n hx hb dX9_cancel_28 rfl (lv_at hl 0 rfl) ?_
      refine lv_iload_n hx hb dX9_cancel_29 rfl (lv_at hl 1 rfl) ?_
      refine lv_bipush (v := 6) hx hb dX9_cancel_30 (by decide) ?_
      obtain ⟨h_5, hok⟩ := hok
      refine gm_ci (gm_call (As := [.int a1, .int 6]) (rest := []) (ci := 9) (q := (RX9, TX9, 15)) ⟨hx, hb, hml, hown, hts⟩ hK (c_X9_of l D cy μ X1 a1 6 h_5) (cwV 2 hts gX9_cancel_X9_of rfl rfl rfl (by decide +kernel) ⟨Nat.le_of_ble_eq_true rfl, Nat.le_of_ble_eq_true rfl⟩) (MR.mk0 hR) rfl hR rfl hl.1 rfl (Nat.le_of_ble_eq_true rfl) dX9_cancel_32 (Nat.zero_le _) (Nat.zero_le _)) hS (fun _ h => h.elim) (fun H locs _ _ hfr hS => ?_)
      have hR := gRep.keep hR hfr (fun _ _ h => h)
      refine lv_iconst (v := 1) hx hb dX9_cancel_35 (by decide) ?_
      refine lv_icmp_ne (tgt := 50) hx hb dX9_cancel_36 (by decide) (fun c_6 => ?_) (fun c_6 => ?_)
      · try rw [if_neg c_6] at hok
        refine lv_aload_n hx hb dX9_cancel_50 rfl (lv_at hl 0 rfl) ?_
        refine lv_iload_n hx hb dX9_cancel_51 rfl (lv_at hl 1 rfl) ?_
        refine lv_iconst (v := 5) hx hb dX9_cancel_52 (by decide) ?_
        obtain ⟨h_7, hok⟩ := hok
        refine gm_ci (gm_call (As := [.int a1, .int 5]) (rest := []) (ci := 9) (q := (RX9, TX9, 15)) ⟨hx, hb, hml, hown, hts⟩ hK (c_X9_of l D cy μ X1 a1 5 h_7) (cwV 2 hts gX9_cancel_X9_of rfl rfl rfl (by decide +kernel) ⟨Nat.le_of_ble_eq_true rfl, Nat.le_of_ble_eq_true rfl⟩) (MR.mk0 hR) rfl hR rfl hl.1 rfl (Nat.le_of_ble_eq_true rfl) dX9_cancel_53 (Nat.zero_le _) (Nat.zero_le _)) hS (fun _ h => h.elim) (fun H locs _ _ hfr hS => ?_)
        have hR := gRep.keep hR hfr (fun _ _ h => h)
        refine lv_istore_n (lv' := [(2, .int (f_X9_of X1 a1 5)), (0, .ref μ), (1, .int a1)]) hx hb dX9_cancel_56 rfl hl (by decide) rfl (fun ls hl => ?_)
        refine lv_aload_n hx hb dX9_cancel_57 rfl (lv_at hl 1 rfl) ?_
        refine lv_iload_n hx hb dX9_cancel_58 rfl (lv_at hl 2 rfl) ?_
        refine lv_bipush (v := 8) hx hb dX9_cancel_59 (by decide) ?_
        refine lv_bipush (v := (-5)) hx hb dX9_cancel_61 (by decide) ?_
        refine lv_iload_n hx hb dX9_cancel_63 rfl (lv_at hl 0 rfl) ?_
        obtain ⟨h_8, hok⟩ := hok
        refine gm_cv (gm_call (As := [.int a1, .int 8, .int (-5), .int (f_X9_of X1 a1 5)]) (rest := []) (ci := 9) (q := (RX9, TX9, 15)) ⟨hx, hb, hml, hown, hts⟩ hK (c_X9_ends l D cy μ X1 a1 8 (-5) (f_X9_of X1 a1 5) h_8) (cwV 4 hts gX9_cancel_X9_ends rfl rfl rfl (by decide +kernel) ⟨Nat.le_of_ble_eq_true rfl, Nat.le_of_ble_eq_true rfl⟩) (MR.mk0 hR) rfl hR rfl hl.1 rfl (Nat.le_of_ble_eq_true rfl) dX9_cancel_64 (Nat.zero_le _) (Nat.zero_le _)) hS (fun _ h => h) (fun H locs hR _ _ hS => ?_)
        obtain ⟨X2, eX2⟩ : ∃ Y : gM, Y = p_X9_ends X1 a1 8 (-5) (f_X9_of X1 a1 5) := ⟨_, rfl⟩
        rw [← eX2] at hR
        try replace hok := hok X2 eX2
        refine lv_iload_n hx hb dX9_cancel_67 rfl (lv_at hl 0 rfl) ?_
        exact gm_iret hx hb hr hlocks hS (by (try simp only [p_X9_cancel, ↓if_neg c_1, ↓if_pos c_3, ↓if_neg c_6, ← eX1, ← eX2]); (try rfl)) (by (try simp only [p_X9_cancel, ↓if_neg c_1, ↓if_pos c_3, ↓if_neg c_6, ← eX1, ← eX2]); exact hR) dX9_cancel_68
      · try rw [if_pos c_6] at hok
        refine lv_aload_n hx hb dX9_cancel_39 rfl (lv_at hl 0 rfl) ?_
        refine lv_iload_n hx hb dX9_cancel_40 rfl (lv_at hl 1 rfl) ?_
        refine lv_iconst (v := 5) hx hb dX9_cancel_41 (by decide) ?_
        obtain ⟨h_9, hok⟩ := hok
        refine gm_ci (gm_call (As := [.int a1, .int 5]) (rest := []) (ci := 9) (q := (RX9, TX9, 15)) ⟨hx, hb, hml, hown, hts⟩ hK (c_X9_of l D cy μ X1 a1 5 h_9) (cwV 2 hts gX9_cancel_X9_of rfl rfl rfl (by decide +kernel) ⟨Nat.le_of_ble_eq_true rfl, Nat.le_of_ble_eq_true rfl⟩) (MR.mk0 hR) rfl hR rfl hl.1 rfl (Nat.le_of_ble_eq_true rfl) dX9_cancel_42 (Nat.zero_le _) (Nat.zero_le _)) hS (fun _ h => h.elim) (fun H locs _ _ hfr hS => ?_)
        have hR := gRep.keep hR hfr (fun _ _ h => h)
        refine lv_iconst (v := 2) hx hb dX9_cancel_45 (by decide) ?_
        refine lv_idiv hx hb dX9_cancel_46 (by decide) ?_
        refine lv_goto (tgt := 56) hx hb dX9_cancel_47 (by decide) ?_
        refine lv_istore_n (lv' := [(2, .int ((f_X9_of X1 a1 5) / 2)), (0, .ref μ), (1, .int a1)]) hx hb dX9_cancel_56 rfl hl (by decide) rfl (fun ls hl => ?_)
        refine lv_aload_n hx hb dX9_cancel_57 rfl (lv_at hl 1 rfl) ?_
        refine lv_iload_n hx hb dX9_cancel_58 rfl (lv_at hl 2 rfl) ?_
        refine lv_bipush (v := 8) hx hb dX9_cancel_59 (by decide) ?_
        refine lv_bipush (v := (-5)) hx hb dX9_cancel_61 (by decide) ?_
        refine lv_iload_n hx hb dX9_cancel_63 rfl (lv_at hl 0 rfl) ?_
        obtain ⟨h_10, hok⟩ := hok
        refine gm_cv (gm_call (As := [.int a1, .int 8, .int (-5), .int ((f_X9_of X1 a1 5) / 2)]) (rest := []) (ci := 9) (q := (RX9, TX9, 15)) ⟨hx, hb, hml, hown, hts⟩ hK (c_X9_ends l D cy μ X1 a1 8 (-5) ((f_X9_of X1 a1 5) / 2) h_10) (cwV 4 hts gX9_cancel_X9_ends rfl rfl rfl (by decide +kernel) ⟨Nat.le_of_ble_eq_true rfl, Nat.le_of_ble_eq_true rfl⟩) (MR.mk0 hR) rfl hR rfl hl.1 rfl (Nat.le_of_ble_eq_true rfl) dX9_cancel_64 (Nat.zero_le _) (Nat.zero_le _)) hS (fun _ h => h) (fun H locs hR _ _ hS => ?_)
        obtain ⟨X3, eX3⟩ : ∃ Y : gM, Y = p_X9_ends X1 a1 8 (-5) ((f_X9_of X1 a1 5) / 2) := ⟨_, rfl⟩
        rw [← eX3] at hR
        try replace hok := hok X3 eX3
        refine lv_iload_n hx hb dX9_cancel_67 rfl (lv_at hl 0 rfl) ?_
        exact gm_iret hx hb hr hlocks hS (by (try simp only [p_X9_cancel, ↓if_neg c_1, ↓if_pos c_3, ↓if_pos c_6, ← eX1, ← eX3]); (try rfl)) (by (try simp only [p_X9_cancel, ↓if_neg c_1, ↓if_pos c_3, ↓if_pos c_6, ← eX1, ← eX3]); exact hR) dX9_cancel_68
    · try rw [if_neg c_3] at hok
      refine lv_bipush (v := (-4)) hx hb dX9_cancel_21 (by decide) ?_
      exact gm_iret hx hb hr hlocks hS (by (try simp only [p_X9_cancel, ↓if_neg c_1, ↓if_neg c_3]); (try rfl)) (by (try simp only [p_X9_cancel, ↓if_neg c_1, ↓if_neg c_3]); exact hR) dX9_cancel_23
  · try rw [if_pos c_1] at hok
    refine lv_iconst (v := (-1)) hx hb dX9_cancel_8 (by decide) ?_
    exact gm_iret hx hb hr hlocks hS (by (try simp only [p_X9_cancel, ↓if_pos c_1]); (try rfl)) (by (try simp only [p_X9_cancel, ↓if_pos c_1]); exact hR) dX9_cancel_9
def p_X9_call (X : gM) (a1 : Int32) (a2 : Int32) : Int32 × gM :=
  if f_X9_isStation X a1 = 0 then
    ((-1), X)
  else
    if f_X9_isWord a2 = 0 then
      ((-2), X)
    else
      if X 1 (((f_X9_stationAt a1) + 5).toNatClampNeg) = 3 then
        ((-3), X)
      else
        let X1 := p_X9_records X
        let X2 := updM X1 1 ((((f_X9_stationAt a1) + 6) + (X1 1 (((f_X9_stationAt a1) + 5).toNatClampNeg))).toNatClampNeg) a2
        let X3 := updM X2 1 (((f_X9_stationAt a1) + 5).toNatClampNeg) ((X2 1 (((f_X9_stationAt a1) + 5).toNatClampNeg)) + 1)
        (X3 1 (((f_X9_stationAt a1) + 5).toNatClampNeg), X3)
def ok_X9_call (X : gM) (a1 : Int32) (a2 : Int32) : Prop :=
  (ok_X9_isStation X a1) ∧
  (if f_X9_isStation X a1 = 0 then
    True
  else
    (if f_X9_isWord a2 = 0 then
      True
    else
      (vp_in ((f_X9_stationAt a1) + 5) 974) ∧
      (if X 1 (((f_X9_stationAt a1) + 5).toNatClampNeg) = 3 then
        True
      else
        (ok_X9_records X) ∧
        ∀ X1 : gM, X1 = p_X9_records X →
        (vp_in ((f_X9_stationAt a1) + 5) 974) ∧
        (vp_in (((f_X9_stationAt a1) + 6) + (X1 1 (((f_X9_stationAt a1) + 5).toNatClampNeg))) 974) ∧
        ∀ X2 : gM, X2 = updM X1 1 ((((f_X9_stationAt a1) + 6) + (X1 1 (((f_X9_stationAt a1) + 5).toNatClampNeg))).toNatClampNeg) a2 →
        (vp_in ((f_X9_stationAt a1) + 5) 974) ∧
        (vp_in ((f_X9_stationAt a1) + 5) 974) ∧
        ∀ X3 : gM, X3 = updM X2 1 (((f_X9_stationAt a1) + 5).toNatClampNeg) ((X2 1 (((f_X9_stationAt a1) + 5).toNatClampNeg)) + 1) →
        (vp_in ((f_X9_stationAt a1) + 5) 974) ∧
        True)))
set_option maxHeartbeats 4000000 in
set_option maxRecDepth 100000 in
theorem c_X9_call (l : Launch) (D : va_G) (cy : Nat → ClassId) (μ : Nat) (X : gM) (a1 : Int32) (a2 : Int32)  (hok : ok_X9_call X a1 a2) : Met l yX9_call wsX9_call ({ frames := 2, cells := 0, slots := 0, locals := 43 }) (gP [.ref μ, .int a1, .int a2] D cy (MR D cy μ X)) (gQi (p_X9_call X a1 a2).1 (MR D cy μ (p_X9_call X a1 a2).2) (MA μ)) 0 0 (MA μ) := by
  refine gm_met (cc := cX9_call) (maxL := 4) (ret := (some .int)) [.ref μ, .int a1, .int a2] (by decide) rfl (Nat.le_of_ble_eq_true rfl) ?_
  intro p e s m args below meth c0 ls C hR hl
  obtain ⟨hx, hb, hr, hts, hown, hlocks, hml, hK⟩ := C
  have hl : lv_has ls 4 [(0, .ref μ), (1, .int a1), (2, .int a2)] := hl
  have hS : va_S (MA μ) s.heap s.heap [] := va_S.rf
  have lk7 := hts (.fieldLink RX9 7 "MercuryLineModel" "s" "[I") (by decide +kernel)
  have inX9 : ∀ w ∈ u_ws RX9 TX9 15, w ∈ wsX9_call := by decide +kernel
  unfold ok_X9_call at hok
  refine lv_aload_n hx hb dX9_call_0 rfl (lv_at hl 0 rfl) ?_
  refine lv_iload_n hx hb dX9_call_1 rfl (lv_at hl 1 rfl) ?_
  obtain ⟨h_1, hok⟩ := hok
  refine gm_ci (gm_call (As := [.int a1]) (rest := []) (ci := 9) (q := (RX9, TX9, 15)) ⟨hx, hb, hml, hown, hts⟩ hK (c_X9_isStation l D cy μ X a1 h_1) (cwV 1 hts gX9_call_X9_isStation rfl rfl rfl (by decide +kernel) ⟨Nat.le_of_ble_eq_true rfl, Nat.le_of_ble_eq_true rfl⟩) (MR.mk0 hR) rfl hR rfl hl.1 rfl (Nat.le_of_ble_eq_true rfl) dX9_call_2 (Nat.zero_le _) (Nat.zero_le _)) hS (fun _ h => h.elim) (fun H locs _ _ hfr hS => ?_)
  have hR := gRep.keep hR hfr (fun _ _ h => h)
  refine lv_if_ne (tgt := 10) hx hb dX9_call_5 (by decide) (fun c_2 => ?_) (fun c_2 => ?_)
  · try rw [if_neg c_2] at hok
    refine lv_iload_n hx hb dX9_call_10 rfl (lv_at hl 2 rfl) ?_
    refine gm_ci (gm_callS (As := [.int a2]) (rest := []) ⟨hx, hb, hml, hown, hts⟩ hK (c_X9_isWord l D cy a2) (va_cwS 1 hts gX9_call_X9_isWord rfl rfl rfl (by decide +kernel) ⟨Nat.le_of_ble_eq_true rfl, Nat.le_of_ble_eq_true rfl⟩) trivial rfl hl.1 rfl (Nat.le_of_ble_eq_true rfl) dX9_call_11 (Nat.zero_le _) (Nat.zero_le _)) hS (fun _ h => h.elim) (fun H locs _ _ hfr hS => ?_)
    have hR := gRep.keep hR hfr (fun _ _ h => h)
    refine lv_if_ne (tgt := 20) hx hb dX9_call_14 (by decide) (fun c_3 => ?_) (fun c_3 => ?_)
    · try rw [if_neg c_3] at hok
      refine lv_iload_n hx hb dX9_call_20 rfl (lv_at hl 1 rfl) ?_
      refine gm_ci (gm_callS (As := [.int a1]) (rest := []) ⟨hx, hb, hml, hown, hts⟩ hK (c_X9_stationAt l D cy a1) (va_cwS 1 hts gX9_call_X9_stationAt rfl rfl rfl (by decide +kernel) ⟨Nat.le_of_ble_eq_true rfl, Nat.le_of_ble_eq_true rfl⟩) trivial rfl hl.1 rfl (Nat.le_of_ble_eq_true rfl) dX9_call_21 (Nat.zero_le _) (Nat.zero_le _)) hS (fun _ h => h.elim) (fun H locs _ _ hfr hS => ?_)
      have hR := gRep.keep hR hfr (fun _ _ h => h)
      refine lv_istore_n (lv' := [(3, .int (f_X9_stationAt a1)), (0, .ref μ), (1, .int a1), (2, .int a2)]) hx hb dX9_call_24 rfl hl (by decide) rfl (fun ls hl => ?_)
      refine lv_aload_n hx hb dX9_call_25 rfl (lv_at hl 1 rfl) ?_
      refine va_get (D := D) (ci := 9) (v := .ref (μ + 1)) (C := RX9) (T := TX9) (N := 15) hx hb hts inX9 hown hK.1 (MR.mk0 hR) 0 rfl rfl 0 (by decide) lk7 (fun _ h9 => h9) rfl dX9_call_26 ?_
      refine lv_iload_n hx hb dX9_call_29 rfl (lv_at hl 0 rfl) ?_
      refine lv_iconst (v := 5) hx hb dX9_call_30 (by decide) ?_
      refine lv_iadd hx hb dX9_call_31 ?_
      obtain ⟨h_4, hok⟩ := hok
      refine gm_iald hx hb hK.1 (MR.mk1 hR (c := 1) (by decide) bM_1) h_4 dX9_call_32 ?_
      refine lv_iconst (v := 3) hx hb dX9_call_33 (by decide) ?_
      refine lv_icmp_ne (tgt := 40) hx hb dX9_call_34 (by decide) (fun c_5 => ?_) (fun c_5 => ?_)
      · try rw [if_neg c_5] at hok
        refine lv_aload_n hx hb dX9_call_40 rfl (lv_at hl 1 rfl) ?_
        obtain ⟨h_6, hok⟩ := hok
        refine gm_cv (gm_call (As := []) (rest := []) (ci := 9) (q := (RX9, TX9, 15)) ⟨hx, hb, hml, hown, hts⟩ hK (c_X9_records l D cy μ X h_6) (cwV 0 hts gX9_call_X9_records rfl rfl rfl (by decide +kernel) ⟨Nat.le_of_ble_eq_true rfl, Nat.le_of_ble_eq_true rfl⟩) (MR.mk0 hR) rfl hR rfl hl.1 rfl (Nat.le_of_ble_eq_true rfl) dX9_call_41 (Nat.zero_le _) (Nat.zero_le _)) hS (fun _ h => h) (fun H locs hR _ _ hS => ?_)
        obtain ⟨X1, eX1⟩ : ∃ Y : gM, Y = p_X9_records X := ⟨_, rfl⟩
        rw [← eX1] at hR
        try replace hok := hok X1 eX1
        refine lv_aload_n hx hb dX9_call_44 rfl (lv_at hl 1 rfl) ?_
        refine va_get (D := D) (ci := 9) (v := .ref (μ + 1)) (C := RX9) (T := TX9) (N := 15) hx hb hts inX9 hown hK.1 (MR.mk0 hR) 0 rfl rfl 0 (by decide) lk7 (fun _ h9 => h9) rfl dX9_call_45 ?_
        refine lv_iload_n hx hb dX9_call_48 rfl (lv_at hl 0 rfl) ?_
        refine lv_bipush (v := 6) hx hb dX9_call_49 (by decide) ?_
        refine lv_iadd hx hb dX9_call_51 ?_
        refine lv_aload_n hx hb dX9_call_52 rfl (lv_at hl 1 rfl) ?_
        refine va_get (D := D) (ci := 9) (v := .ref (μ + 1)) (C := RX9) (T := TX9) (N := 15) hx hb hts inX9 hown hK.1 (MR.mk0 hR) 0 rfl rfl 0 (by decide) lk7 (fun _ h9 => h9) rfl dX9_call_53 ?_
        refine lv_iload_n hx hb dX9_call_56 rfl (lv_at hl 0 rfl) ?_
        refine lv_iconst (v := 5) hx hb dX9_call_57 (by decide) ?_
        refine lv_iadd hx hb dX9_call_58 ?_
        obtain ⟨h_7, hok⟩ := hok
        refine gm_iald hx hb hK.1 (MR.mk1 hR (c := 1) (by decide) bM_1) h_7 dX9_call_59 ?_
        refine lv_iadd hx hb dX9_call_60 ?_
        refine lv_iload_n hx hb dX9_call_61 rfl (lv_at hl 3 rfl) ?_
        obtain ⟨h_8, hok⟩ := hok
        refine gm_iast hx hb hK.1 hR injM hS (a := 1) (by decide) rfl (fun r => bM_1) h_8 dX9_call_62 (fun H locs hR hS => ?_)
        obtain ⟨X2, eX2⟩ : ∃ Y : gM, Y = updM X1 1 ((((f_X9_stationAt a1) + 6) + (X1 1 (((f_X9_stationAt a1) + 5).toNatClampNeg))).toNatClampNeg) a2 := ⟨_, rfl⟩
        rw [← eX2] at hR
        try replace hok := hok X2 eX2
        refine lv_aload_n hx hb dX9_call_63 rfl (lv_at hl 1 rfl) ?_
        refine va_get (D := D) (ci := 9) (v := .ref (μ + 1)) (C := RX9) (T := TX9) (N := 15) hx hb hts inX9 hown hK.1 (MR.mk0 hR) 0 rfl rfl 0 (by decide) lk7 (fun _ h9 => h9) rfl dX9_call_64 ?_
        refine lv_iload_n hx hb dX9_call_67 rfl (lv_at hl 0 rfl) ?_
        refine lv_iconst (v := 5) hx hb dX9_call_68 (by decide) ?_
        refine lv_iadd hx hb dX9_call_69 ?_
        refine lv_dup2_11 hx hb dX9_call_70 rfl rfl ?_
        obtain ⟨h_9, hok⟩ := hok
        refine gm_iald hx hb hK.1 (MR.mk1 hR (c := 1) (by decide) bM_1) h_9 dX9_call_71 ?_
        refine lv_iconst (v := 1) hx hb dX9_call_72 (by decide) ?_
        refine lv_iadd hx hb dX9_call_73 ?_
        obtain ⟨h_10, hok⟩ := hok
        refine gm_iast hx hb hK.1 hR injM hS (a := 1) (by decide) rfl (fun r => bM_1) h_10 dX9_call_74 (fun H locs hR hS => ?_)
        obtain ⟨X3, eX3⟩ : ∃ Y : gM, Y = updM X2 1 (((f_X9_stationAt a1) + 5).toNatClampNeg) ((X2 1 (((f_X9_stationAt a1) + 5).toNatClampNeg)) + 1) := ⟨_, rfl⟩
        rw [← eX3] at hR
        try replace hok := hok X3 eX3
        refine lv_aload_n hx hb dX9_call_75 rfl (lv_at hl 1 rfl) ?_
        refine va_get (D := D) (ci := 9) (v := .ref (μ + 1)) (C := RX9) (T := TX9) (N := 15) hx hb hts inX9 hown hK.1 (MR.mk0 hR) 0 rfl rfl 0 (by decide) lk7 (fun _ h9 => h9) rfl dX9_call_76 ?_
        refine lv_iload_n hx hb dX9_call_79 rfl (lv_at hl 0 rfl) ?_
        refine lv_iconst (v := 5) hx hb dX9_call_80 (by decide) ?_
        refine lv_iadd hx hb dX9_call_81 ?_
        obtain ⟨h_11, hok⟩ := hok
        refine gm_iald hx hb hK.1 (MR.mk1 hR (c := 1) (by decide) bM_1) h_11 dX9_call_82 ?_
        exact gm_iret hx hb hr hlocks hS (by (try simp only [p_X9_call, ↓if_neg c_2, ↓if_neg c_3, ↓if_neg c_5, ← eX1, ← eX2, ← eX3]); (try rfl)) (by (try simp only [p_X9_call, ↓if_neg c_2, ↓if_neg c_3, ↓if_neg c_5, ← eX1, ← eX2, ← eX3]); exact hR) dX9_call_83
      · try rw [if_pos c_5] at hok
        refine lv_bipush (v := (-3)) hx hb dX9_call_37 (by decide) ?_
        exact gm_iret hx hb hr hlocks hS (by (try simp only [p_X9_call, ↓if_neg c_2, ↓if_neg c_3, ↓if_pos c_5]); (try rfl)) (by (try simp only [p_X9_call, ↓if_neg c_2, ↓if_neg c_3, ↓if_pos c_5]); exact hR) dX9_call_39
    · try rw [if_pos c_3] at hok
      refine lv_bipush (v := (-2)) hx hb dX9_call_17 (by decide) ?_
      exact gm_iret hx hb hr hlocks hS (by (try simp only [p_X9_call, ↓if_neg c_2, ↓if_pos c_3]); (try rfl)) (by (try simp only [p_X9_call, ↓if_neg c_2, ↓if_pos c_3]); exact hR) dX9_call_19
  · try rw [if_pos c_2] at hok
    refine lv_iconst (v := (-1)) hx hb dX9_call_8 (by decide) ?_
    exact gm_iret hx hb hr hlocks hS (by (try simp only [p_X9_call, ↓if_pos c_2]); (try rfl)) (by (try simp only [p_X9_call, ↓if_pos c_2]); exact hR) dX9_call_9
def p_X9_callBack (X : gM) (a1 : Int32) : Int32 × gM :=
  if f_X9_isStation X a1 = 0 then
    ((-1), X)
  else
    if X 1 (((f_X9_stationAt a1) + 5).toNatClampNeg) = 0 then
      ((-5), X)
    else
      let X1 := p_X9_records X
      let X2 := p_X9_dropCall X1 a1 0
      (X1 1 (((f_X9_stationAt a1) + 6).toNatClampNeg), X2)
def ok_X9_callBack (X : gM) (a1 : Int32) : Prop :=
  (ok_X9_isStation X a1) ∧
  (if f_X9_isStation X a1 = 0 then
    True
  else
    (vp_in ((f_X9_stationAt a1) + 5) 974) ∧
    (if X 1 (((f_X9_stationAt a1) + 5).toNatClampNeg) = 0 then
      True
    else
      (ok_X9_records X) ∧
      ∀ X1 : gM, X1 = p_X9_records X →
      (vp_in ((f_X9_stationAt a1) + 6) 974) ∧
      (ok_X9_dropCall X1 a1 0) ∧
      True))
set_option maxHeartbeats 4000000 in
set_option maxRecDepth 100000 in
theorem c_X9_callBack (l : Launch) (D : va_G) (cy : Nat → ClassId) (μ : Nat) (X : gM) (a1 : Int32)  (hok : ok_X9_callBack X a1) : Met l yX9_callBack wsX9_callBack ({ frames := 2, cells := 0, slots := 0, locals := 44 }) (gP [.ref μ, .int a1] D cy (MR D cy μ X)) (gQi (p_X9_callBack X a1).1 (MR D cy μ (p_X9_callBack X a1).2) (MA μ)) 0 0 (MA μ) := by
  refine gm_met (cc := cX9_callBack) (maxL := 4) (ret := (some .int)) [.ref μ, .int a1] (by decide) rfl (Nat.le_of_ble_eq_true rfl) ?_
  intro p e s m args below meth c0 ls C hR hl
  obtain ⟨hx, hb, hr, hts, hown, hlocks, hml, hK⟩ := C
  have hl : lv_has ls 4 [(0, .ref μ), (1, .int a1)] := hl
  have hS : va_S (MA μ) s.heap s.heap [] := va_S.rf
  have lk7 := hts (.fieldLink RX9 7 "MercuryLineModel" "s" "[I") (by decide +kernel)
  have inX9 : ∀ w ∈ u_ws RX9 TX9 15, w ∈ wsX9_callBack := by decide +kernel
  unfold ok_X9_callBack at hok
  refine lv_aload_n hx hb dX9_callBack_0 rfl (lv_at hl 0 rfl) ?_
  refine lv_iload_n hx hb dX9_callBack_1 rfl (lv_at hl 1 rfl) ?_
  obtain ⟨h_1, hok⟩ := hok
  refine gm_ci (gm_call (As := [.int a1]) (rest := []) (ci := 9) (q := (RX9, TX9, 15)) ⟨hx, hb, hml, hown, hts⟩ hK (c_X9_isStation l D cy μ X a1 h_1) (cwV 1 hts gX9_callBack_X9_isStation rfl rfl rfl (by decide +kernel) ⟨Nat.le_of_ble_eq_true rfl, Nat.le_of_ble_eq_true rfl⟩) (MR.mk0 hR) rfl hR rfl hl.1 rfl (Nat.le_of_ble_eq_true rfl) dX9_callBack_2 (Nat.zero_le _) (Nat.zero_le _)) hS (fun _ h => h.elim) (fun H locs _ _ hfr hS => ?_)
  have hR := gRep.keep hR hfr (fun _ _ h => h)
  refine lv_if_ne (tgt := 10) hx hb dX9_callBack_5 (by decide) (fun c_2 => ?_) (fun c_2 => ?_)
  · try rw [if_neg c_2] at hok
    refine lv_iload_n hx hb dX9_callBack_10 rfl (lv_at hl 1 rfl) ?_
    refine gm_ci (gm_callS (As := [.int a1]) (rest := []) ⟨hx, hb, hml, hown, hts⟩ hK (c_X9_stationAt l D cy a1) (va_cwS 1 hts gX9_callBack_X9_stationAt rfl rfl rfl (by decide +kernel) ⟨Nat.le_of_ble_eq_true rfl, Nat.le_of_ble_eq_true rfl⟩) trivial rfl hl.1 rfl (Nat.le_of_ble_eq_true rfl) dX9_callBack_11 (Nat.zero_le _) (Nat.zero_le _)) hS (fun _ h => h.elim) (fun H locs _ _ hfr hS => ?_)
    have hR := gRep.keep hR hfr (fun _ _ h => h)
    refine lv_istore_n (lv' := [(2, .int (f_X9_stationAt a1)), (0, .ref μ), (1, .int a1)]) hx hb dX9_callBack_14 rfl hl (by decide) rfl (fun ls hl => ?_)
    refine lv_aload_n hx hb dX9_callBack_15 rfl (lv_at hl 1 rfl) ?_
    refine va_get (D := D) (ci := 9) (v := .ref (μ + 1)) (C := RX9) (T := TX9) (N := 15) hx hb hts inX9 hown hK.1 (MR.mk0 hR) 0 rfl rfl 0 (by decide) lk7 (fun _ h9 => h9) rfl dX9_callBack_16 ?_
    refine lv_iload_n hx hb dX9_callBack_19 rfl (lv_at hl 0 rfl) ?_
    refine lv_iconst (v := 5) hx hb dX9_callBack_20 (by decide) ?_
    refine lv_iadd hx hb dX9_callBack_21 ?_
    obtain ⟨h_3, hok⟩ := hok
    refine gm_iald hx hb hK.1 (MR.mk1 hR (c := 1) (by decide) bM_1) h_3 dX9_callBack_22 ?_
    refine lv_if_ne (tgt := 29) hx hb dX9_callBack_23 (by decide) (fun c_4 => ?_) (fun c_4 => ?_)
    · try rw [if_neg c_4] at hok
      refine lv_aload_n hx hb dX9_callBack_29 rfl (lv_at hl 1 rfl) ?_
      obtain ⟨h_5, hok⟩ := hok
      refine gm_cv (gm_call (As := []) (rest := []) (ci := 9) (q := (RX9, TX9, 15)) ⟨hx, hb, hml, hown, hts⟩ hK (c_X9_records l D cy μ X h_5) (cwV 0 hts gX9_callBack_X9_records rfl rfl rfl (by decide +kernel) ⟨Nat.le_of_ble_eq_true rfl, Nat.le_of_ble_eq_true rfl⟩) (MR.mk0 hR) rfl hR rfl hl.1 rfl (Nat.le_of_ble_eq_true rfl) dX9_callBack_30 (Nat.zero_le _) (Nat.zero_le _)) hS (fun _ h => h) (fun H locs hR _ _ hS => ?_)
      obtain ⟨X1, eX1⟩ : ∃ Y : gM, Y = p_X9_records X := ⟨_, rfl⟩
      rw [← eX1] at hR
      try replace hok := hok X1 eX1
      refine lv_aload_n hx hb dX9_callBack_33 rfl (lv_at hl 1 rfl) ?_
      refine va_get (D := D) (ci := 9) (v := .ref (μ + 1)) (C := RX9) (T := TX9) (N := 15) hx hb hts inX9 hown hK.1 (MR.mk0 hR) 0 rfl rfl 0 (by decide) lk7 (fun _ h9 => h9) rfl dX9_callBack_34 ?_
      refine lv_iload_n hx hb dX9_callBack_37 rfl (lv_at hl 0 rfl) ?_
      refine lv_bipush (v := 6) hx hb dX9_callBack_38 (by decide) ?_
      refine lv_iadd hx hb dX9_callBack_40 ?_
      obtain ⟨h_6, hok⟩ := hok
      refine gm_iald hx hb hK.1 (MR.mk1 hR (c := 1) (by decide) bM_1) h_6 dX9_callBack_41 ?_
      refine lv_istore_n (lv' := [(3, .int (X1 1 (((f_X9_stationAt a1) + 6).toNatClampNeg))), (2, .int (f_X9_stationAt a1)), (0, .ref μ), (1, .int a1)]) hx hb dX9_callBack_42 rfl hl (by decide) rfl (fun ls hl => ?_)
      refine lv_aload_n hx hb dX9_callBack_43 rfl (lv_at hl 2 rfl) ?_
      refine lv_iload_n hx hb dX9_callBack_44 rfl (lv_at hl 3 rfl) ?_
      refine lv_iconst (v := 0) hx hb dX9_callBack_45 (by decide) ?_
      obtain ⟨h_7, hok⟩ := hok
      refine gm_cv (gm_call (As := [.int a1, .int 0]) (rest := []) (ci := 9) (q := (RX9, TX9, 15)) ⟨hx, hb, hml, hown, hts⟩ hK (c_X9_dropCall l D cy μ X1 a1 0 h_7) (cwV 2 hts gX9_callBack_X9_dropCall rfl rfl rfl (by decide +kernel) ⟨Nat.le_of_ble_eq_true rfl, Nat.le_of_ble_eq_true rfl⟩) (MR.mk0 hR) rfl hR rfl hl.1 rfl (Nat.le_of_ble_eq_true rfl) dX9_callBack_46 (Nat.zero_le _) (Nat.zero_le _)) hS (fun _ h => h) (fun H locs hR _ _ hS => ?_)
      obtain ⟨X2, eX2⟩ : ∃ Y : gM, Y = p_X9_dropCall X1 a1 0 := ⟨_, rfl⟩
      rw [← eX2] at hR
      try replace hok := hok X2 eX2
      refine lv_iload_n hx hb dX9_callBack_49 rfl (lv_at hl 0 rfl) ?_
      exact gm_iret hx hb hr hlocks hS (by (try simp only [p_X9_callBack, ↓if_neg c_2, ↓if_neg c_4, ← eX1, ← eX2]); (try rfl)) (by (try simp only [p_X9_callBack, ↓if_neg c_2, ↓if_neg c_4, ← eX1, ← eX2]); exact hR) dX9_callBack_50
    · try rw [if_pos c_4] at hok
      refine lv_bipush (v := (-5)) hx hb dX9_callBack_26 (by decide) ?_
      exact gm_iret hx hb hr hlocks hS (by (try simp only [p_X9_callBack, ↓if_neg c_2, ↓if_pos c_4]); (try rfl)) (by (try simp only [p_X9_callBack, ↓if_neg c_2, ↓if_pos c_4]); exact hR) dX9_callBack_28
  · try rw [if_pos c_2] at hok
    refine lv_iconst (v := (-1)) hx hb dX9_callBack_8 (by decide) ?_
    exact gm_iret hx hb hr hlocks hS (by (try simp only [p_X9_callBack, ↓if_pos c_2]); (try rfl)) (by (try simp only [p_X9_callBack, ↓if_pos c_2]); exact hR) dX9_callBack_9
def p_X9_order (X : gM) (a1 : Int32) (a2 : Int32) : Int32 × gM :=
  if f_X9_isTicket X a1 = 0 then
    ((-1), X)
  else
    if f_X9_in a2 1 50 = 0 then
      ((-2), X)
    else
      if X 1 2 = 4 then
        ((-3), X)
      else
        let X1 := p_X9_records X
        let X2 := updM X1 1 (((194 + (10 * (X1 1 2))) + 0).toNatClampNeg) a2
        let X3 := updM X2 1 (((194 + (10 * (X1 1 2))) + 1).toNatClampNeg) (X2 1 0)
        let X4 := updM X3 1 (((194 + (10 * (X1 1 2))) + 2).toNatClampNeg) 0
        let X5 := updM X4 1 (((194 + (10 * (X1 1 2))) + 3).toNatClampNeg) 0
        let X6 := updM X5 1 (((194 + (10 * (X1 1 2))) + 4).toNatClampNeg) 0
        let X7 := updM X6 1 (((194 + (10 * (X1 1 2))) + 5).toNatClampNeg) (f_X9_of X6 a1 0)
        let X8 := updM X7 1 (((194 + (10 * (X1 1 2))) + 6).toNatClampNeg) (f_X9_of X7 a1 2)
        let X9 := updM X8 1 (((194 + (10 * (X1 1 2))) + 7).toNatClampNeg) (f_X9_of X8 a1 1)
        let X10 := updM X9 1 (((194 + (10 * (X1 1 2))) + 8).toNatClampNeg) (f_X9_of X9 a1 3)
        let X11 := updM X10 1 (((194 + (10 * (X1 1 2))) + 9).toNatClampNeg) (f_X9_of X10 a1 14)
        let X12 := updM X11 1 2 ((X11 1 2) + 1)
        ((X12 1 2) - 1, X12)
def ok_X9_order (X : gM) (a1 : Int32) (a2 : Int32) : Prop :=
  (if f_X9_isTicket X a1 = 0 then
    True
  else
    (if f_X9_in a2 1 50 = 0 then
      True
    else
      (if X 1 2 = 4 then
        True
      else
        (ok_X9_records X) ∧
        ∀ X1 : gM, X1 = p_X9_records X →
        (vp_in ((194 + (10 * (X1 1 2))) + 0) 974) ∧
        ∀ X2 : gM, X2 = updM X1 1 (((194 + (10 * (X1 1 2))) + 0).toNatClampNeg) a2 →
        (vp_in ((194 + (10 * (X1 1 2))) + 1) 974) ∧
        ∀ X3 : gM, X3 = updM X2 1 (((194 + (10 * (X1 1 2))) + 1).toNatClampNeg) (X2 1 0) →
        (vp_in ((194 + (10 * (X1 1 2))) + 2) 974) ∧
        ∀ X4 : gM, X4 = updM X3 1 (((194 + (10 * (X1 1 2))) + 2).toNatClampNeg) 0 →
        (vp_in ((194 + (10 * (X1 1 2))) + 3) 974) ∧
        ∀ X5 : gM, X5 = updM X4 1 (((194 + (10 * (X1 1 2))) + 3).toNatClampNeg) 0 →
        (vp_in ((194 + (10 * (X1 1 2))) + 4) 974) ∧
        ∀ X6 : gM, X6 = updM X5 1 (((194 + (10 * (X1 1 2))) + 4).toNatClampNeg) 0 →
        (ok_X9_of X6 a1 0) ∧
        (vp_in ((194 + (10 * (X1 1 2))) + 5) 974) ∧
        ∀ X7 : gM, X7 = updM X6 1 (((194 + (10 * (X1 1 2))) + 5).toNatClampNeg) (f_X9_of X6 a1 0) →
        (ok_X9_of X7 a1 2) ∧
        (vp_in ((194 + (10 * (X1 1 2))) + 6) 974) ∧
        ∀ X8 : gM, X8 = updM X7 1 (((194 + (10 * (X1 1 2))) + 6).toNatClampNeg) (f_X9_of X7 a1 2) →
        (ok_X9_of X8 a1 1) ∧
        (vp_in ((194 + (10 * (X1 1 2))) + 7) 974) ∧
        ∀ X9 : gM, X9 = updM X8 1 (((194 + (10 * (X1 1 2))) + 7).toNatClampNeg) (f_X9_of X8 a1 1) →
        (ok_X9_of X9 a1 3) ∧
        (vp_in ((194 + (10 * (X1 1 2))) + 8) 974) ∧
        ∀ X10 : gM, X10 = updM X9 1 (((194 + (10 * (X1 1 2))) + 8).toNatClampNeg) (f_X9_of X9 a1 3) →
        (ok_X9_of X10 a1 14) ∧
        (vp_in ((194 + (10 * (X1 1 2))) + 9) 974) ∧
        True)))
set_option maxHeartbeats 4000000 in
set_option maxRecDepth 100000 in
theorem c_X9_order (l : Launch) (D : va_G) (cy : Nat → ClassId) (μ : Nat) (X : gM) (a1 : Int32) (a2 : Int32)  (hok : ok_X9_order X a1 a2) : Met l yX9_order wsX9_order ({ frames := 2, cells := 0, slots := 0, locals := 43 }) (gP [.ref μ, .int a1, .int a2] D cy (MR D cy μ X)) (gQi (p_X9_order X a1 a2).1 (MR D cy μ (p_X9_order X a1 a2).2) (MA μ)) 0 0 (MA μ) := by
  refine gm_met (cc := cX9_order) (maxL := 4) (ret := (some .int)) [.ref μ, .int a1, .int a2] (by decide) rfl (Nat.le_of_ble_eq_true rfl) ?_
  intro p e s m args below meth c0 ls C hR hl
  obtain ⟨hx, hb, hr, hts, hown, hlocks, hml, hK⟩ := C
  have hl : lv_has ls 4 [(0, .ref μ), (1, .int a1), (2, .int a2)] := hl
  have hS : va_S (MA μ) s.heap s.heap [] := va_S.rf
  have lk7 := hts (.fieldLink RX9 7 "MercuryLineModel" "s" "[I") (by decide +kernel)
  have inX9 : ∀ w ∈ u_ws RX9 TX9 15, w ∈ wsX9_order := by decide +kernel
  unfold ok_X9_order at hok
  refine lv_aload_n hx hb dX9_order_0 rfl (lv_at hl 0 rfl) ?_
  refine lv_iload_n hx hb dX9_order_1 rfl (lv_at hl 1 rfl) ?_
  refine gm_ci (gm_call (As := [.int a1]) (rest := []) (ci := 9) (q := (RX9, TX9, 15)) ⟨hx, hb, hml, hown, hts⟩ hK (c_X9_isTicket l D cy μ X a1) (cwV 1 hts gX9_order_X9_isTicket rfl rfl rfl (by decide +kernel) ⟨Nat.le_of_ble_eq_true rfl, Nat.le_of_ble_eq_true rfl⟩) (MR.mk0 hR) rfl hR rfl hl.1 rfl (Nat.le_of_ble_eq_true rfl) dX9_order_2 (Nat.zero_le _) (Nat.zero_le _)) hS (fun _ h => h.elim) (fun H locs _ _ hfr hS => ?_)
  have hR := gRep.keep hR hfr (fun _ _ h => h)
  refine lv_if_ne (tgt := 10) hx hb dX9_order_5 (by decide) (fun c_1 => ?_) (fun c_1 => ?_)
  · try rw [if_neg c_1] at hok
    refine lv_iload_n hx hb dX9_order_10 rfl (lv_at hl 2 rfl) ?_
    refine lv_iconst (v := 1) hx hb dX9_order_11 (by decide) ?_
    refine lv_bipush (v := 50) hx hb dX9_order_12 (by decide) ?_
    refine gm_ci (gm_callS (As := [.int a2, .int 1, .int 50]) (rest := []) ⟨hx, hb, hml, hown, hts⟩ hK (c_X9_in l D cy a2 1 50) (va_cwS 3 hts gX9_order_X9_in rfl rfl rfl (by decide +kernel) ⟨Nat.le_of_ble_eq_true rfl, Nat.le_of_ble_eq_true rfl⟩) trivial rfl hl.1 rfl (Nat.le_of_ble_eq_true rfl) dX9_order_14 (Nat.zero_le _) (Nat.zero_le _)) hS (fun _ h => h.elim) (fun H locs _ _ hfr hS => ?_)
    have hR := gRep.keep hR hfr (fun _ _ h => h)
    refine lv_if_ne (tgt := 23) hx hb dX9_order_17 (by decide) (fun c_2 => ?_) (fun c_2 => ?_)
    · try rw [if_neg c_2] at hok
      refine lv_aload_n hx hb dX9_order_23 rfl (lv_at hl 0 rfl) ?_
      refine va_get (D := D) (ci := 9) (v := .ref (μ + 1)) (C := RX9) (T := TX9) (N := 15) hx hb hts inX9 hown hK.1 (MR.mk0 hR) 0 rfl rfl 0 (by decide) lk7 (fun _ h9 => h9) rfl dX9_order_24 ?_
      refine lv_iconst (v := 2) hx hb dX9_order_27 (by decide) ?_
      refine gm_iald hx hb hK.1 (MR.mk1 hR (c := 1) (by decide) bM_1) (vp_in_iff.mpr (by decide)) dX9_order_28 ?_
      rw [show (2 : Int32).toNatClampNeg = 2 from by decide]
      refine lv_iconst (v := 4) hx hb dX9_order_29 (by decide) ?_
      refine lv_icmp_ne (tgt := 36) hx hb dX9_order_30 (by decide) (fun c_3 => ?_) (fun c_3 => ?_)
      · try rw [if_neg c_3] at hok
        refine lv_aload_n hx hb dX9_order_36 rfl (lv_at hl 0 rfl) ?_
        obtain ⟨h_4, hok⟩ := hok
        refine gm_cv (gm_call (As := []) (rest := []) (ci := 9) (q := (RX9, TX9, 15)) ⟨hx, hb, hml, hown, hts⟩ hK (c_X9_records l D cy μ X h_4) (cwV 0 hts gX9_order_X9_records rfl rfl rfl (by decide +kernel) ⟨Nat.le_of_ble_eq_true rfl, Nat.le_of_ble_eq_true rfl⟩) (MR.mk0 hR) rfl hR rfl hl.1 rfl (Nat.le_of_ble_eq_true rfl) dX9_order_37 (Nat.zero_le _) (Nat.zero_le _)) hS (fun _ h => h) (fun H locs hR _ _ hS => ?_)
        obtain ⟨X1, eX1⟩ : ∃ Y : gM, Y = p_X9_records X := ⟨_, rfl⟩
        rw [← eX1] at hR
        try replace hok := hok X1 eX1
        refine lv_sipush (v := 194) hx hb dX9_order_40 (by decide) ?_
        refine lv_bipush (v := 10) hx hb dX9_order_43 (by decide) ?_
        refine lv_aload_n hx hb dX9_order_45 rfl (lv_at hl 0 rfl) ?_
        refine va_get (D := D) (ci := 9) (v := .ref (μ + 1)) (C := RX9) (T := TX9) (N := 15) hx hb hts inX9 hown hK.1 (MR.mk0 hR) 0 rfl rfl 0 (by decide) lk7 (fun _ h9 => h9) rfl dX9_order_46 ?_
        refine lv_iconst (v := 2) hx hb dX9_order_49 (by decide) ?_
        refine gm_iald hx hb hK.1 (MR.mk1 hR (c := 1) (by decide) bM_1) (vp_in_iff.mpr (by decide)) dX9_order_50 ?_
        rw [show (2 : Int32).toNatClampNeg = 2 from by decide]
        refine lv_imul hx hb dX9_order_51 ?_
        refine lv_iadd hx hb dX9_order_52 ?_
        refine lv_istore_n (lv' := [(3, .int (194 + (10 * (X1 1 2)))), (0, .ref μ), (1, .int a1), (2, .int a2)]) hx hb dX9_order_53 rfl hl (by decide) rfl (fun ls hl => ?_)
        refine lv_aload_n hx hb dX9_order_54 rfl (lv_at hl 1 rfl) ?_
        refine va_get (D := D) (ci := 9) (v := .ref (μ + 1)) (C := RX9) (T := TX9) (N := 15) hx hb hts inX9 hown hK.1 (MR.mk0 hR) 0 rfl rfl 0 (by decide) lk7 (fun _ h9 => h9) rfl dX9_order_55 ?_
        refine lv_iload_n hx hb dX9_order_58 rfl (lv_at hl 0 rfl) ?_
        refine lv_iconst (v := 0) hx hb dX9_order_59 (by decide) ?_
        refine lv_iadd hx hb dX9_order_60 ?_
        refine lv_iload_n hx hb dX9_order_61 rfl (lv_at hl 3 rfl) ?_
        obtain ⟨h_5, hok⟩ := hok
        refine gm_iast hx hb hK.1 hR injM hS (a := 1) (by decide) rfl (fun r => bM_1) h_5 dX9_order_62 (fun H locs hR hS => ?_)
        obtain ⟨X2, eX2⟩ : ∃ Y : gM, Y = updM X1 1 (((194 + (10 * (X1 1 2))) + 0).toNatClampNeg) a2 := ⟨_, rfl⟩
        rw [← eX2] at hR
        try replace hok := hok X2 eX2
        refine lv_aload_n hx hb dX9_order_63 rfl (lv_at hl 1 rfl) ?_
        refine va_get (D := D) (ci := 9) (v := .ref (μ + 1)) (C := RX9) (T := TX9) (N := 15) hx hb hts inX9 hown hK.1 (MR.mk0 hR) 0 rfl rfl 0 (by decide) lk7 (fun _ h9 => h9) rfl dX9_order_64 ?_
        refine lv_iload_n hx hb dX9_order_67 rfl (lv_at hl 0 rfl) ?_
        refine lv_iconst (v := 1) hx hb dX9_order_68 (by decide) ?_
        refine lv_iadd hx hb dX9_order_69 ?_
        refine lv_aload_n hx hb dX9_order_70 rfl (lv_at hl 1 rfl) ?_
        refine va_get (D := D) (ci := 9) (v := .ref (μ + 1)) (C := RX9) (T := TX9) (N := 15) hx hb hts inX9 hown hK.1 (MR.mk0 hR) 0 rfl rfl 0 (by decide) lk7 (fun _ h9 => h9) rfl dX9_order_71 ?_
        refine lv_iconst (v := 0) hx hb dX9_order_74 (by decide) ?_
        refine gm_iald hx hb hK.1 (MR.mk1 hR (c := 1) (by decide) bM_1) (vp_in_iff.mpr (by decide)) dX9_order_75 ?_
        rw [show (0 : Int32).toNatClampNeg = 0 from by decide]
        obtain ⟨h_6, hok⟩ := hok
        refine gm_iast hx hb hK.1 hR injM hS (a := 1) (by decide) rfl (fun r => bM_1) h_6 dX9_order_76 (fun H locs hR hS => ?_)
        obtain ⟨X3, eX3⟩ : ∃ Y : gM, Y = updM X2 1 (((194 + (10 * (X1 1 2))) + 1).toNatClampNeg) (X2 1 0) := ⟨_, rfl⟩
        rw [← eX3] at hR
        try replace hok := hok X3 eX3
        refine lv_aload_n hx hb dX9_order_77 rfl (lv_at hl 1 rfl) ?_
        refine va_get (D := D) (ci := 9) (v := .ref (μ + 1)) (C := RX9) (T := TX9) (N := 15) hx hb hts inX9 hown hK.1 (MR.mk0 hR) 0 rfl rfl 0 (by decide) lk7 (fun _ h9 => h9) rfl dX9_order_78 ?_
        refine lv_iload_n hx hb dX9_order_81 rfl (lv_at hl 0 rfl) ?_
        refine lv_iconst (v := 2) hx hb dX9_order_82 (by decide) ?_
        refine lv_iadd hx hb dX9_order_83 ?_
        refine lv_iconst (v := 0) hx hb dX9_order_84 (by decide) ?_
        obtain ⟨h_7, hok⟩ := hok
        refine gm_iast hx hb hK.1 hR injM hS (a := 1) (by decide) rfl (fun r => bM_1) h_7 dX9_order_85 (fun H locs hR hS => ?_)
        obtain ⟨X4, eX4⟩ : ∃ Y : gM, Y = updM X3 1 (((194 + (10 * (X1 1 2))) + 2).toNatClampNeg) 0 := ⟨_, rfl⟩
        rw [← eX4] at hR
        try replace hok := hok X4 eX4
        refine lv_aload_n hx hb dX9_order_86 rfl (lv_at hl 1 rfl) ?_
        refine va_get (D := D) (ci := 9) (v := .ref (μ + 1)) (C := RX9) (T := TX9) (N := 15) hx hb hts inX9 hown hK.1 (MR.mk0 hR) 0 rfl rfl 0 (by decide) lk7 (fun _ h9 => h9) rfl dX9_order_87 ?_
        refine lv_iload_n hx hb dX9_order_90 rfl (lv_at hl 0 rfl) ?_
        refine lv_iconst (v := 3) hx hb dX9_order_91 (by decide) ?_
        refine lv_iadd hx hb dX9_order_92 ?_
        refine lv_iconst (v := 0) hx hb dX9_order_93 (by decide) ?_
        obtain ⟨h_8, hok⟩ := hok
        refine gm_iast hx hb hK.1 hR injM hS (a := 1) (by decide) rfl (fun r => bM_1) h_8 dX9_order_94 (fun H locs hR hS => ?_)
        obtain ⟨X5, eX5⟩ : ∃ Y : gM, Y = updM X4 1 (((194 + (10 * (X1 1 2))) + 3).toNatClampNeg) 0 := ⟨_, rfl⟩
        rw [← eX5] at hR
        try replace hok := hok X5 eX5
        refine lv_aload_n hx hb dX9_order_95 rfl (lv_at hl 1 rfl) ?_
        refine va_get (D := D) (ci := 9) (v := .ref (μ + 1)) (C := RX9) (T := TX9) (N := 15) hx hb hts inX9 hown hK.1 (MR.mk0 hR) 0 rfl rfl 0 (by decide) lk7 (fun _ h9 => h9) rfl dX9_order_96 ?_
        refine lv_iload_n hx hb dX9_order_99 rfl (lv_at hl 0 rfl) ?_
        refine lv_iconst (v := 4) hx hb dX9_order_100 (by decide) ?_
        refine lv_iadd hx hb dX9_order_101 ?_
        refine lv_iconst (v := 0) hx hb dX9_order_102 (by decide) ?_
        obtain ⟨h_9, hok⟩ := hok
        refine gm_iast hx hb hK.1 hR injM hS (a := 1) (by decide) rfl (fun r => bM_1) h_9 dX9_order_103 (fun H locs hR hS => ?_)
        obtain ⟨X6, eX6⟩ : ∃ Y : gM, Y = updM X5 1 (((194 + (10 * (X1 1 2))) + 4).toNatClampNeg) 0 := ⟨_, rfl⟩
        rw [← eX6] at hR
        try replace hok := hok X6 eX6
        refine lv_aload_n hx hb dX9_order_104 rfl (lv_at hl 1 rfl) ?_
        refine va_get (D := D) (ci := 9) (v := .ref (μ + 1)) (C := RX9) (T := TX9) (N := 15) hx hb hts inX9 hown hK.1 (MR.mk0 hR) 0 rfl rfl 0 (by decide) lk7 (fun _ h9 => h9) rfl dX9_order_105 ?_
        refine lv_iload_n hx hb dX9_order_108 rfl (lv_at hl 0 rfl) ?_
        refine lv_iconst (v := 5) hx hb dX9_order_109 (by decide) ?_
        refine lv_iadd hx hb dX9_order_110 ?_
        refine lv_aload_n hx hb dX9_order_111 rfl (lv_at hl 1 rfl) ?_
        refine lv_iload_n hx hb dX9_order_112 rfl (lv_at hl 2 rfl) ?_
        refine lv_iconst (v := 0) hx hb dX9_order_113 (by decide) ?_
        obtain ⟨h_10, hok⟩ := hok
        refine gm_ci (gm_call (As := [.int a1, .int 0]) (rest := [.int ((194 + (10 * (X1 1 2))) + 5), .ref (μ + 1)]) (ci := 9) (q := (RX9, TX9, 15)) ⟨hx, hb, hml, hown, hts⟩ hK (c_X9_of l D cy μ X6 a1 0 h_10) (cwV 2 hts gX9_order_X9_of rfl rfl rfl (by decide +kernel) ⟨Nat.le_of_ble_eq_true rfl, Nat.le_of_ble_eq_true rfl⟩) (MR.mk0 hR) rfl hR rfl hl.1 rfl (Nat.le_of_ble_eq_true rfl) dX9_order_114 (Nat.zero_le _) (Nat.zero_le _)) hS (fun _ h => h.elim) (fun H locs _ _ hfr hS => ?_)
        have hR := gRep.keep hR hfr (fun _ _ h => h)
        obtain ⟨h_11, hok⟩ := hok
        refine gm_iast hx hb hK.1 hR injM hS (a := 1) (by decide) rfl (fun r => bM_1) h_11 dX9_order_117 (fun H locs hR hS => ?_)
        obtain ⟨X7, eX7⟩ : ∃ Y : gM, Y = updM X6 1 (((194 + (10 * (X1 1 2))) + 5).toNatClampNeg) (f_X9_of X6 a1 0) := ⟨_, rfl⟩
        rw [← eX7] at hR
        try replace hok := hok X7 eX7
        refine lv_aload_n hx hb dX9_order_118 rfl (lv_at hl 1 rfl) ?_
        refine va_get (D := D) (ci := 9) (v := .ref (μ + 1)) (C := RX9) (T := TX9) (N := 15) hx hb hts inX9 hown hK.1 (MR.mk0 hR) 0 rfl rfl 0 (by decide) lk7 (fun _ h9 => h9) rfl dX9_order_119 ?_
        refine lv_iload_n hx hb dX9_order_122 rfl (lv_at hl 0 rfl) ?_
        refine lv_bipush (v := 6) hx hb dX9_order_123 (by decide) ?_
        refine lv_iadd hx hb dX9_order_125 ?_
        refine lv_aload_n hx hb dX9_order_126 rfl (lv_at hl 1 rfl) ?_
        refine lv_iload_n hx hb dX9_order_127 rfl (lv_at hl 2 rfl) ?_
        refine lv_iconst (v := 2) hx hb dX9_order_128 (by decide) ?_
        obtain ⟨h_12, hok⟩ := hok
        refine gm_ci (gm_call (As := [.int a1, .int 2]) (rest := [.int ((194 + (10 * (X1 1 2))) + 6), .ref (μ + 1)]) (ci := 9) (q := (RX9, TX9, 15)) ⟨hx, hb, hml, hown, hts⟩ hK (c_X9_of l D cy μ X7 a1 2 h_12) (cwV 2 hts gX9_order_X9_of rfl rfl rfl (by decide +kernel) ⟨Nat.le_of_ble_eq_true rfl, Nat.le_of_ble_eq_true rfl⟩) (MR.mk0 hR) rfl hR rfl hl.1 rfl (Nat.le_of_ble_eq_true rfl) dX9_order_129 (Nat.zero_le _) (Nat.zero_le _)) hS (fun _ h => h.elim) (fun H locs _ _ hfr hS => ?_)
        have hR := gRep.keep hR hfr (fun _ _ h => h)
        obtain ⟨h_13, hok⟩ := hok
        refine gm_iast hx hb hK.1 hR injM hS (a := 1) (by decide) rfl (fun r => bM_1) h_13 dX9_order_132 (fun H locs hR hS => ?_)
        obtain ⟨X8, eX8⟩ : ∃ Y : gM, Y = updM X7 1 (((194 + (10 * (X1 1 2))) + 6).toNatClampNeg) (f_X9_of X7 a1 2) := ⟨_, rfl⟩
        rw [← eX8] at hR
        try replace hok := hok X8 eX8
        refine lv_aload_n hx hb dX9_order_133 rfl (lv_at hl 1 rfl) ?_
        refine va_get (D := D) (ci := 9) (v := .ref (μ + 1)) (C := RX9) (T := TX9) (N := 15) hx hb hts inX9 hown hK.1 (MR.mk0 hR) 0 rfl rfl 0 (by decide) lk7 (fun _ h9 => h9) rfl dX9_order_134 ?_
        refine lv_iload_n hx hb dX9_order_137 rfl (lv_at hl 0 rfl) ?_
        refine lv_bipush (v := 7) hx hb dX9_order_138 (by decide) ?_
        refine lv_iadd hx hb dX9_order_140 ?_
        refine lv_aload_n hx hb dX9_order_141 rfl (lv_at hl 1 rfl) ?_
        refine lv_iload_n hx hb dX9_order_142 rfl (lv_at hl 2 rfl) ?_
        refine lv_iconst (v := 1) hx hb dX9_order_143 (by decide) ?_
        obtain ⟨h_14, hok⟩ := hok
        refine gm_ci (gm_call (As := [.int a1, .int 1]) (rest := [.int ((194 + (10 * (X1 1 2))) + 7), .ref (μ + 1)]) (ci := 9) (q := (RX9, TX9, 15)) ⟨hx, hb, hml, hown, hts⟩ hK (c_X9_of l D cy μ X8 a1 1 h_14) (cwV 2 hts gX9_order_X9_of rfl rfl rfl (by decide +kernel) ⟨Nat.le_of_ble_eq_true rfl, Nat.le_of_ble_eq_true rfl⟩) (MR.mk0 hR) rfl hR rfl hl.1 rfl (Nat.le_of_ble_eq_true rfl) dX9_order_144 (Nat.zero_le _) (Nat.zero_le _)) hS (fun _ h => h.elim) (fun H locs _ _ hfr hS => ?_)
        have hR := gRep.keep hR hfr (fun _ _ h => h)
        obtain ⟨h_15, hok⟩ := hok
        refine gm_iast hx hb hK.1 hR injM hS (a := 1) (by decide) rfl (fun r => bM_1) h_15 dX9_order_147 (fun H locs hR hS => ?_)
        obtain ⟨X9, eX9⟩ : ∃ Y : gM, Y = updM X8 1 (((194 + (10 * (X1 1 2))) + 7).toNatClampNeg) (f_X9_of X8 a1 1) := ⟨_, rfl⟩
        rw [← eX9] at hR
        try replace hok := hok X9 eX9
        refine lv_aload_n hx hb dX9_order_148 rfl (lv_at hl 1 rfl) ?_
        refine va_get (D := D) (ci := 9) (v := .ref (μ + 1)) (C := RX9) (T := TX9) (N := 15) hx hb hts inX9 hown hK.1 (MR.mk0 hR) 0 rfl rfl 0 (by decide) lk7 (fun _ h9 => h9) rfl dX9_order_149 ?_
        refine lv_iload_n hx hb dX9_order_152 rfl (lv_at hl 0 rfl) ?_
        refine lv_bipush (v := 8) hx hb dX9_order_153 (by decide) ?_
        refine lv_iadd hx hb dX9_order_155 ?_
        refine lv_aload_n hx hb dX9_order_156 rfl (lv_at hl 1 rfl) ?_
        refine lv_iload_n hx hb dX9_order_157 rfl (lv_at hl 2 rfl) ?_
        refine lv_iconst (v := 3) hx hb dX9_order_158 (by decide) ?_
        obtain ⟨h_16, hok⟩ := hok
        refine gm_ci (gm_call (As := [.int a1, .int 3]) (rest := [.int ((194 + (10 * (X1 1 2))) + 8), .ref (μ + 1)]) (ci := 9) (q := (RX9, TX9, 15)) ⟨hx, hb, hml, hown, hts⟩ hK (c_X9_of l D cy μ X9 a1 3 h_16) (cwV 2 hts gX9_order_X9_of rfl rfl rfl (by decide +kernel) ⟨Nat.le_of_ble_eq_true rfl, Nat.le_of_ble_eq_true rfl⟩) (MR.mk0 hR) rfl hR rfl hl.1 rfl (Nat.le_of_ble_eq_true rfl) dX9_order_159 (Nat.zero_le _) (Nat.zero_le _)) hS (fun _ h => h.elim) (fun H locs _ _ hfr hS => ?_)
        have hR := gRep.keep hR hfr (fun _ _ h => h)
        obtain ⟨h_17, hok⟩ := hok
        refine gm_iast hx hb hK.1 hR injM hS (a := 1) (by decide) rfl (fun r => bM_1) h_17 dX9_order_162 (fun H locs hR hS => ?_)
        obtain ⟨X10, eX10⟩ : ∃ Y : gM, Y = updM X9 1 (((194 + (10 * (X1 1 2))) + 8).toNatClampNeg) (f_X9_of X9 a1 3) := ⟨_, rfl⟩
        rw [← eX10] at hR
        try replace hok := hok X10 eX10
        refine lv_aload_n hx hb dX9_order_163 rfl (lv_at hl 1 rfl) ?_
        refine va_get (D := D) (ci := 9) (v := .ref (μ + 1)) (C := RX9) (T := TX9) (N := 15) hx hb hts inX9 hown hK.1 (MR.mk0 hR) 0 rfl rfl 0 (by decide) lk7 (fun _ h9 => h9) rfl dX9_order_164 ?_
        refine lv_iload_n hx hb dX9_order_167 rfl (lv_at hl 0 rfl) ?_
        refine lv_bipush (v := 9) hx hb dX9_order_168 (by decide) ?_
        refine lv_iadd hx hb dX9_order_170 ?_
        refine lv_aload_n hx hb dX9_order_171 rfl (lv_at hl 1 rfl) ?_
        refine lv_iload_n hx hb dX9_order_172 rfl (lv_at hl 2 rfl) ?_
        refine lv_bipush (v := 14) hx hb dX9_order_173 (by decide) ?_
        obtain ⟨h_18, hok⟩ := hok
        refine gm_ci (gm_call (As := [.int a1, .int 14]) (rest := [.int ((194 + (10 * (X1 1 2))) + 9), .ref (μ + 1)]) (ci := 9) (q := (RX9, TX9, 15)) ⟨hx, hb, hml, hown, hts⟩ hK (c_X9_of l D cy μ X10 a1 14 h_18) (cwV 2 hts gX9_order_X9_of rfl rfl rfl (by decide +kernel) ⟨Nat.le_of_ble_eq_true rfl, Nat.le_of_ble_eq_true rfl⟩) (MR.mk0 hR) rfl hR rfl hl.1 rfl (Nat.le_of_ble_eq_true rfl) dX9_order_175 (Nat.zero_le _) (Nat.zero_le _)) hS (fun _ h => h.elim) (fun H locs _ _ hfr hS => ?_)
        have hR := gRep.keep hR hfr (fun _ _ h => h)
        obtain ⟨h_19, hok⟩ := hok
        refine gm_iast hx hb hK.1 hR injM hS (a := 1) (by decide) rfl (fun r => bM_1) h_19 dX9_order_178 (fun H locs hR hS => ?_)
        obtain ⟨X11, eX11⟩ : ∃ Y : gM, Y = updM X10 1 (((194 + (10 * (X1 1 2))) + 9).toNatClampNeg) (f_X9_of X10 a1 14) := ⟨_, rfl⟩
        rw [← eX11] at hR
        try replace hok := hok X11 eX11
        refine lv_aload_n hx hb dX9_order_179 rfl (lv_at hl 1 rfl) ?_
        refine va_get (D := D) (ci := 9) (v := .ref (μ + 1)) (C := RX9) (T := TX9) (N := 15) hx hb hts inX9 hown hK.1 (MR.mk0 hR) 0 rfl rfl 0 (by decide) lk7 (fun _ h9 => h9) rfl dX9_order_180 ?_
        refine lv_iconst (v := 2) hx hb dX9_order_183 (by decide) ?_
        refine lv_dup2_11 hx hb dX9_order_184 rfl rfl ?_
        refine gm_iald hx hb hK.1 (MR.mk1 hR (c := 1) (by decide) bM_1) (vp_in_iff.mpr (by decide)) dX9_order_185 ?_
        rw [show (2 : Int32).toNatClampNeg = 2 from by decide]
        refine lv_iconst (v := 1) hx hb dX9_order_186 (by decide) ?_
        refine lv_iadd hx hb dX9_order_187 ?_
        refine gm_iast hx hb hK.1 hR injM hS (a := 1) (by decide) rfl (fun r => bM_1) (vp_in_iff.mpr (by decide)) dX9_order_188 (fun H locs hR hS => ?_)
        rw [show (2 : Int32).toNatClampNeg = 2 from by decide] at hR
        obtain ⟨X12, eX12⟩ : ∃ Y : gM, Y = updM X11 1 2 ((X11 1 2) + 1) := ⟨_, rfl⟩
        rw [← eX12] at hR
        try replace hok := hok X12 eX12
        refine lv_aload_n hx hb dX9_order_189 rfl (lv_at hl 1 rfl) ?_
        refine va_get (D := D) (ci := 9) (v := .ref (μ + 1)) (C := RX9) (T := TX9) (N := 15) hx hb hts inX9 hown hK.1 (MR.mk0 hR) 0 rfl rfl 0 (by decide) lk7 (fun _ h9 => h9) rfl dX9_order_190 ?_
        refine lv_iconst (v := 2) hx hb dX9_order_193 (by decide) ?_
        refine gm_iald hx hb hK.1 (MR.mk1 hR (c := 1) (by decide) bM_1) (vp_in_iff.mpr (by decide)) dX9_order_194 ?_
        rw [show (2 : Int32).toNatClampNeg = 2 from by decide]
        refine lv_iconst (v := 1) hx hb dX9_order_195 (by decide) ?_
        refine lv_isub hx hb dX9_order_196 ?_
        exact gm_iret hx hb hr hlocks hS (by (try simp only [p_X9_order, ↓if_neg c_1, ↓if_neg c_2, ↓if_neg c_3, ← eX1, ← eX2, ← eX3, ← eX4, ← eX5, ← eX6, ← eX7, ← eX8, ← eX9, ← eX10, ← eX11, ← eX12]); (try rfl)) (by (try simp only [p_X9_order, ↓if_neg c_1, ↓if_neg c_2, ↓if_neg c_3, ← eX1, ← eX2, ← eX3, ← eX4, ← eX5, ← eX6, ← eX7, ← eX8, ← eX9, ← eX10, ← eX11, ← eX12]); exact hR) dX9_order_197
      · try rw [if_pos c_3] at hok
        refine lv_bipush (v := (-3)) hx hb dX9_order_33 (by decide) ?_
        exact gm_iret hx hb hr hlocks hS (by (try simp only [p_X9_order, ↓if_neg c_1, ↓if_neg c_2, ↓if_pos c_3]); (try rfl)) (by (try simp only [p_X9_order, ↓if_neg c_1, ↓if_neg c_2, ↓if_pos c_3]); exact hR) dX9_order_35
    · try rw [if_pos c_2] at hok
      refine lv_bipush (v := (-2)) hx hb dX9_order_20 (by decide) ?_
      exact gm_iret hx hb hr hlocks hS (by (try simp only [p_X9_order, ↓if_neg c_1, ↓if_pos c_2]); (try rfl)) (by (try simp only [p_X9_order, ↓if_neg c_1, ↓if_pos c_2]); exact hR) dX9_order_22
  · try rw [if_pos c_1] at hok
    refine lv_iconst (v := (-1)) hx hb dX9_order_8 (by decide) ?_
    exact gm_iret hx hb hr hlocks hS (by (try simp only [p_X9_order, ↓if_pos c_1]); (try rfl)) (by (try simp only [p_X9_order, ↓if_pos c_1]); exact hR) dX9_order_9
def p_X9_endOrder (X : gM) (a1 : Int32) : Int32 × gM :=
  if f_X9_isOrder X a1 = 0 then
    ((-1), X)
  else
    if X 1 (((194 + (10 * a1)) + 4).toNatClampNeg) = 1 then
      ((-5), X)
    else
      let X1 := p_X9_records X
      let X2 := updM X1 1 (((194 + (10 * a1)) + 4).toNatClampNeg) 1
      (X2 1 (((194 + (10 * a1)) + 2).toNatClampNeg), X2)
def ok_X9_endOrder (X : gM) (a1 : Int32) : Prop :=
  (if f_X9_isOrder X a1 = 0 then
    True
  else
    (vp_in ((194 + (10 * a1)) + 4) 974) ∧
    (if X 1 (((194 + (10 * a1)) + 4).toNatClampNeg) = 1 then
      True
    else
      (ok_X9_records X) ∧
      ∀ X1 : gM, X1 = p_X9_records X →
      (vp_in ((194 + (10 * a1)) + 4) 974) ∧
      ∀ X2 : gM, X2 = updM X1 1 (((194 + (10 * a1)) + 4).toNatClampNeg) 1 →
      (vp_in ((194 + (10 * a1)) + 2) 974) ∧
      True))
set_option maxHeartbeats 4000000 in
set_option maxRecDepth 100000 in
theorem c_X9_endOrder (l : Launch) (D : va_G) (cy : Nat → ClassId) (μ : Nat) (X : gM) (a1 : Int32)  (hok : ok_X9_endOrder X a1) : Met l yX9_endOrder wsX9_endOrder ({ frames := 2, cells := 0, slots := 0, locals := 43 }) (gP [.ref μ, .int a1] D cy (MR D cy μ X)) (gQi (p_X9_endOrder X a1).1 (MR D cy μ (p_X9_endOrder X a1).2) (MA μ)) 0 0 (MA μ) := by
  refine gm_met (cc := cX9_endOrder) (maxL := 2) (ret := (some .int)) [.ref μ, .int a1] (by decide) rfl (Nat.le_of_ble_eq_true rfl) ?_
  intro p e s m args below meth c0 ls C hR hl
  obtain ⟨hx, hb, hr, hts, hown, hlocks, hml, hK⟩ := C
  have hl : lv_has ls 2 [(0, .ref μ), (1, .int a1)] := hl
  have hS : va_S (MA μ) s.heap s.heap [] := va_S.rf
  have lk7 := hts (.fieldLink RX9 7 "MercuryLineModel" "s" "[I") (by decide +kernel)
  have inX9 : ∀ w ∈ u_ws RX9 TX9 15, w ∈ wsX9_endOrder := by decide +kernel
  unfold ok_X9_endOrder at hok
  refine lv_aload_n hx hb dX9_endOrder_0 rfl (lv_at hl 0 rfl) ?_
  refine lv_iload_n hx hb dX9_endOrder_1 rfl (lv_at hl 1 rfl) ?_
  refine gm_ci (gm_call (As := [.int a1]) (rest := []) (ci := 9) (q := (RX9, TX9, 15)) ⟨hx, hb, hml, hown, hts⟩ hK (c_X9_isOrder l D cy μ X a1) (cwV 1 hts gX9_endOrder_X9_isOrder rfl rfl rfl (by decide +kernel) ⟨Nat.le_of_ble_eq_true rfl, Nat.le_of_ble_eq_true rfl⟩) (MR.mk0 hR) rfl hR rfl hl.1 rfl (Nat.le_of_ble_eq_true rfl) dX9_endOrder_2 (Nat.zero_le _) (Nat.zero_le _)) hS (fun _ h => h.elim) (fun H locs _ _ hfr hS => ?_)
  have hR := gRep.keep hR hfr (fun _ _ h => h)
  refine lv_if_ne (tgt := 10) hx hb dX9_endOrder_5 (by decide) (fun c_1 => ?_) (fun c_1 => ?_)
  · try rw [if_neg c_1] at hok
    refine lv_aload_n hx hb dX9_endOrder_10 rfl (lv_at hl 0 rfl) ?_
    refine va_get (D := D) (ci := 9) (v := .ref (μ + 1)) (C := RX9) (T := TX9) (N := 15) hx hb hts inX9 hown hK.1 (MR.mk0 hR) 0 rfl rfl 0 (by decide) lk7 (fun _ h9 => h9) rfl dX9_endOrder_11 ?_
    refine lv_sipush (v := 194) hx hb dX9_endOrder_14 (by decide) ?_
    refine lv_bipush (v := 10) hx hb dX9_endOrder_17 (by decide) ?_
    refine lv_iload_n hx hb dX9_endOrder_19 rfl (lv_at hl 1 rfl) ?_
    refine lv_imul hx hb dX9_endOrder_20 ?_
    refine lv_iadd hx hb dX9_endOrder_21 ?_
    refine lv_iconst (v := 4) hx hb dX9_endOrder_22 (by decide) ?_
    refine lv_iadd hx hb dX9_endOrder_23 ?_
    obtain ⟨h_2, hok⟩ := hok
    refine gm_iald hx hb hK.1 (MR.mk1 hR (c := 1) (by decide) bM_1) h_2 dX9_endOrder_24 ?_
    refine lv_iconst (v := 1) hx hb dX9_endOrder_25 (by decide) ?_
    refine lv_icmp_ne (tgt := 32) hx hb dX9_endOrder_26 (by decide) (fun c_3 => ?_) (fun c_3 => ?_)
    · try rw [if_neg c_3] at hok
      refine lv_aload_n hx hb dX9_endOrder_32 rfl (lv_at hl 0 rfl) ?_
      obtain ⟨h_4, hok⟩ := hok
      refine gm_cv (gm_call (As := []) (rest := []) (ci := 9) (q := (RX9, TX9, 15)) ⟨hx, hb, hml, hown, hts⟩ hK (c_X9_records l D cy μ X h_4) (cwV 0 hts gX9_endOrder_X9_records rfl rfl rfl (by decide +kernel) ⟨Nat.le_of_ble_eq_true rfl, Nat.le_of_ble_eq_true rfl⟩) (MR.mk0 hR) rfl hR rfl hl.1 rfl (Nat.le_of_ble_eq_true rfl) dX9_endOrder_33 (Nat.zero_le _) (Nat.zero_le _)) hS (fun _ h => h) (fun H locs hR _ _ hS => ?_)
      obtain ⟨X1, eX1⟩ : ∃ Y : gM, Y = p_X9_records X := ⟨_, rfl⟩
      rw [← eX1] at hR
      try replace hok := hok X1 eX1
      refine lv_aload_n hx hb dX9_endOrder_36 rfl (lv_at hl 0 rfl) ?_
      refine va_get (D := D) (ci := 9) (v := .ref (μ + 1)) (C := RX9) (T := TX9) (N := 15) hx hb hts inX9 hown hK.1 (MR.mk0 hR) 0 rfl rfl 0 (by decide) lk7 (fun _ h9 => h9) rfl dX9_endOrder_37 ?_
      refine lv_sipush (v := 194) hx hb dX9_endOrder_40 (by decide) ?_
      refine lv_bipush (v := 10) hx hb dX9_endOrder_43 (by decide) ?_
      refine lv_iload_n hx hb dX9_endOrder_45 rfl (lv_at hl 1 rfl) ?_
      refine lv_imul hx hb dX9_endOrder_46 ?_
      refine lv_iadd hx hb dX9_endOrder_47 ?_
      refine lv_iconst (v := 4) hx hb dX9_endOrder_48 (by decide) ?_
      refine lv_iadd hx hb dX9_endOrder_49 ?_
      refine lv_iconst (v := 1) hx hb dX9_endOrder_50 (by decide) ?_
      obtain ⟨h_5, hok⟩ := hok
      refine gm_iast hx hb hK.1 hR injM hS (a := 1) (by decide) rfl (fun r => bM_1) h_5 dX9_endOrder_51 (fun H locs hR hS => ?_)
      obtain ⟨X2, eX2⟩ : ∃ Y : gM, Y = updM X1 1 (((194 + (10 * a1)) + 4).toNatClampNeg) 1 := ⟨_, rfl⟩
      rw [← eX2] at hR
      try replace hok := hok X2 eX2
      refine lv_aload_n hx hb dX9_endOrder_52 rfl (lv_at hl 0 rfl) ?_
      refine va_get (D := D) (ci := 9) (v := .ref (μ + 1)) (C := RX9) (T := TX9) (N := 15) hx hb hts inX9 hown hK.1 (MR.mk0 hR) 0 rfl rfl 0 (by decide) lk7 (fun _ h9 => h9) rfl dX9_endOrder_53 ?_
      refine lv_sipush (v := 194) hx hb dX9_endOrder_56 (by decide) ?_
      refine lv_bipush (v := 10) hx hb dX9_endOrder_59 (by decide) ?_
      refine lv_iload_n hx hb dX9_endOrder_61 rfl (lv_at hl 1 rfl) ?_
      refine lv_imul hx hb dX9_endOrder_62 ?_
      refine lv_iadd hx hb dX9_endOrder_63 ?_
      refine lv_iconst (v := 2) hx hb dX9_endOrder_64 (by decide) ?_
      refine lv_iadd hx hb dX9_endOrder_65 ?_
      obtain ⟨h_6, hok⟩ := hok
      refine gm_iald hx hb hK.1 (MR.mk1 hR (c := 1) (by decide) bM_1) h_6 dX9_endOrder_66 ?_
      exact gm_iret hx hb hr hlocks hS (by (try simp only [p_X9_endOrder, ↓if_neg c_1, ↓if_neg c_3, ← eX1, ← eX2]); (try rfl)) (by (try simp only [p_X9_endOrder, ↓if_neg c_1, ↓if_neg c_3, ← eX1, ← eX2]); exact hR) dX9_endOrder_67
    · try rw [if_pos c_3] at hok
      refine lv_bipush (v := (-5)) hx hb dX9_endOrder_29 (by decide) ?_
      exact gm_iret hx hb hr hlocks hS (by (try simp only [p_X9_endOrder, ↓if_neg c_1, ↓if_pos c_3]); (try rfl)) (by (try simp only [p_X9_endOrder, ↓if_neg c_1, ↓if_pos c_3]); exact hR) dX9_endOrder_31
  · try rw [if_pos c_1] at hok
    refine lv_iconst (v := (-1)) hx hb dX9_endOrder_8 (by decide) ?_
    exact gm_iret hx hb hr hlocks hS (by (try simp only [p_X9_endOrder, ↓if_pos c_1]); (try rfl)) (by (try simp only [p_X9_endOrder, ↓if_pos c_1]); exact hR) dX9_endOrder_9
def lf_X9_tick_24 (a1 : Int32) (K : (gM) → (Nat) → (Int32 × gM)) : Nat → (gM) → (Nat) → (Int32 × gM)
  | 0, Z, k_2 => K Z k_2
  | n + 1, Z, k_2 =>
    if a1 ≤ nI k_2 then
      K Z k_2
    else
      let X1 := p_X9_goTick Z
      lf_X9_tick_24 a1 K n X1 (k_2 + 1)
def lok_X9_tick_24 (a1 : Int32) (KO : (gM) → (Nat) → Prop) : Nat → (gM) → (Nat) → Prop
  | 0, Z, k_2 => True
  | n + 1, Z, k_2 =>
    (if a1 ≤ nI k_2 then
      KO Z k_2
    else
      (ok_X9_goTick Z) ∧
      ∀ X1 : gM, X1 = p_X9_goTick Z →
      lok_X9_tick_24 a1 KO n X1 (k_2 + 1))
def p_X9_tick (X : gM) (a1 : Int32) : Int32 × gM :=
  if f_X9_in a1 1 60 = 0 then
    ((-2), X)
  else
    let X1 := p_X9_records X
    let X2 := updM X1 0 8 0
    lf_X9_tick_24 a1 (fun X3 k_2w3 =>
          (X3 0 8, X3)) 2147483648 X2 0
def ok_X9_tick (X : gM) (a1 : Int32) : Prop :=
  (if f_X9_in a1 1 60 = 0 then
    True
  else
    (ok_X9_records X) ∧
    ∀ X1 : gM, X1 = p_X9_records X →
    ∀ X2 : gM, X2 = updM X1 0 8 0 →
    lok_X9_tick_24 a1 (fun X3 k_2w3 =>
          True) 2147483648 X2 0)
set_option maxHeartbeats 4000000 in
set_option maxRecDepth 100000 in
theorem lp_X9_tick_24 {p : Program} {l : Launch} {e : Env} {s : State} {m : MethodId} {args : Array Value} {below : List Frame} {meth : Method} {c0 : Code} {D : va_G} {cy : Nat → ClassId} (C : gCtx cX9_tick 3 (some .int) RX9 wsX9_tick D cy p s m args meth c0) (μ : Nat) (a1 : Int32) 
    (KO : (gM) → (Nat) → Prop) (K : (gM) → (Nat) → (Int32 × gM)) (hexit : ∀ (Z : gM) (k_2 : Nat), k_2 ≤ 2147483647 → KO Z k_2 → ∀ (H : Heap) (locs : List Loc) (ls : Array Slot), MR D cy μ Z H → va_S (MA μ) s.heap H locs → lv_has ls 3 [(0, .ref μ), (1, .int a1), (2, .int (nI k_2))] → W p l e { frames := 6, cells := 0, slots := 0, locals := 139 } s m args below meth c0 H locs 0 0 (MQ below (gQi (K Z k_2).1 (MR D cy μ (K Z k_2).2) (MA μ)) args s 0 0 (MA μ)) (F0 m 39 ls [])) :
    ∀ (n : Nat) (Z : gM) (k_2 : Nat), k_2 ≤ 2147483647 → lok_X9_tick_24 a1 KO n Z k_2 → 2147483647 < k_2 + n → ∀ (H : Heap) (locs : List Loc) (ls : Array Slot), MR D cy μ Z H → va_S (MA μ) s.heap H locs → lv_has ls 3 [(0, .ref μ), (1, .int a1), (2, .int (nI k_2))] → W p l e { frames := 6, cells := 0, slots := 0, locals := 139 } s m args below meth c0 H locs 0 0 (MQ below (gQi (lf_X9_tick_24 a1 K n Z k_2).1 (MR D cy μ (lf_X9_tick_24 a1 K n Z k_2).2) (MA μ)) args s 0 0 (MA μ)) (F0 m 24 ls []) := by
  obtain ⟨hx, hb, hr, hts, hown, hlocks, hml, hK⟩ := C
  intro n
  induction n with
  | zero =>
    intro Z k_2 hb_2 hok hme
    exact absurd hme (by omega)
  | succ n ih =>
    intro Z k_2 hb_2 hok hme H locs ls hR hS hl
    unfold lok_X9_tick_24 at hok
    refine lv_iload_n hx hb dX9_tick_24 rfl (lv_at hl 2 rfl) ?_
    refine lv_iload_n hx hb dX9_tick_25 rfl (lv_at hl 1 rfl) ?_
    refine lv_icmp_ge (tgt := 39) hx hb dX9_tick_26 (by decide) (fun c_1 => ?_) (fun c_1 => ?_)
    · try rw [if_pos c_1] at hok
      refine gm_q (Q2 := MQ below (gQi (K Z k_2).1 (MR D cy μ (K Z k_2).2) (MA μ)) args s 0 0 (MA μ)) (by simp only [lf_X9_tick_24, ↓if_pos c_1]) ?_
      exact hexit Z k_2 hb_2 hok _ _ _ hR hS (lv_sub hl [0, 1, 2] rfl)
    · try rw [if_neg c_1] at hok
      have lt_2 : k_2 < 2147483647 := g_big (Nat.lt_of_le_of_lt hb_2 (by decide)) c_1
      refine lv_aload_n hx hb dX9_tick_29 rfl (lv_at hl 0 rfl) ?_
      obtain ⟨h_3, hok⟩ := hok
      refine gm_cv (gm_call (As := []) (rest := []) (ci := 9) (q := (RX9, TX9, 15)) ⟨hx, hb, hml, hown, hts⟩ hK (c_X9_goTick l D cy μ Z h_3) (cwV 0 hts gX9_tick_X9_goTick rfl rfl rfl (by decide +kernel) ⟨Nat.le_of_ble_eq_true rfl, Nat.le_of_ble_eq_true rfl⟩) (MR.mk0 hR) rfl hR rfl hl.1 rfl (Nat.le_of_ble_eq_true rfl) dX9_tick_30 (Nat.zero_le _) (Nat.zero_le _)) hS (fun _ h => h) (fun H locs hR _ _ hS => ?_)
      obtain ⟨X1, eX1⟩ : ∃ Y : gM, Y = p_X9_goTick Z := ⟨_, rfl⟩
      rw [← eX1] at hR
      try replace hok := hok X1 eX1
      refine lv_iinc (v := nI (k_2 + 1)) (lv' := [(2, .int (nI (k_2 + 1))), (0, .ref μ), (1, .int a1)]) hx hb dX9_tick_33 hl (k := 2) rfl (nI_1 _) (by decide) rfl (fun ls hl => ?_)
      refine lv_goto (tgt := 24) hx hb dX9_tick_36 (by decide) ?_
      refine gm_q (Q2 := MQ below (gQi (lf_X9_tick_24 a1 K n X1 (k_2 + 1)).1 (MR D cy μ (lf_X9_tick_24 a1 K n X1 (k_2 + 1)).2) (MA μ)) args s 0 0 (MA μ)) (by simp only [lf_X9_tick_24, ↓if_neg c_1, ← eX1]) ?_
      exact ih X1 (k_2 + 1) lt_2 hok (by omega) _ _ _ hR hS (lv_sub hl [1, 2, 0] rfl)
set_option maxHeartbeats 4000000 in
set_option maxRecDepth 100000 in
theorem c_X9_tick (l : Launch) (D : va_G) (cy : Nat → ClassId) (μ : Nat) (X : gM) (a1 : Int32)  (hok : ok_X9_tick X a1) : Met l yX9_tick wsX9_tick ({ frames := 6, cells := 0, slots := 0, locals := 139 }) (gP [.ref μ, .int a1] D cy (MR D cy μ X)) (gQi (p_X9_tick X a1).1 (MR D cy μ (p_X9_tick X a1).2) (MA μ)) 0 0 (MA μ) := by
  refine gm_met (cc := cX9_tick) (maxL := 3) (ret := (some .int)) [.ref μ, .int a1] (by decide) rfl (Nat.le_of_ble_eq_true rfl) ?_
  intro p e s m args below meth c0 ls C hR hl
  obtain ⟨hx, hb, hr, hts, hown, hlocks, hml, hK⟩ := C
  have hl : lv_has ls 3 [(0, .ref μ), (1, .int a1)] := hl
  have hS : va_S (MA μ) s.heap s.heap [] := va_S.rf
  have lk84 := hts (.fieldLink RX9 84 "MercuryLineModel" "arrivals" "I") (by decide +kernel)
  have inX9 : ∀ w ∈ u_ws RX9 TX9 15, w ∈ wsX9_tick := by decide +kernel
  unfold ok_X9_tick at hok
  refine lv_iload_n hx hb dX9_tick_0 rfl (lv_at hl 1 rfl) ?_
  refine lv_iconst (v := 1) hx hb dX9_tick_1 (by decide) ?_
  refine lv_bipush (v := 60) hx hb dX9_tick_2 (by decide) ?_
  refine gm_ci (gm_callS (As := [.int a1, .int 1, .int 60]) (rest := []) ⟨hx, hb, hml, hown, hts⟩ hK (c_X9_in l D cy a1 1 60) (va_cwS 3 hts gX9_tick_X9_in rfl rfl rfl (by decide +kernel) ⟨Nat.le_of_ble_eq_true rfl, Nat.le_of_ble_eq_true rfl⟩) trivial rfl hl.1 rfl (Nat.le_of_ble_eq_true rfl) dX9_tick_4 (Nat.zero_le _) (Nat.zero_le _)) hS (fun _ h => h.elim) (fun H locs _ _ hfr hS => ?_)
  have hR := gRep.keep hR hfr (fun _ _ h => h)
  refine lv_if_ne (tgt := 13) hx hb dX9_tick_7 (by decide) (fun c_1 => ?_) (fun c_1 => ?_)
  · try rw [if_neg c_1] at hok
    refine lv_aload_n hx hb dX9_tick_13 rfl (lv_at hl 0 rfl) ?_
    obtain ⟨h_2, hok⟩ := hok
    refine gm_cv (gm_call (As := []) (rest := []) (ci := 9) (q := (RX9, TX9, 15)) ⟨hx, hb, hml, hown, hts⟩ hK (c_X9_records l D cy μ X h_2) (cwV 0 hts gX9_tick_X9_records rfl rfl rfl (by decide +kernel) ⟨Nat.le_of_ble_eq_true rfl, Nat.le_of_ble_eq_true rfl⟩) (MR.mk0 hR) rfl hR rfl hl.1 rfl (Nat.le_of_ble_eq_true rfl) dX9_tick_14 (Nat.zero_le _) (Nat.zero_le _)) hS (fun _ h => h) (fun H locs hR _ _ hS => ?_)
    obtain ⟨X1, eX1⟩ : ∃ Y : gM, Y = p_X9_records X := ⟨_, rfl⟩
    rw [← eX1] at hR
    try replace hok := hok X1 eX1
    refine lv_aload_n hx hb dX9_tick_17 rfl (lv_at hl 0 rfl) ?_
    refine lv_iconst (v := 0) hx hb dX9_tick_18 (by decide) ?_
    refine gm_put (v := .int 0) (ty := .int) (ci := 9) (C := RX9) (T := TX9) (N := 15) hx hb hts inX9 tyX9 tyX9_ok nmX9 hown hK.1 hR injM hS (a := 0) (by decide) rfl bM_0 rfl 8 (by decide) lk84 (fun _ h9 => h9) rfl (by decide +kernel) rfl rfl (Nat.le_of_ble_eq_true rfl) (j := 8) (x := 0) (by rw [bM_0]; rfl) dX9_tick_19 (fun H locs hR hS => ?_)
    obtain ⟨X2, eX2⟩ : ∃ Y : gM, Y = updM X1 0 8 0 := ⟨_, rfl⟩
    rw [← eX2] at hR
    try replace hok := hok X2 eX2
    refine lv_iconst (v := 0) hx hb dX9_tick_22 (by decide) ?_
    refine lv_istore_n (lv' := [(2, .int 0), (0, .ref μ), (1, .int a1)]) hx hb dX9_tick_23 rfl hl (by decide) rfl (fun ls hl => ?_)
    refine gm_q (Q2 := MQ below (gQi (lf_X9_tick_24 a1 (fun X3 k_2w3 =>
          (X3 0 8, X3)) 2147483648 X2 0).1 (MR D cy μ (lf_X9_tick_24 a1 (fun X3 k_2w3 =>
          (X3 0 8, X3)) 2147483648 X2 0).2) (MA μ)) args s 0 0 (MA μ)) (by simp only [p_X9_tick, ↓if_neg c_1, ← eX1, ← eX2]) ?_
    refine lp_X9_tick_24 ⟨hx, hb, hr, hts, hown, hlocks, hml, hK⟩ μ a1  _ _ (fun X3 k_2w3 hbk_2w3 hok H locs ls hR hS hl => ?_) 2147483648 X2 0 (by decide) hok (by omega) _ _ _ hR hS (lv_sub hl [1, 2, 0] rfl)
    refine lv_aload_n hx hb dX9_tick_39 rfl (lv_at hl 0 rfl) ?_
    refine va_get (D := D) (ci := 9) (v := .int (X3 0 8)) (C := RX9) (T := TX9) (N := 15) hx hb hts inX9 hown hK.1 (MR.mk0 hR) 0 rfl rfl 8 (by decide) lk84 (fun _ h9 => h9) rfl dX9_tick_40 ?_
    exact gm_iret hx hb hr hlocks hS (by (try simp only [p_X9_tick, ↓if_neg c_1, ← eX1, ← eX2]); (try rfl)) (by (try simp only [p_X9_tick, ↓if_neg c_1, ← eX1, ← eX2]); exact hR) dX9_tick_43
  · try rw [if_pos c_1] at hok
    refine lv_bipush (v := (-2)) hx hb dX9_tick_10 (by decide) ?_
    exact gm_iret hx hb hr hlocks hS (by (try simp only [p_X9_tick, ↓if_pos c_1]); (try rfl)) (by (try simp only [p_X9_tick, ↓if_pos c_1]); exact hR) dX9_tick_12
