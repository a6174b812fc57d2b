/-! the cells of the text of tickets and its reader -/
def kdX (c : Nat) : Nat := if c = 0 then 6 else if c = 1 then 31 else if c = 2 then 32 else 7
def bodyX (cy : Nat → ClassId) (τ : Nat) : gB := fun c r =>
  if kdX c = 6 then .inr (6, [.ref (τ + 1), .ref (τ + 2), .int (r 2), .int (r 3), .int (r 4)])
  else if kdX c = 31 then .inl (cy 1, 60, .inl r)
  else if kdX c = 32 then .inl (cy 6, 5, .inr (.inr (.inr (.inr (fun n => some (τ + (3 + n)))))))
  else .inr (7, [.int (r 0), .int (r 1), .int (r 2), .int (r 3), .int (r 4)])
section LAYX
variable {cy : Nat → ClassId} {τ c : Nat} {r : Nat → Int32}
theorem bX_6 (h : kdX c = 6) : bodyX cy τ c r = .inr (6, [.ref (τ + 1), .ref (τ + 2), .int (r 2), .int (r 3), .int (r 4)]) := by simp [bodyX, h]
theorem bX_31 (h : kdX c = 31) : bodyX cy τ c r = .inl (cy 1, 60, .inl r) := by simp [bodyX, h]
theorem bX_32 (h : kdX c = 32) : bodyX cy τ c r = .inl (cy 6, 5, .inr (.inr (.inr (.inr (fun n => some (τ + (3 + n))))))) := by simp [bodyX, h]
theorem bX_7 (h : kdX c = 7) : bodyX cy τ c r = .inr (7, [.int (r 0), .int (r 1), .int (r 2), .int (r 3), .int (r 4)]) := by simp [bodyX, h]
end LAYX
theorem injX {τ : Nat} : gInj 8 (adS τ) := fun a b _ _ h => by simp only [adS] at h; omega
abbrev XR (D : va_G) (cy : Nat → ClassId) (τ : Nat) (X : gM) (H : Heap) : Prop := gRep D (bodyX cy τ) 8 (adS τ) X H
abbrev XA (τ : Nat) : Nat → Prop := gA 8 (adS τ)
theorem XR.mk1 {D : va_G} {cy : Nat → ClassId} {τ : Nat} {X : gM} {H : Heap} (h : XR D cy τ X H) {c : Nat} (hc : c < 8) {e : va_E} (he : bodyX cy τ c (X c) = e) : va_P D vwCl [(τ + c, e)] H := gRep.one h hc he
theorem XR.mk0 {D : va_G} {cy : Nat → ClassId} {τ : Nat} {X : gM} {H : Heap} (h : XR D cy τ X H) : va_P D vwCl [(τ, .inr (6, [.ref (τ + 1), .ref (τ + 2), .int (X 0 2), .int (X 0 3), .int (X 0 4)]))] H := XR.mk1 h (c := 0) (by decide) (bX_6 (by decide))
theorem kd_X : ∀ n, n < 5 → 3 + n < 8 ∧ kdX (3 + n) = 7 := by decide +kernel
def p_X6_append (X : gM) (a1 : Int32) : Int32 × gM :=
  if f_X8_within (X 0 2) 0 59 = 0 then
    ((-3), X)
  else
    let X1 := updM X 1 ((X 0 2).toNatClampNeg) (vp_nar .char a1)
    let X2 := updM X1 0 2 ((X1 0 2) + 1)
    (X2 0 2, X2)
set_option maxHeartbeats 4000000 in
set_option maxRecDepth 100000 in
theorem c_X6_append (l : Launch) (D : va_G) (cy : Nat → ClassId) (τ : Nat) (X : gM) (a1 : Int32)  : Met l yX6_append wsX6_append ({ frames := 1, cells := 0, slots := 0, locals := 22 }) (gP [.ref τ, .int a1] D cy (XR D cy τ X)) (gQi (p_X6_append X a1).1 (XR D cy τ (p_X6_append X a1).2) (XA τ)) 0 0 (XA τ) := by
  refine gm_met (cc := cX6_append) (maxL := 2) (ret := (some .int)) [.ref τ, .int a1] (by decide) rfl (Nat.le_of_ble_eq_true rfl) ?_
  intro p e s m args below meth c0 ls C hR hl
  obtain ⟨hx, hb, hr, hts, hown, hlocks, hml, hK⟩ := C
  have hl : lv_has ls 2 [(0, .ref τ), (1, .int a1)] := hl
  have hS : va_S (XA τ) s.heap s.heap [] := va_S.rf
  have lk22 := hts (.fieldLink RX6 22 "MercuryLine$TicketText" "length" "I") (by decide +kernel)
  have inX6 : ∀ w ∈ u_ws RX6 TX6 5, w ∈ wsX6_append := by decide +kernel
  have lk11 := hts (.fieldLink RX6 11 "MercuryLine$TicketText" "signs" "[C") (by decide +kernel)
  refine lv_aload_n hx hb dX6_append_0 rfl (lv_at hl 0 rfl) ?_
  refine va_get (D := D) (ci := 6) (v := .int (X 0 2)) (C := RX6) (T := TX6) (N := 5) hx hb hts inX6 hown hK.1 (XR.mk0 hR) 0 rfl rfl 2 (by decide) lk22 (fun _ h9 => h9) rfl dX6_append_1 ?_
  refine lv_iconst (v := 0) hx hb dX6_append_4 (by decide) ?_
  refine lv_aload_n hx hb dX6_append_5 rfl (lv_at hl 0 rfl) ?_
  refine va_get (D := D) (ci := 6) (v := .ref (τ + 1)) (C := RX6) (T := TX6) (N := 5) hx hb hts inX6 hown hK.1 (XR.mk0 hR) 0 rfl rfl 0 (by decide) lk11 (fun _ h9 => h9) rfl dX6_append_6 ?_
  refine va_alen (v := 60) hx hb hK.1 (XR.mk1 hR (c := 1) (by decide) (bX_31 (by decide))) 0 1 rfl rfl rfl dX6_append_9 ?_
  refine lv_iconst (v := 1) hx hb dX6_append_10 (by decide) ?_
  refine lv_isub hx hb dX6_append_11 ?_
  rw [show (60 - 1 : Int32) = 59 from by decide]
  refine gm_ci (gm_callN (As := [.int (X 0 2), .int 0, .int 59]) (rest := []) ⟨hx, hb, hml, hown, hts⟩ hK (c_X8_within l D cy (X 0 2) 0 59) ⟨va_cnB 3 hts gX6_append_X8_within_n26 rfl rfl rfl (hK.2.1 (RX6, 26, yX8_within, "MercuryLine") (by decide +kernel)) (hts (.initialized RX8) (by decide +kernel)) (by decide +kernel) ⟨Nat.le_of_ble_eq_true rfl, Nat.le_of_ble_eq_true rfl⟩, hts (.static yX8_within) (by decide +kernel), trivial⟩ trivial rfl hl.1 rfl (Nat.le_of_ble_eq_true rfl) dX6_append_12 (Nat.zero_le _) (Nat.zero_le _)) hS (fun _ h => h.elim) (fun H locs _ _ hfr hS => ?_)
  have hR := gRep.keep hR hfr (fun _ _ h => h)
  refine lv_if_ne (tgt := 21) hx hb dX6_append_15 (by decide) (fun c_1 => ?_) (fun c_1 => ?_)
  · refine lv_aload_n hx hb dX6_append_21 rfl (lv_at hl 0 rfl) ?_
    refine va_get (D := D) (ci := 6) (v := .ref (τ + 1)) (C := RX6) (T := TX6) (N := 5) hx hb hts inX6 hown hK.1 (XR.mk0 hR) 0 rfl rfl 0 (by decide) lk11 (fun _ h9 => h9) rfl dX6_append_22 ?_
    refine lv_aload_n hx hb dX6_append_25 rfl (lv_at hl 0 rfl) ?_
    refine va_get (D := D) (ci := 6) (v := .int (X 0 2)) (C := RX6) (T := TX6) (N := 5) hx hb hts inX6 hown hK.1 (XR.mk0 hR) 0 rfl rfl 2 (by decide) lk22 (fun _ h9 => h9) rfl dX6_append_26 ?_
    refine lv_iload_n hx hb dX6_append_29 rfl (lv_at hl 1 rfl) ?_
    refine gm_cast hx hb hK.1 hR injX hS (a := 1) (by decide) rfl (fun r => (bX_31 (by decide))) (by
      refine vp_in_iff.mpr ?_
      try simp only [w_ne] at c_1
      simp only [Int32.le_iff_toInt_le, Int32.lt_iff_toInt_lt, ← Int32.toInt_inj, ti_m5, ti_0, ti_1, ti_2, ti_3, ti_4, ti_5, ti_6, ti_12, ti_19, ti_23, ti_24, ti_39, ti_40, ti_59, ti_60] at c_1 ⊢
      omega) dX6_append_30 (fun H locs hR hS => ?_)
    obtain ⟨X1, eX1⟩ : ∃ Y : gM, Y = updM X 1 ((X 0 2).toNatClampNeg) (vp_nar .char a1) := ⟨_, rfl⟩
    rw [← eX1] at hR
    refine lv_aload_n hx hb dX6_append_31 rfl (lv_at hl 0 rfl) ?_
    refine lv_dup hx hb dX6_append_32 rfl ?_
    refine va_get (D := D) (ci := 6) (v := .int (X1 0 2)) (C := RX6) (T := TX6) (N := 5) hx hb hts inX6 hown hK.1 (XR.mk0 hR) 0 rfl rfl 2 (by decide) lk22 (fun _ h9 => h9) rfl dX6_append_33 ?_
    refine lv_iconst (v := 1) hx hb dX6_append_36 (by decide) ?_
    refine lv_iadd hx hb dX6_append_37 ?_
    refine gm_put (v := .int ((X1 0 2) + 1)) (ty := .int) (ci := 6) (C := RX6) (T := TX6) (N := 5) hx hb hts inX6 tyX6 tyX6_ok nmX6 hown hK.1 hR injX hS (a := 0) (by decide) rfl (bX_6 (by decide)) rfl 2 (by decide) lk22 (fun _ h9 => h9) rfl (by decide +kernel) rfl rfl (Nat.le_of_ble_eq_true rfl) (j := 2) (x := (X1 0 2) + 1) (by rw [bX_6 (by decide)]; rfl) dX6_append_38 (fun H locs hR hS => ?_)
    obtain ⟨X2, eX2⟩ : ∃ Y : gM, Y = updM X1 0 2 ((X1 0 2) + 1) := ⟨_, rfl⟩
    rw [← eX2] at hR
    refine lv_aload_n hx hb dX6_append_41 rfl (lv_at hl 0 rfl) ?_
    refine va_get (D := D) (ci := 6) (v := .int (X2 0 2)) (C := RX6) (T := TX6) (N := 5) hx hb hts inX6 hown hK.1 (XR.mk0 hR) 0 rfl rfl 2 (by decide) lk22 (fun _ h9 => h9) rfl dX6_append_42 ?_
    exact gm_iret hx hb hr hlocks hS (by (try simp only [p_X6_append, ↓if_neg c_1, ← eX1, ← eX2]); (try rfl)) (by (try simp only [p_X6_append, ↓if_neg c_1, ← eX1, ← eX2]); exact hR) dX6_append_45
  · refine lv_bipush (v := (-3)) hx hb dX6_append_18 (by decide) ?_
    exact gm_iret hx hb hr hlocks hS (by (try simp only [p_X6_append, ↓if_pos c_1]); (try rfl)) (by (try simp only [p_X6_append, ↓if_pos c_1]); exact hR) dX6_append_20
def f_X6_signHere (X : gM) : Int32 :=
  if f_X8_within (X 0 4) 0 ((X 0 2) - 1) = 0 then
    (-5)
  else
    if 60 ≤ X 0 4 then
      (-5)
    else
      X 1 ((X 0 4).toNatClampNeg)
set_option maxHeartbeats 4000000 in
set_option maxRecDepth 100000 in
theorem c_X6_signHere (l : Launch) (D : va_G) (cy : Nat → ClassId) (τ : Nat) (X : gM)  : Met l yX6_signHere wsX6_signHere ({ frames := 1, cells := 0, slots := 0, locals := 22 }) (gP [.ref τ] D cy (XR D cy τ X)) (gQi (f_X6_signHere X) (fun _ => True) gNo) 0 0 gNo := by
  refine gm_met (cc := cX6_signHere) (maxL := 1) (ret := (some .int)) [.ref τ] (by decide) rfl (Nat.le_of_ble_eq_true rfl) ?_
  intro p e s m args below meth c0 ls C hR hl
  obtain ⟨hx, hb, hr, hts, hown, hlocks, hml, hK⟩ := C
  have hl : lv_has ls 1 [(0, .ref τ)] := hl
  have hS : va_S gNo s.heap s.heap [] := va_S.rf
  have lk30 := hts (.fieldLink RX6 30 "MercuryLine$TicketText" "at" "I") (by decide +kernel)
  have inX6 : ∀ w ∈ u_ws RX6 TX6 5, w ∈ wsX6_signHere := by decide +kernel
  have lk22 := hts (.fieldLink RX6 22 "MercuryLine$TicketText" "length" "I") (by decide +kernel)
  have lk11 := hts (.fieldLink RX6 11 "MercuryLine$TicketText" "signs" "[C") (by decide +kernel)
  refine lv_aload_n hx hb dX6_signHere_0 rfl (lv_at hl 0 rfl) ?_
  refine va_get (D := D) (ci := 6) (v := .int (X 0 4)) (C := RX6) (T := TX6) (N := 5) hx hb hts inX6 hown hK.1 (XR.mk0 hR) 0 rfl rfl 4 (by decide) lk30 (fun _ h9 => h9) rfl dX6_signHere_1 ?_
  refine lv_iconst (v := 0) hx hb dX6_signHere_4 (by decide) ?_
  refine lv_aload_n hx hb dX6_signHere_5 rfl (lv_at hl 0 rfl) ?_
  refine va_get (D := D) (ci := 6) (v := .int (X 0 2)) (C := RX6) (T := TX6) (N := 5) hx hb hts inX6 hown hK.1 (XR.mk0 hR) 0 rfl rfl 2 (by decide) lk22 (fun _ h9 => h9) rfl dX6_signHere_6 ?_
  refine lv_iconst (v := 1) hx hb dX6_signHere_9 (by decide) ?_
  refine lv_isub hx hb dX6_signHere_10 ?_
  refine gm_ci (gm_callN (As := [.int (X 0 4), .int 0, .int ((X 0 2) - 1)]) (rest := []) ⟨hx, hb, hml, hown, hts⟩ hK (c_X8_within l D cy (X 0 4) 0 ((X 0 2) - 1)) ⟨va_cnB 3 hts gX6_signHere_X8_within_n26 rfl rfl rfl (hK.2.1 (RX6, 26, yX8_within, "MercuryLine") (by decide +kernel)) (hts (.initialized RX8) (by decide +kernel)) (by decide +kernel) ⟨Nat.le_of_ble_eq_true rfl, Nat.le_of_ble_eq_true rfl⟩, hts (.static yX8_within) (by decide +kernel), trivial⟩ trivial rfl hl.1 rfl (Nat.le_of_ble_eq_true rfl) dX6_signHere_11 (Nat.zero_le _) (Nat.zero_le _)) hS (fun _ h => h.elim) (fun H locs _ _ hfr hS => ?_)
  have hR := gRep.keep hR hfr (fun _ _ h => h)
  refine lv_if_eq (tgt := 41) hx hb dX6_signHere_14 (by decide) (fun c_1 => ?_) (fun c_1 => ?_)
  · refine lv_bipush (v := (-5)) hx hb dX6_signHere_41 (by decide) ?_
    exact gm_iret hx hb hr hlocks hS (by (try simp only [f_X6_signHere, ↓if_pos c_1]); (try rfl)) trivial dX6_signHere_43
  · refine lv_aload_n hx hb dX6_signHere_17 rfl (lv_at hl 0 rfl) ?_
    refine va_get (D := D) (ci := 6) (v := .int (X 0 4)) (C := RX6) (T := TX6) (N := 5) hx hb hts inX6 hown hK.1 (XR.mk0 hR) 0 rfl rfl 4 (by decide) lk30 (fun _ h9 => h9) rfl dX6_signHere_18 ?_
    refine lv_aload_n hx hb dX6_signHere_21 rfl (lv_at hl 0 rfl) ?_
    refine va_get (D := D) (ci := 6) (v := .ref (τ + 1)) (C := RX6) (T := TX6) (N := 5) hx hb hts inX6 hown hK.1 (XR.mk0 hR) 0 rfl rfl 0 (by decide) lk11 (fun _ h9 => h9) rfl dX6_signHere_22 ?_
    refine va_alen (v := 60) hx hb hK.1 (XR.mk1 hR (c := 1) (by decide) (bX_31 (by decide))) 0 1 rfl rfl rfl dX6_signHere_25 ?_
    refine lv_icmp_ge (tgt := 41) hx hb dX6_signHere_26 (by decide) (fun c_2 => ?_) (fun c_2 => ?_)
    · refine lv_bipush (v := (-5)) hx hb dX6_signHere_41 (by decide) ?_
      exact gm_iret hx hb hr hlocks hS (by (try simp only [f_X6_signHere, ↓if_neg c_1, ↓if_pos c_2]); (try rfl)) trivial dX6_signHere_43
    · refine lv_aload_n hx hb dX6_signHere_29 rfl (lv_at hl 0 rfl) ?_
      refine va_get (D := D) (ci := 6) (v := .ref (τ + 1)) (C := RX6) (T := TX6) (N := 5) hx hb hts inX6 hown hK.1 (XR.mk0 hR) 0 rfl rfl 0 (by decide) lk11 (fun _ h9 => h9) rfl dX6_signHere_30 ?_
      refine lv_aload_n hx hb dX6_signHere_33 rfl (lv_at hl 0 rfl) ?_
      refine va_get (D := D) (ci := 6) (v := .int (X 0 4)) (C := RX6) (T := TX6) (N := 5) hx hb hts inX6 hown hK.1 (XR.mk0 hR) 0 rfl rfl 4 (by decide) lk30 (fun _ h9 => h9) rfl dX6_signHere_34 ?_
      refine gm_cald hx hb hK.1 (XR.mk1 hR (c := 1) (by decide) (bX_31 (by decide))) (by
      refine vp_in_iff.mpr ?_
      try simp only [w_ne] at c_1 c_2
      simp only [Int32.le_iff_toInt_le, Int32.lt_iff_toInt_lt, ← Int32.toInt_inj, ti_m5, ti_0, ti_1, ti_2, ti_3, ti_4, ti_5, ti_6, ti_12, ti_19, ti_23, ti_24, ti_39, ti_40, ti_59, ti_60] at c_1 c_2 ⊢
      omega) dX6_signHere_37 ?_
      refine lv_goto (tgt := 43) hx hb dX6_signHere_38 (by decide) ?_
      exact gm_iret hx hb hr hlocks hS (by (try simp only [f_X6_signHere, ↓if_neg c_1, ↓if_neg c_2]); (try rfl)) trivial dX6_signHere_43
def p_X6_readDigit (X : gM) (a1 : Int32) (a2 : Int32) : Int32 × gM :=
  if f_X8_within ((f_X6_signHere X) - 48) a1 a2 = 0 then
    ((-5), X)
  else
    let X1 := updM X 0 4 ((X 0 4) + 1)
    ((f_X6_signHere X) - 48, X1)
set_option maxHeartbeats 4000000 in
set_option maxRecDepth 100000 in
theorem c_X6_readDigit (l : Launch) (D : va_G) (cy : Nat → ClassId) (τ : Nat) (X : gM) (a1 : Int32) (a2 : Int32)  : Met l yX6_readDigit wsX6_readDigit ({ frames := 2, cells := 0, slots := 0, locals := 42 }) (gP [.ref τ, .int a1, .int a2] D cy (XR D cy τ X)) (gQi (p_X6_readDigit X a1 a2).1 (XR D cy τ (p_X6_readDigit X a1 a2).2) (XA τ)) 0 0 (XA τ) := by
  refine gm_met (cc := cX6_readDigit) (maxL := 4) (ret := (some .int)) [.ref τ, .int a1, .int a2] (by decide) rfl (Nat.le_of_ble_eq_true rfl) ?_
  intro p e s m args below meth c0 ls C hR hl
  obtain ⟨hx, hb, hr, hts, hown, hlocks, hml, hK⟩ := C
  have hl : lv_has ls 4 [(0, .ref τ), (1, .int a1), (2, .int a2)] := hl
  have hS : va_S (XA τ) s.heap s.heap [] := va_S.rf
  have lk30 := hts (.fieldLink RX6 30 "MercuryLine$TicketText" "at" "I") (by decide +kernel)
  have inX6 : ∀ w ∈ u_ws RX6 TX6 5, w ∈ wsX6_readDigit := by decide +kernel
  refine lv_aload_n hx hb dX6_readDigit_0 rfl (lv_at hl 0 rfl) ?_
  refine gm_ci (gm_call (As := []) (rest := []) (ci := 6) (q := (RX6, TX6, 5)) ⟨hx, hb, hml, hown, hts⟩ hK (c_X6_signHere l D cy τ X) (cwV 0 hts gX6_readDigit_X6_signHere rfl rfl rfl (by decide +kernel) ⟨Nat.le_of_ble_eq_true rfl, Nat.le_of_ble_eq_true rfl⟩) (XR.mk0 hR) rfl hR rfl hl.1 rfl (Nat.le_of_ble_eq_true rfl) dX6_readDigit_1 (Nat.zero_le _) (Nat.zero_le _)) hS (fun _ h => h.elim) (fun H locs _ _ hfr hS => ?_)
  have hR := gRep.keep hR hfr (fun _ _ h => h)
  refine lv_bipush (v := 48) hx hb dX6_readDigit_4 (by decide) ?_
  refine lv_isub hx hb dX6_readDigit_6 ?_
  refine lv_istore_n (lv' := [(3, .int ((f_X6_signHere X) - 48)), (0, .ref τ), (1, .int a1), (2, .int a2)]) hx hb dX6_readDigit_7 rfl hl (by decide) rfl (fun ls hl => ?_)
  refine lv_iload_n hx hb dX6_readDigit_8 rfl (lv_at hl 0 rfl) ?_
  refine lv_iload_n hx hb dX6_readDigit_9 rfl (lv_at hl 2 rfl) ?_
  refine lv_iload_n hx hb dX6_readDigit_10 rfl (lv_at hl 3 rfl) ?_
  refine gm_ci (gm_callN (As := [.int ((f_X6_signHere X) - 48), .int a1, .int a2]) (rest := []) ⟨hx, hb, hml, hown, hts⟩ hK (c_X8_within l D cy ((f_X6_signHere X) - 48) a1 a2) ⟨va_cnB 3 hts gX6_readDigit_X8_within_n26 rfl rfl rfl (hK.2.1 (RX6, 26, yX8_within, "MercuryLine") (by decide +kernel)) (hts (.initialized RX8) (by decide +kernel)) (by decide +kernel) ⟨Nat.le_of_ble_eq_true rfl, Nat.le_of_ble_eq_true rfl⟩, hts (.static yX8_within) (by decide +kernel), trivial⟩ trivial rfl hl.1 rfl (Nat.le_of_ble_eq_true rfl) dX6_readDigit_11 (Nat.zero_le _) (Nat.zero_le _)) hS (fun _ h => h.elim) (fun H locs _ _ hfr hS => ?_)
  have hR := gRep.keep hR hfr (fun _ _ h => h)
  refine lv_if_ne (tgt := 20) hx hb dX6_readDigit_14 (by decide) (fun c_1 => ?_) (fun c_1 => ?_)
  · refine lv_aload_n hx hb dX6_readDigit_20 rfl (lv_at hl 1 rfl) ?_
    refine lv_dup hx hb dX6_readDigit_21 rfl ?_
    refine va_get (D := D) (ci := 6) (v := .int (X 0 4)) (C := RX6) (T := TX6) (N := 5) hx hb hts inX6 hown hK.1 (XR.mk0 hR) 0 rfl rfl 4 (by decide) lk30 (fun _ h9 => h9) rfl dX6_readDigit_22 ?_
    refine lv_iconst (v := 1) hx hb dX6_readDigit_25 (by decide) ?_
    refine lv_iadd hx hb dX6_readDigit_26 ?_
    refine gm_put (v := .int ((X 0 4) + 1)) (ty := .int) (ci := 6) (C := RX6) (T := TX6) (N := 5) hx hb hts inX6 tyX6 tyX6_ok nmX6 hown hK.1 hR injX hS (a := 0) (by decide) rfl (bX_6 (by decide)) rfl 4 (by decide) lk30 (fun _ h9 => h9) rfl (by decide +kernel) rfl rfl (Nat.le_of_ble_eq_true rfl) (j := 4) (x := (X 0 4) + 1) (by rw [bX_6 (by decide)]; rfl) dX6_readDigit_27 (fun H locs hR hS => ?_)
    obtain ⟨X1, eX1⟩ : ∃ Y : gM, Y = updM X 0 4 ((X 0 4) + 1) := ⟨_, rfl⟩
    rw [← eX1] at hR
    refine lv_iload_n hx hb dX6_readDigit_30 rfl (lv_at hl 0 rfl) ?_
    exact gm_iret hx hb hr hlocks hS (by (try simp only [p_X6_readDigit, ↓if_neg c_1, ← eX1]); (try rfl)) (by (try simp only [p_X6_readDigit, ↓if_neg c_1, ← eX1]); exact hR) dX6_readDigit_31
  · refine lv_bipush (v := (-5)) hx hb dX6_readDigit_17 (by decide) ?_
    exact gm_iret hx hb hr hlocks hS (by (try simp only [p_X6_readDigit, ↓if_pos c_1]); (try rfl)) (by (try simp only [p_X6_readDigit, ↓if_pos c_1]); exact hR) dX6_readDigit_19
def p_X6_accept (X : gM) (a1 : Int32) : Int32 × gM :=
  if f_X6_signHere X = a1 then
    let X1 := updM X 0 4 ((X 0 4) + 1)
    (1, X1)
  else
    (0, X)
set_option maxHeartbeats 4000000 in
set_option maxRecDepth 100000 in
theorem c_X6_accept (l : Launch) (D : va_G) (cy : Nat → ClassId) (τ : Nat) (X : gM) (a1 : Int32)  : Met l yX6_accept wsX6_accept ({ frames := 2, cells := 0, slots := 0, locals := 42 }) (gP [.ref τ, .int a1] D cy (XR D cy τ X)) (gQi (p_X6_accept X a1).1 (XR D cy τ (p_X6_accept X a1).2) (XA τ)) 0 0 (XA τ) := by
  refine gm_met (cc := cX6_accept) (maxL := 2) (ret := (some .boolean)) [.ref τ, .int a1] (by decide) rfl (Nat.le_of_ble_eq_true rfl) ?_
  intro p e s m args below meth c0 ls C hR hl
  obtain ⟨hx, hb, hr, hts, hown, hlocks, hml, hK⟩ := C
  have hl : lv_has ls 2 [(0, .ref τ), (1, .int a1)] := hl
  have hS : va_S (XA τ) s.heap s.heap [] := va_S.rf
  have lk30 := hts (.fieldLink RX6 30 "MercuryLine$TicketText" "at" "I") (by decide +kernel)
  have inX6 : ∀ w ∈ u_ws RX6 TX6 5, w ∈ wsX6_accept := by decide +kernel
  refine lv_aload_n hx hb dX6_accept_0 rfl (lv_at hl 0 rfl) ?_
  refine gm_ci (gm_call (As := []) (rest := []) (ci := 6) (q := (RX6, TX6, 5)) ⟨hx, hb, hml, hown, hts⟩ hK (c_X6_signHere l D cy τ X) (cwV 0 hts gX6_accept_X6_signHere rfl rfl rfl (by decide +kernel) ⟨Nat.le_of_ble_eq_true rfl, Nat.le_of_ble_eq_true rfl⟩) (XR.mk0 hR) rfl hR rfl hl.1 rfl (Nat.le_of_ble_eq_true rfl) dX6_accept_1 (Nat.zero_le _) (Nat.zero_le _)) hS (fun _ h => h.elim) (fun H locs _ _ hfr hS => ?_)
  have hR := gRep.keep hR hfr (fun _ _ h => h)
  refine lv_iload_n hx hb dX6_accept_4 rfl (lv_at hl 1 rfl) ?_
  refine lv_icmp_eq (tgt := 10) hx hb dX6_accept_5 (by decide) (fun c_1 => ?_) (fun c_1 => ?_)
  · refine lv_aload_n hx hb dX6_accept_10 rfl (lv_at hl 0 rfl) ?_
    refine lv_dup hx hb dX6_accept_11 rfl ?_
    refine va_get (D := D) (ci := 6) (v := .int (X 0 4)) (C := RX6) (T := TX6) (N := 5) hx hb hts inX6 hown hK.1 (XR.mk0 hR) 0 rfl rfl 4 (by decide) lk30 (fun _ h9 => h9) rfl dX6_accept_12 ?_
    refine lv_iconst (v := 1) hx hb dX6_accept_15 (by decide) ?_
    refine lv_iadd hx hb dX6_accept_16 ?_
    refine gm_put (v := .int ((X 0 4) + 1)) (ty := .int) (ci := 6) (C := RX6) (T := TX6) (N := 5) hx hb hts inX6 tyX6 tyX6_ok nmX6 hown hK.1 hR injX hS (a := 0) (by decide) rfl (bX_6 (by decide)) rfl 4 (by decide) lk30 (fun _ h9 => h9) rfl (by decide +kernel) rfl rfl (Nat.le_of_ble_eq_true rfl) (j := 4) (x := (X 0 4) + 1) (by rw [bX_6 (by decide)]; rfl) dX6_accept_17 (fun H locs hR hS => ?_)
    obtain ⟨X1, eX1⟩ : ∃ Y : gM, Y = updM X 0 4 ((X 0 4) + 1) := ⟨_, rfl⟩
    rw [← eX1] at hR
    refine lv_iconst (v := 1) hx hb dX6_accept_20 (by decide) ?_
    exact gm_zret hx hb hr hlocks rfl hS (by (try simp only [p_X6_accept, ↓if_pos c_1, ← eX1]); (try rfl)) (by (try simp only [p_X6_accept, ↓if_pos c_1, ← eX1]); exact hR) dX6_accept_21
  · refine lv_iconst (v := 0) hx hb dX6_accept_8 (by decide) ?_
    exact gm_zret hx hb hr hlocks rfl hS (by (try simp only [p_X6_accept, ↓if_neg c_1]); (try rfl)) (by (try simp only [p_X6_accept, ↓if_neg c_1]); exact hR) dX6_accept_9
def p_X6_readStation (X : gM) : Int32 × gM :=
  let X1 := (p_X6_readDigit X 0 1).2
  if 0 ≤ (p_X6_readDigit X 0 1).1 then
    let X2 := (p_X6_readDigit X1 0 5).2
    if 0 ≤ (p_X6_readDigit X1 0 5).1 then
      ((10 * ((p_X6_readDigit X 0 1).1)) + ((p_X6_readDigit X1 0 5).1), X2)
    else
      ((-5), X2)
  else
    ((-5), X1)
set_option maxHeartbeats 4000000 in
set_option maxRecDepth 100000 in
theorem c_X6_readStation (l : Launch) (D : va_G) (cy : Nat → ClassId) (τ : Nat) (X : gM)  : Met l yX6_readStation wsX6_readStation ({ frames := 3, cells := 0, slots := 0, locals := 65 }) (gP [.ref τ] D cy (XR D cy τ X)) (gQi (p_X6_readStation X).1 (XR D cy τ (p_X6_readStation X).2) (XA τ)) 0 0 (XA τ) := by
  refine gm_met (cc := cX6_readStation) (maxL := 3) (ret := (some .int)) [.ref τ] (by decide) rfl (Nat.le_of_ble_eq_true rfl) ?_
  intro p e s m args below meth c0 ls C hR hl
  obtain ⟨hx, hb, hr, hts, hown, hlocks, hml, hK⟩ := C
  have hl : lv_has ls 3 [(0, .ref τ)] := hl
  have hS : va_S (XA τ) s.heap s.heap [] := va_S.rf
  refine lv_aload_n hx hb dX6_readStation_0 rfl (lv_at hl 0 rfl) ?_
  refine lv_iconst (v := 0) hx hb dX6_readStation_1 (by decide) ?_
  refine lv_iconst (v := 1) hx hb dX6_readStation_2 (by decide) ?_
  refine gm_ci (gm_call (As := [.int 0, .int 1]) (rest := []) (ci := 6) (q := (RX6, TX6, 5)) ⟨hx, hb, hml, hown, hts⟩ hK (c_X6_readDigit l D cy τ X 0 1) (cwV 2 hts gX6_readStation_X6_readDigit rfl rfl rfl (by decide +kernel) ⟨Nat.le_of_ble_eq_true rfl, Nat.le_of_ble_eq_true rfl⟩) (XR.mk0 hR) rfl hR rfl hl.1 rfl (Nat.le_of_ble_eq_true rfl) dX6_readStation_3 (Nat.zero_le _) (Nat.zero_le _)) hS (fun _ h => h) (fun H locs hR _ _ hS => ?_)
  obtain ⟨X1, eX1⟩ : ∃ Y : gM, Y = (p_X6_readDigit X 0 1).2 := ⟨_, rfl⟩
  rw [← eX1] at hR
  refine lv_istore_n (lv' := [(1, .int ((p_X6_readDigit X 0 1).1)), (0, .ref τ)]) hx hb dX6_readStation_6 rfl hl (by decide) rfl (fun ls hl => ?_)
  refine lv_iload_n hx hb dX6_readStation_7 rfl (lv_at hl 0 rfl) ?_
  refine lv_if_ge (tgt := 16) hx hb dX6_readStation_8 (by decide) (fun c_1 => ?_) (fun c_1 => ?_)
  · refine lv_aload_n hx hb dX6_readStation_16 rfl (lv_at hl 1 rfl) ?_
    refine lv_iconst (v := 0) hx hb dX6_readStation_17 (by decide) ?_
    refine lv_iconst (v := 5) hx hb dX6_readStation_18 (by decide) ?_
    refine gm_ci (gm_call (As := [.int 0, .int 5]) (rest := []) (ci := 6) (q := (RX6, TX6, 5)) ⟨hx, hb, hml, hown, hts⟩ hK (c_X6_readDigit l D cy τ X1 0 5) (cwV 2 hts gX6_readStation_X6_readDigit rfl rfl rfl (by decide +kernel) ⟨Nat.le_of_ble_eq_true rfl, Nat.le_of_ble_eq_true rfl⟩) (XR.mk0 hR) rfl hR rfl hl.1 rfl (Nat.le_of_ble_eq_true rfl) dX6_readStation_19 (Nat.zero_le _) (Nat.zero_le _)) hS (fun _ h => h) (fun H locs hR _ _ hS => ?_)
    obtain ⟨X2, eX2⟩ : ∃ Y : gM, Y = (p_X6_readDigit X1 0 5).2 := ⟨_, rfl⟩
    rw [← eX2] at hR
    refine lv_istore_n (lv' := [(2, .int ((p_X6_readDigit X1 0 5).1)), (1, .int ((p_X6_readDigit X 0 1).1)), (0, .ref τ)]) hx hb dX6_readStation_22 rfl hl (by decide) rfl (fun ls hl => ?_)
    refine lv_iload_n hx hb dX6_readStation_23 rfl (lv_at hl 0 rfl) ?_
    refine lv_if_ge (tgt := 32) hx hb dX6_readStation_24 (by decide) (fun c_2 => ?_) (fun c_2 => ?_)
    · refine lv_bipush (v := 10) hx hb dX6_readStation_32 (by decide) ?_
      refine lv_iload_n hx hb dX6_readStation_34 rfl (lv_at hl 1 rfl) ?_
      refine lv_imul hx hb dX6_readStation_35 ?_
      refine lv_iload_n hx hb dX6_readStation_36 rfl (lv_at hl 0 rfl) ?_
      refine lv_iadd hx hb dX6_readStation_37 ?_
      exact gm_iret hx hb hr hlocks hS (by (try simp only [p_X6_readStation, ↓if_pos c_1, ↓if_pos c_2, ← eX1, ← eX2]); (try rfl)) (by (try simp only [p_X6_readStation, ↓if_pos c_1, ↓if_pos c_2, ← eX1, ← eX2]); exact hR) dX6_readStation_38
    · refine lv_bipush (v := (-5)) hx hb dX6_readStation_27 (by decide) ?_
      refine lv_goto (tgt := 38) hx hb dX6_readStation_29 (by decide) ?_
      exact gm_iret hx hb hr hlocks hS (by (try simp only [p_X6_readStation, ↓if_pos c_1, ↓if_neg c_2, ← eX1, ← eX2]); (try rfl)) (by (try simp only [p_X6_readStation, ↓if_pos c_1, ↓if_neg c_2, ← eX1, ← eX2]); exact hR) dX6_readStation_38
  · refine lv_bipush (v := (-5)) hx hb dX6_readStation_11 (by decide) ?_
    refine lv_goto (tgt := 22) hx hb dX6_readStation_13 (by decide) ?_
    refine lv_istore_n (lv' := [(2, .int (-5)), (1, .int ((p_X6_readDigit X 0 1).1)), (0, .ref τ)]) hx hb dX6_readStation_22 rfl hl (by decide) rfl (fun ls hl => ?_)
    refine lv_iload_n hx hb dX6_readStation_23 rfl (lv_at hl 0 rfl) ?_
    refine lv_if_ge (tgt := 32) hx hb dX6_readStation_24 (by decide) (fun c_3 => ?_) (fun c_3 => ?_)
    · exact absurd c_3 (by decide)
    · refine lv_bipush (v := (-5)) hx hb dX6_readStation_27 (by decide) ?_
      refine lv_goto (tgt := 38) hx hb dX6_readStation_29 (by decide) ?_
      exact gm_iret hx hb hr hlocks hS (by (try simp only [p_X6_readStation, ↓if_neg c_1, ← eX1]); (try rfl)) (by (try simp only [p_X6_readStation, ↓if_neg c_1, ← eX1]); exact hR) dX6_readStation_38
def lf_X6_readValue_16  (K : (gM) → (Int32) → (Nat) → (Int32 × gM)) : Nat → (gM) → (Int32) → (Nat) → (Int32 × gM)
  | 0, Z, x_1, k_2 => K Z x_1 k_2
  | n + 1, Z, x_1, k_2 =>
    if 4 ≤ nI k_2 then
      K Z x_1 k_2
    else
      let X1 := (p_X6_readDigit Z 0 9).2
      if 0 ≤ (p_X6_readDigit Z 0 9).1 then
        lf_X6_readValue_16 K n X1 ((x_1 * 10) + ((p_X6_readDigit Z 0 9).1)) (k_2 + 1)
      else
        (x_1, X1)
def p_X6_readValue (X : gM) : Int32 × gM :=
  let X1 := (p_X6_readDigit X 0 9).2
  if 0 < (p_X6_readDigit X 0 9).1 then
    lf_X6_readValue_16  (fun X2 x_1w2 k_2w2 =>
          (x_1w2, X2)) 5 X1 ((p_X6_readDigit X 0 9).1) 0
  else
    ((p_X6_readDigit X 0 9).1, X1)
set_option maxHeartbeats 4000000 in
set_option maxRecDepth 100000 in
theorem lp_X6_readValue_16 {p : Program} {l : Launch} {e : Env} {s : State} {m : MethodId} {args : Array Value} {below : List Frame} {meth : Method} {c0 : Code} {D : va_G} {cy : Nat → ClassId} (C : gCtx cX6_readValue 4 (some .int) RX6 wsX6_readValue D cy p s m args meth c0) (τ : Nat) 
    (K : (gM) → (Int32) → (Nat) → (Int32 × gM)) (hexit : ∀ (Z : gM) (x_1 : Int32) (k_2 : Nat), k_2 ≤ 4 → ∀ (H : Heap) (locs : List Loc) (ls : Array Slot), XR D cy τ Z H → va_S (XA τ) s.heap H locs → lv_has ls 4 [(0, .ref τ), (1, .int x_1), (2, .int (nI k_2))] → W p l e { frames := 3, cells := 0, slots := 0, locals := 65 } s m args below meth c0 H locs 0 0 (MQ below (gQi (K Z x_1 k_2).1 (XR D cy τ (K Z x_1 k_2).2) (XA τ)) args s 0 0 (XA τ)) (F0 m 48 ls [])) :
    ∀ (n : Nat) (Z : gM) (x_1 : Int32) (k_2 : Nat), k_2 ≤ 4 → 4 < k_2 + n → ∀ (H : Heap) (locs : List Loc) (ls : Array Slot), XR D cy τ Z H → va_S (XA τ) s.heap H locs → lv_has ls 4 [(0, .ref τ), (1, .int x_1), (2, .int (nI k_2))] → W p l e { frames := 3, cells := 0, slots := 0, locals := 65 } s m args below meth c0 H locs 0 0 (MQ below (gQi (lf_X6_readValue_16 K n Z x_1 k_2).1 (XR D cy τ (lf_X6_readValue_16 K n Z x_1 k_2).2) (XA τ)) args s 0 0 (XA τ)) (F0 m 16 ls []) := by
  obtain ⟨hx, hb, hr, hts, hown, hlocks, hml, hK⟩ := C
  intro n
  induction n with
  | zero =>
    intro Z x_1 k_2 hb_2 hme
    exact absurd hme (by omega)
  | succ n ih =>
    intro Z x_1 k_2 hb_2 hme H locs ls hR hS hl
    refine lv_iload_n hx hb dX6_readValue_16 rfl (lv_at hl 2 rfl) ?_
    refine lv_iconst (v := 4) hx hb dX6_readValue_17 (by decide) ?_
    refine lv_icmp_ge (tgt := 48) hx hb dX6_readValue_18 (by decide) (fun c_1 => ?_) (fun c_1 => ?_)
    · have ge_2 : 4 ≤ k_2 := g_ge2 (Nat.lt_of_le_of_lt hb_2 (by decide)) (by decide) c_1
      refine gm_q (Q2 := MQ below (gQi (K Z x_1 k_2).1 (XR D cy τ (K Z x_1 k_2).2) (XA τ)) args s 0 0 (XA τ)) (by simp only [lf_X6_readValue_16, ↓if_pos c_1]) ?_
      exact hexit Z x_1 k_2 hb_2  _ _ _ hR hS (lv_sub hl [0, 1, 2] rfl)
    · have lt_3 : k_2 < 4 := g_lt (Nat.lt_of_le_of_lt hb_2 (by decide)) (by decide) c_1
      refine lv_aload_n hx hb dX6_readValue_21 rfl (lv_at hl 0 rfl) ?_
      refine lv_iconst (v := 0) hx hb dX6_readValue_22 (by decide) ?_
      refine lv_bipush (v := 9) hx hb dX6_readValue_23 (by decide) ?_
      refine gm_ci (gm_call (As := [.int 0, .int 9]) (rest := []) (ci := 6) (q := (RX6, TX6, 5)) ⟨hx, hb, hml, hown, hts⟩ hK (c_X6_readDigit l D cy τ Z 0 9) (cwV 2 hts gX6_readValue_X6_readDigit rfl rfl rfl (by decide +kernel) ⟨Nat.le_of_ble_eq_true rfl, Nat.le_of_ble_eq_true rfl⟩) (XR.mk0 hR) rfl hR rfl hl.1 rfl (Nat.le_of_ble_eq_true rfl) dX6_readValue_25 (Nat.zero_le _) (Nat.zero_le _)) hS (fun _ h => h) (fun H locs hR _ _ hS => ?_)
      obtain ⟨X1, eX1⟩ : ∃ Y : gM, Y = (p_X6_readDigit Z 0 9).2 := ⟨_, rfl⟩
      rw [← eX1] at hR
      refine lv_istore_n (lv' := [(3, .int ((p_X6_readDigit Z 0 9).1)), (0, .ref τ), (1, .int x_1), (2, .int (nI k_2))]) hx hb dX6_readValue_28 rfl hl (by decide) rfl (fun ls hl => ?_)
      refine lv_iload_n hx hb dX6_readValue_29 rfl (lv_at hl 0 rfl) ?_
      refine lv_if_ge (tgt := 35) hx hb dX6_readValue_30 (by decide) (fun c_4 => ?_) (fun c_4 => ?_)
      · refine lv_iload_n hx hb dX6_readValue_35 rfl (lv_at hl 2 rfl) ?_
        refine lv_bipush (v := 10) hx hb dX6_readValue_36 (by decide) ?_
        refine lv_imul hx hb dX6_readValue_38 ?_
        refine lv_iload_n hx hb dX6_readValue_39 rfl (lv_at hl 0 rfl) ?_
        refine lv_iadd hx hb dX6_readValue_40 ?_
        refine lv_istore_n (lv' := [(1, .int ((x_1 * 10) + ((p_X6_readDigit Z 0 9).1))), (3, .int ((p_X6_readDigit Z 0 9).1)), (0, .ref τ), (2, .int (nI k_2))]) hx hb dX6_readValue_41 rfl hl (by decide) rfl (fun ls hl => ?_)
        refine lv_iinc (v := nI (k_2 + 1)) (lv' := [(2, .int (nI (k_2 + 1))), (1, .int ((x_1 * 10) + ((p_X6_readDigit Z 0 9).1))), (3, .int ((p_X6_readDigit Z 0 9).1)), (0, .ref τ)]) hx hb dX6_readValue_42 hl (k := 3) rfl (nI_1 _) (by decide) rfl (fun ls hl => ?_)
        refine lv_goto (tgt := 16) hx hb dX6_readValue_45 (by decide) ?_
        refine gm_q (Q2 := MQ below (gQi (lf_X6_readValue_16 K n X1 ((x_1 * 10) + ((p_X6_readDigit Z 0 9).1)) (k_2 + 1)).1 (XR D cy τ (lf_X6_readValue_16 K n X1 ((x_1 * 10) + ((p_X6_readDigit Z 0 9).1)) (k_2 + 1)).2) (XA τ)) args s 0 0 (XA τ)) (by simp only [lf_X6_readValue_16, ↓if_neg c_1, ↓if_pos c_4, ← eX1]) ?_
        exact ih X1 ((x_1 * 10) + ((p_X6_readDigit Z 0 9).1)) (k_2 + 1) lt_3 (by omega) _ _ _ hR hS (lv_sub hl [3, 1, 0] rfl)
      · refine lv_iload_n hx hb dX6_readValue_33 rfl (lv_at hl 2 rfl) ?_
        exact gm_iret hx hb hr hlocks hS (by (try simp only [lf_X6_readValue_16, ↓if_neg c_1, ↓if_neg c_4, ← eX1]); (try rfl)) (by (try simp only [lf_X6_readValue_16, ↓if_neg c_1, ↓if_neg c_4, ← eX1]); exact hR) dX6_readValue_34
set_option maxHeartbeats 4000000 in
set_option maxRecDepth 100000 in
theorem c_X6_readValue (l : Launch) (D : va_G) (cy : Nat → ClassId) (τ : Nat) (X : gM)  : Met l yX6_readValue wsX6_readValue ({ frames := 3, cells := 0, slots := 0, locals := 65 }) (gP [.ref τ] D cy (XR D cy τ X)) (gQi (p_X6_readValue X).1 (XR D cy τ (p_X6_readValue X).2) (XA τ)) 0 0 (XA τ) := by
  refine gm_met (cc := cX6_readValue) (maxL := 4) (ret := (some .int)) [.ref τ] (by decide) rfl (Nat.le_of_ble_eq_true rfl) ?_
  intro p e s m args below meth c0 ls C hR hl
  obtain ⟨hx, hb, hr, hts, hown, hlocks, hml, hK⟩ := C
  have hl : lv_has ls 4 [(0, .ref τ)] := hl
  have hS : va_S (XA τ) s.heap s.heap [] := va_S.rf
  refine lv_aload_n hx hb dX6_readValue_0 rfl (lv_at hl 0 rfl) ?_
  refine lv_iconst (v := 0) hx hb dX6_readValue_1 (by decide) ?_
  refine lv_bipush (v := 9) hx hb dX6_readValue_2 (by decide) ?_
  refine gm_ci (gm_call (As := [.int 0, .int 9]) (rest := []) (ci := 6) (q := (RX6, TX6, 5)) ⟨hx, hb, hml, hown, hts⟩ hK (c_X6_readDigit l D cy τ X 0 9) (cwV 2 hts gX6_readValue_X6_readDigit rfl rfl rfl (by decide +kernel) ⟨Nat.le_of_ble_eq_true rfl, Nat.le_of_ble_eq_true rfl⟩) (XR.mk0 hR) rfl hR rfl hl.1 rfl (Nat.le_of_ble_eq_true rfl) dX6_readValue_4 (Nat.zero_le _) (Nat.zero_le _)) hS (fun _ h => h) (fun H locs hR _ _ hS => ?_)
  obtain ⟨X1, eX1⟩ : ∃ Y : gM, Y = (p_X6_readDigit X 0 9).2 := ⟨_, rfl⟩
  rw [← eX1] at hR
  refine lv_istore_n (lv' := [(1, .int ((p_X6_readDigit X 0 9).1)), (0, .ref τ)]) hx hb dX6_readValue_7 rfl hl (by decide) rfl (fun ls hl => ?_)
  refine lv_iload_n hx hb dX6_readValue_8 rfl (lv_at hl 0 rfl) ?_
  refine lv_if_gt (tgt := 14) hx hb dX6_readValue_9 (by decide) (fun c_1 => ?_) (fun c_1 => ?_)
  · refine lv_iconst (v := 0) hx hb dX6_readValue_14 (by decide) ?_
    refine lv_istore_n (lv' := [(2, .int 0), (1, .int ((p_X6_readDigit X 0 9).1)), (0, .ref τ)]) hx hb dX6_readValue_15 rfl hl (by decide) rfl (fun ls hl => ?_)
    refine gm_q (Q2 := MQ below (gQi (lf_X6_readValue_16  (fun X2 x_1w2 k_2w2 =>
          (x_1w2, X2)) 5 X1 ((p_X6_readDigit X 0 9).1) 0).1 (XR D cy τ (lf_X6_readValue_16  (fun X2 x_1w2 k_2w2 =>
          (x_1w2, X2)) 5 X1 ((p_X6_readDigit X 0 9).1) 0).2) (XA τ)) args s 0 0 (XA τ)) (by simp only [p_X6_readValue, ↓if_pos c_1, ← eX1]) ?_
    refine lp_X6_readValue_16 ⟨hx, hb, hr, hts, hown, hlocks, hml, hK⟩ τ  _ (fun X2 x_1w2 k_2w2 hbk_2w2 H locs ls hR hS hl => ?_) 5 X1 ((p_X6_readDigit X 0 9).1) 0 (by decide) (by omega) _ _ _ hR hS (lv_sub hl [2, 1, 0] rfl)
    refine lv_iload_n hx hb dX6_readValue_48 rfl (lv_at hl 1 rfl) ?_
    exact gm_iret hx hb hr hlocks hS (by (try simp only [p_X6_readValue, ↓if_pos c_1, ← eX1]); (try rfl)) (by (try simp only [p_X6_readValue, ↓if_pos c_1, ← eX1]); exact hR) dX6_readValue_49
  · refine lv_iload_n hx hb dX6_readValue_12 rfl (lv_at hl 0 rfl) ?_
    exact gm_iret hx hb hr hlocks hS (by (try simp only [p_X6_readValue, ↓if_neg c_1, ← eX1]); (try rfl)) (by (try simp only [p_X6_readValue, ↓if_neg c_1, ← eX1]); exact hR) dX6_readValue_13
def p_X6_readTrip (X : gM) (c1 : Nat) : Int32 × gM :=
  let X1 := (p_X6_readValue X).2
  let X2 := updM X1 c1 0 ((p_X6_readValue X).1)
  if X2 c1 0 < 0 then
    (0, X2)
  else
    let X3 := (p_X6_accept X2 44).2
    if (p_X6_accept X2 44).1 = 0 then
      (0, X3)
    else
      let X4 := (p_X6_readDigit X3 1 3).2
      let X5 := updM X4 c1 1 ((p_X6_readDigit X3 1 3).1)
      if X5 c1 1 < 0 then
        (0, X5)
      else
        let X6 := (p_X6_accept X5 44).2
        if (p_X6_accept X5 44).1 = 0 then
          (0, X6)
        else
          let X7 := (p_X6_readStation X6).2
          let X8 := updM X7 c1 2 ((p_X6_readStation X6).1)
          if X8 c1 2 < 0 then
            (0, X8)
          else
            let X9 := (p_X6_accept X8 62).2
            if (p_X6_accept X8 62).1 = 0 then
              (0, X9)
            else
              let X10 := (p_X6_readStation X9).2
              let X11 := updM X10 c1 3 ((p_X6_readStation X9).1)
              if X11 c1 3 < 0 then
                (0, X11)
              else
                let X12 := (p_X6_accept X11 42).2
                if (p_X6_accept X11 42).1 = 0 then
                  (0, X12)
                else
                  let X13 := (p_X6_readDigit X12 1 9).2
                  let X14 := updM X13 c1 4 ((p_X6_readDigit X12 1 9).1)
                  if X14 c1 4 < 0 then
                    (0, X14)
                  else
                    (1, X14)
set_option maxHeartbeats 4000000 in
set_option maxRecDepth 100000 in
theorem c_X6_readTrip (l : Launch) (D : va_G) (cy : Nat → ClassId) (τ : Nat) (X : gM) (c1 : Nat) (hc1 : c1 < 8) (hk1 : kdX c1 = 7) : Met l yX6_readTrip wsX6_readTrip ({ frames := 4, cells := 0, slots := 0, locals := 88 }) (gP [.ref τ, .ref (τ + c1)] D cy (XR D cy τ X)) (gQi (p_X6_readTrip X c1).1 (XR D cy τ (p_X6_readTrip X c1).2) (XA τ)) 0 0 (XA τ) := by
  refine gm_met (cc := cX6_readTrip) (maxL := 2) (ret := (some .boolean)) [.ref τ, .ref (τ + c1)] (by decide) rfl (Nat.le_of_ble_eq_true rfl) ?_
  intro p e s m args below meth c0 ls C hR hl
  obtain ⟨hx, hb, hr, hts, hown, hlocks, hml, hK⟩ := C
  have hl : lv_has ls 2 [(0, .ref τ), (1, .ref (τ + c1))] := hl
  have hS : va_S (XA τ) s.heap s.heap [] := va_S.rf
  have lk48 := hts (.fieldLink RX6 48 "MercuryLine$Trip" "value" "I") (by decide +kernel)
  have inX7 : ∀ w ∈ u_ws RX7 TX7 5, w ∈ wsX6_readTrip := by decide +kernel
  have lk55 := hts (.fieldLink RX6 55 "MercuryLine$Trip" "kind" "I") (by decide +kernel)
  have lk61 := hts (.fieldLink RX6 61 "MercuryLine$Trip" "from" "I") (by decide +kernel)
  have lk64 := hts (.fieldLink RX6 64 "MercuryLine$Trip" "to" "I") (by decide +kernel)
  have lk67 := hts (.fieldLink RX6 67 "MercuryLine$Trip" "laps" "I") (by decide +kernel)
  refine lv_aload_n hx hb dX6_readTrip_0 rfl (lv_at hl 1 rfl) ?_
  refine lv_aload_n hx hb dX6_readTrip_1 rfl (lv_at hl 0 rfl) ?_
  refine gm_ci (gm_call (As := []) (rest := [.ref (τ + c1)]) (ci := 6) (q := (RX6, TX6, 5)) ⟨hx, hb, hml, hown, hts⟩ hK (c_X6_readValue l D cy τ X) (cwV 0 hts gX6_readTrip_X6_readValue rfl rfl rfl (by decide +kernel) ⟨Nat.le_of_ble_eq_true rfl, Nat.le_of_ble_eq_true rfl⟩) (XR.mk0 hR) rfl hR rfl hl.1 rfl (Nat.le_of_ble_eq_true rfl) dX6_readTrip_2 (Nat.zero_le _) (Nat.zero_le _)) hS (fun _ h => h) (fun H locs hR _ _ hS => ?_)
  obtain ⟨X1, eX1⟩ : ∃ Y : gM, Y = (p_X6_readValue X).2 := ⟨_, rfl⟩
  rw [← eX1] at hR
  refine gm_put (v := .int ((p_X6_readValue X).1)) (ty := .int) (ci := 7) (C := RX7) (T := TX7) (N := 5) hx hb hts inX7 tyX7 tyX7_ok nmX7 hown hK.1 hR injX hS (a := c1) hc1 rfl (bX_7 hk1) rfl 0 (by decide) lk48 (fun _ h9 => h9) rfl (by decide +kernel) rfl rfl (Nat.le_of_ble_eq_true rfl) (j := 0) (x := (p_X6_readValue X).1) (by rw [bX_7 hk1]; rfl) dX6_readTrip_5 (fun H locs hR hS => ?_)
  obtain ⟨X2, eX2⟩ : ∃ Y : gM, Y = updM X1 c1 0 ((p_X6_readValue X).1) := ⟨_, rfl⟩
  rw [← eX2] at hR
  refine lv_aload_n hx hb dX6_readTrip_8 rfl (lv_at hl 1 rfl) ?_
  refine va_get (D := D) (ci := 7) (v := .int (X2 c1 0)) (C := RX7) (T := TX7) (N := 5) hx hb hts inX7 hown hK.1 (XR.mk1 hR (c := c1) hc1 (bX_7 hk1)) 0 rfl rfl 0 (by decide) lk48 (fun _ h9 => h9) rfl dX6_readTrip_9 ?_
  refine lv_if_lt (tgt := 24) hx hb dX6_readTrip_12 (by decide) (fun c_1 => ?_) (fun c_1 => ?_)
  · refine lv_iconst (v := 0) hx hb dX6_readTrip_24 (by decide) ?_
    exact gm_zret hx hb hr hlocks rfl hS (by (try simp only [p_X6_readTrip, ↓if_pos c_1, ← eX1, ← eX2]); (try rfl)) (by (try simp only [p_X6_readTrip, ↓if_pos c_1, ← eX1, ← eX2]); exact hR) dX6_readTrip_25
  · refine lv_aload_n hx hb dX6_readTrip_15 rfl (lv_at hl 0 rfl) ?_
    refine lv_bipush (v := 44) hx hb dX6_readTrip_16 (by decide) ?_
    refine gm_ci (gm_call (As := [.int 44]) (rest := []) (ci := 6) (q := (RX6, TX6, 5)) ⟨hx, hb, hml, hown, hts⟩ hK (c_X6_accept l D cy τ X2 44) (cwV 1 hts gX6_readTrip_X6_accept rfl rfl rfl (by decide +kernel) ⟨Nat.le_of_ble_eq_true rfl, Nat.le_of_ble_eq_true rfl⟩) (XR.mk0 hR) rfl hR rfl hl.1 rfl (Nat.le_of_ble_eq_true rfl) dX6_readTrip_18 (Nat.zero_le _) (Nat.zero_le _)) hS (fun _ h => h) (fun H locs hR _ _ hS => ?_)
    obtain ⟨X3, eX3⟩ : ∃ Y : gM, Y = (p_X6_accept X2 44).2 := ⟨_, rfl⟩
    rw [← eX3] at hR
    refine lv_if_ne (tgt := 26) hx hb dX6_readTrip_21 (by decide) (fun c_2 => ?_) (fun c_2 => ?_)
    · refine lv_aload_n hx hb dX6_readTrip_26 rfl (lv_at hl 1 rfl) ?_
      refine lv_aload_n hx hb dX6_readTrip_27 rfl (lv_at hl 0 rfl) ?_
      refine lv_iconst (v := 1) hx hb dX6_readTrip_28 (by decide) ?_
      refine lv_iconst (v := 3) hx hb dX6_readTrip_29 (by decide) ?_
      refine gm_ci (gm_call (As := [.int 1, .int 3]) (rest := [.ref (τ + c1)]) (ci := 6) (q := (RX6, TX6, 5)) ⟨hx, hb, hml, hown, hts⟩ hK (c_X6_readDigit l D cy τ X3 1 3) (cwV 2 hts gX6_readTrip_X6_readDigit rfl rfl rfl (by decide +kernel) ⟨Nat.le_of_ble_eq_true rfl, Nat.le_of_ble_eq_true rfl⟩) (XR.mk0 hR) rfl hR rfl hl.1 rfl (Nat.le_of_ble_eq_true rfl) dX6_readTrip_30 (Nat.zero_le _) (Nat.zero_le _)) hS (fun _ h => h) (fun H locs hR _ _ hS => ?_)
      obtain ⟨X4, eX4⟩ : ∃ Y : gM, Y = (p_X6_readDigit X3 1 3).2 := ⟨_, rfl⟩
      rw [← eX4] at hR
      refine gm_put (v := .int ((p_X6_readDigit X3 1 3).1)) (ty := .int) (ci := 7) (C := RX7) (T := TX7) (N := 5) hx hb hts inX7 tyX7 tyX7_ok nmX7 hown hK.1 hR injX hS (a := c1) hc1 rfl (bX_7 hk1) rfl 1 (by decide) lk55 (fun _ h9 => h9) rfl (by decide +kernel) rfl rfl (Nat.le_of_ble_eq_true rfl) (j := 1) (x := (p_X6_readDigit X3 1 3).1) (by rw [bX_7 hk1]; rfl) dX6_readTrip_33 (fun H locs hR hS => ?_)
      obtain ⟨X5, eX5⟩ : ∃ Y : gM, Y = updM X4 c1 1 ((p_X6_readDigit X3 1 3).1) := ⟨_, rfl⟩
      rw [← eX5] at hR
      refine lv_aload_n hx hb dX6_readTrip_36 rfl (lv_at hl 1 rfl) ?_
      refine va_get (D := D) (ci := 7) (v := .int (X5 c1 1)) (C := RX7) (T := TX7) (N := 5) hx hb hts inX7 hown hK.1 (XR.mk1 hR (c := c1) hc1 (bX_7 hk1)) 0 rfl rfl 1 (by decide) lk55 (fun _ h9 => h9) rfl dX6_readTrip_37 ?_
      refine lv_if_lt (tgt := 52) hx hb dX6_readTrip_40 (by decide) (fun c_3 => ?_) (fun c_3 => ?_)
      · refine lv_iconst (v := 0) hx hb dX6_readTrip_52 (by decide) ?_
        exact gm_zret hx hb hr hlocks rfl hS (by (try simp only [p_X6_readTrip, ↓if_neg c_1, ↓if_neg c_2, ↓if_pos c_3, ← eX1, ← eX2, ← eX3, ← eX4, ← eX5]); (try rfl)) (by (try simp only [p_X6_readTrip, ↓if_neg c_1, ↓if_neg c_2, ↓if_pos c_3, ← eX1, ← eX2, ← eX3, ← eX4, ← eX5]); exact hR) dX6_readTrip_53
      · refine lv_aload_n hx hb dX6_readTrip_43 rfl (lv_at hl 0 rfl) ?_
        refine lv_bipush (v := 44) hx hb dX6_readTrip_44 (by decide) ?_
        refine gm_ci (gm_call (As := [.int 44]) (rest := []) (ci := 6) (q := (RX6, TX6, 5)) ⟨hx, hb, hml, hown, hts⟩ hK (c_X6_accept l D cy τ X5 44) (cwV 1 hts gX6_readTrip_X6_accept rfl rfl rfl (by decide +kernel) ⟨Nat.le_of_ble_eq_true rfl, Nat.le_of_ble_eq_true rfl⟩) (XR.mk0 hR) rfl hR rfl hl.1 rfl (Nat.le_of_ble_eq_true rfl) dX6_readTrip_46 (Nat.zero_le _) (Nat.zero_le _)) hS (fun _ h => h) (fun H locs hR _ _ hS => ?_)
        obtain ⟨X6, eX6⟩ : ∃ Y : gM, Y = (p_X6_accept X5 44).2 := ⟨_, rfl⟩
        rw [← eX6] at hR
        refine lv_if_ne (tgt := 54) hx hb dX6_readTrip_49 (by decide) (fun c_4 => ?_) (fun c_4 => ?_)
        · refine lv_aload_n hx hb dX6_readTrip_54 rfl (lv_at hl 1 rfl) ?_
          refine lv_aload_n hx hb dX6_readTrip_55 rfl (lv_at hl 0 rfl) ?_
          refine gm_ci (gm_call (As := []) (rest := [.ref (τ + c1)]) (ci := 6) (q := (RX6, TX6, 5)) ⟨hx, hb, hml, hown, hts⟩ hK (c_X6_readStation l D cy τ X6) (cwV 0 hts gX6_readTrip_X6_readStation rfl rfl rfl (by decide +kernel) ⟨Nat.le_of_ble_eq_true rfl, Nat.le_of_ble_eq_true rfl⟩) (XR.mk0 hR) rfl hR rfl hl.1 rfl (Nat.le_of_ble_eq_true rfl) dX6_readTrip_56 (Nat.zero_le _) (Nat.zero_le _)) hS (fun _ h => h) (fun H locs hR _ _ hS => ?_)
          obtain ⟨X7, eX7⟩ : ∃ Y : gM, Y = (p_X6_readStation X6).2 := ⟨_, rfl⟩
          rw [← eX7] at hR
          refine gm_put (v := .int ((p_X6_readStation X6).1)) (ty := .int) (ci := 7) (C := RX7) (T := TX7) (N := 5) hx hb hts inX7 tyX7 tyX7_ok nmX7 hown hK.1 hR injX hS (a := c1) hc1 rfl (bX_7 hk1) rfl 2 (by decide) lk61 (fun _ h9 => h9) rfl (by decide +kernel) rfl rfl (Nat.le_of_ble_eq_true rfl) (j := 2) (x := (p_X6_readStation X6).1) (by rw [bX_7 hk1]; rfl) dX6_readTrip_59 (fun H locs hR hS => ?_)
          obtain ⟨X8, eX8⟩ : ∃ Y : gM, Y = updM X7 c1 2 ((p_X6_readStation X6).1) := ⟨_, rfl⟩
          rw [← eX8] at hR
          refine lv_aload_n hx hb dX6_readTrip_62 rfl (lv_at hl 1 rfl) ?_
          refine va_get (D := D) (ci := 7) (v := .int (X8 c1 2)) (C := RX7) (T := TX7) (N := 5) hx hb hts inX7 hown hK.1 (XR.mk1 hR (c := c1) hc1 (bX_7 hk1)) 0 rfl rfl 2 (by decide) lk61 (fun _ h9 => h9) rfl dX6_readTrip_63 ?_
          refine lv_if_lt (tgt := 78) hx hb dX6_readTrip_66 (by decide) (fun c_5 => ?_) (fun c_5 => ?_)
          · refine lv_iconst (v := 0) hx hb dX6_readTrip_78 (by decide) ?_
            exact gm_zret hx hb hr hlocks rfl hS (by (try simp only [p_X6_readTrip, ↓if_neg c_1, ↓if_neg c_2, ↓if_neg c_3, ↓if_neg c_4, ↓if_pos c_5, ← eX1, ← eX2, ← eX3, ← eX4, ← eX5, ← eX6, ← eX7, ← eX8]); (try rfl)) (by (try simp only [p_X6_readTrip, ↓if_neg c_1, ↓if_neg c_2, ↓if_neg c_3, ↓if_neg c_4, ↓if_pos c_5, ← eX1, ← eX2, ← eX3, ← eX4, ← eX5, ← eX6, ← eX7, ← eX8]); exact hR) dX6_readTrip_79
          · refine lv_aload_n hx hb dX6_readTrip_69 rfl (lv_at hl 0 rfl) ?_
            refine lv_bipush (v := 62) hx hb dX6_readTrip_70 (by decide) ?_
            refine gm_ci (gm_call (As := [.int 62]) (rest := []) (ci := 6) (q := (RX6, TX6, 5)) ⟨hx, hb, hml, hown, hts⟩ hK (c_X6_accept l D cy τ X8 62) (cwV 1 hts gX6_readTrip_X6_accept rfl rfl rfl (by decide +kernel) ⟨Nat.le_of_ble_eq_true rfl, Nat.le_of_ble_eq_true rfl⟩) (XR.mk0 hR) rfl hR rfl hl.1 rfl (Nat.le_of_ble_eq_true rfl) dX6_readTrip_72 (Nat.zero_le _) (Nat.zero_le _)) hS (fun _ h => h) (fun H locs hR _ _ hS => ?_)
            obtain ⟨X9, eX9⟩ : ∃ Y : gM, Y = (p_X6_accept X8 62).2 := ⟨_, rfl⟩
            rw [← eX9] at hR
            refine lv_if_ne (tgt := 80) hx hb dX6_readTrip_75 (by decide) (fun c_6 => ?_) (fun c_6 => ?_)
            · refine lv_aload_n hx hb dX6_readTrip_80 rfl (lv_at hl 1 rfl) ?_
              refine lv_aload_n hx hb dX6_readTrip_81 rfl (lv_at hl 0 rfl) ?_
              refine gm_ci (gm_call (As := []) (rest := [.ref (τ + c1)]) (ci := 6) (q := (RX6, TX6, 5)) ⟨hx, hb, hml, hown, hts⟩ hK (c_X6_readStation l D cy τ X9) (cwV 0 hts gX6_readTrip_X6_readStation rfl rfl rfl (by decide +kernel) ⟨Nat.le_of_ble_eq_true rfl, Nat.le_of_ble_eq_true rfl⟩) (XR.mk0 hR) rfl hR rfl hl.1 rfl (Nat.le_of_ble_eq_true rfl) dX6_readTrip_82 (Nat.zero_le _) (Nat.zero_le _)) hS (fun _ h => h) (fun H locs hR _ _ hS => ?_)
              obtain ⟨X10, eX10⟩ : ∃ Y : gM, Y = (p_X6_readStation X9).2 := ⟨_, rfl⟩
              rw [← eX10] at hR
              refine gm_put (v := .int ((p_X6_readStation X9).1)) (ty := .int) (ci := 7) (C := RX7) (T := TX7) (N := 5) hx hb hts inX7 tyX7 tyX7_ok nmX7 hown hK.1 hR injX hS (a := c1) hc1 rfl (bX_7 hk1) rfl 3 (by decide) lk64 (fun _ h9 => h9) rfl (by decide +kernel) rfl rfl (Nat.le_of_ble_eq_true rfl) (j := 3) (x := (p_X6_readStation X9).1) (by rw [bX_7 hk1]; rfl) dX6_readTrip_85 (fun H locs hR hS => ?_)
              obtain ⟨X11, eX11⟩ : ∃ Y : gM, Y = updM X10 c1 3 ((p_X6_readStation X9).1) := ⟨_, rfl⟩
              rw [← eX11] at hR
              refine lv_aload_n hx hb dX6_readTrip_88 rfl (lv_at hl 1 rfl) ?_
              refine va_get (D := D) (ci := 7) (v := .int (X11 c1 3)) (C := RX7) (T := TX7) (N := 5) hx hb hts inX7 hown hK.1 (XR.mk1 hR (c := c1) hc1 (bX_7 hk1)) 0 rfl rfl 3 (by decide) lk64 (fun _ h9 => h9) rfl dX6_readTrip_89 ?_
              refine lv_if_lt (tgt := 104) hx hb dX6_readTrip_92 (by decide) (fun c_7 => ?_) (fun c_7 => ?_)
              · refine lv_iconst (v := 0) hx hb dX6_readTrip_104 (by decide) ?_
                exact gm_zret hx hb hr hlocks rfl hS (by (try simp only [p_X6_readTrip, ↓if_neg c_1, ↓if_neg c_2, ↓if_neg c_3, ↓if_neg c_4, ↓if_neg c_5, ↓if_neg c_6, ↓if_pos c_7, ← eX1, ← eX2, ← eX3, ← eX4, ← eX5, ← eX6, ← eX7, ← eX8, ← eX9, ← eX10, ← eX11]); (try rfl)) (by (try simp only [p_X6_readTrip, ↓if_neg c_1, ↓if_neg c_2, ↓if_neg c_3, ↓if_neg c_4, ↓if_neg c_5, ↓if_neg c_6, ↓if_pos c_7, ← eX1, ← eX2, ← eX3, ← eX4, ← eX5, ← eX6, ← eX7, ← eX8, ← eX9, ← eX10, ← eX11]); exact hR) dX6_readTrip_105
              · refine lv_aload_n hx hb dX6_readTrip_95 rfl (lv_at hl 0 rfl) ?_
                refine lv_bipush (v := 42) hx hb dX6_readTrip_96 (by decide) ?_
                refine gm_ci (gm_call (As := [.int 42]) (rest := []) (ci := 6) (q := (RX6, TX6, 5)) ⟨hx, hb, hml, hown, hts⟩ hK (c_X6_accept l D cy τ X11 42) (cwV 1 hts gX6_readTrip_X6_accept rfl rfl rfl (by decide +kernel) ⟨Nat.le_of_ble_eq_true rfl, Nat.le_of_ble_eq_true rfl⟩) (XR.mk0 hR) rfl hR rfl hl.1 rfl (Nat.le_of_ble_eq_true rfl) dX6_readTrip_98 (Nat.zero_le _) (Nat.zero_le _)) hS (fun _ h => h) (fun H locs hR _ _ hS => ?_)
                obtain ⟨X12, eX12⟩ : ∃ Y : gM, Y = (p_X6_accept X11 42).2 := ⟨_, rfl⟩
                rw [← eX12] at hR
                refine lv_if_ne (tgt := 106) hx hb dX6_readTrip_101 (by decide) (fun c_8 => ?_) (fun c_8 => ?_)
                · refine lv_aload_n hx hb dX6_readTrip_106 rfl (lv_at hl 1 rfl) ?_
                  refine lv_aload_n hx hb dX6_readTrip_107 rfl (lv_at hl 0 rfl) ?_
                  refine lv_iconst (v := 1) hx hb dX6_readTrip_108 (by decide) ?_
                  refine lv_bipush (v := 9) hx hb dX6_readTrip_109 (by decide) ?_
                  refine gm_ci (gm_call (As := [.int 1, .int 9]) (rest := [.ref (τ + c1)]) (ci := 6) (q := (RX6, TX6, 5)) ⟨hx, hb, hml, hown, hts⟩ hK (c_X6_readDigit l D cy τ X12 1 9) (cwV 2 hts gX6_readTrip_X6_readDigit rfl rfl rfl (by decide +kernel) ⟨Nat.le_of_ble_eq_true rfl, Nat.le_of_ble_eq_true rfl⟩) (XR.mk0 hR) rfl hR rfl hl.1 rfl (Nat.le_of_ble_eq_true rfl) dX6_readTrip_111 (Nat.zero_le _) (Nat.zero_le _)) hS (fun _ h => h) (fun H locs hR _ _ hS => ?_)
                  obtain ⟨X13, eX13⟩ : ∃ Y : gM, Y = (p_X6_readDigit X12 1 9).2 := ⟨_, rfl⟩
                  rw [← eX13] at hR
                  refine gm_put (v := .int ((p_X6_readDigit X12 1 9).1)) (ty := .int) (ci := 7) (C := RX7) (T := TX7) (N := 5) hx hb hts inX7 tyX7 tyX7_ok nmX7 hown hK.1 hR injX hS (a := c1) hc1 rfl (bX_7 hk1) rfl 4 (by decide) lk67 (fun _ h9 => h9) rfl (by decide +kernel) rfl rfl (Nat.le_of_ble_eq_true rfl) (j := 4) (x := (p_X6_readDigit X12 1 9).1) (by rw [bX_7 hk1]; rfl) dX6_readTrip_114 (fun H locs hR hS => ?_)
                  obtain ⟨X14, eX14⟩ : ∃ Y : gM, Y = updM X13 c1 4 ((p_X6_readDigit X12 1 9).1) := ⟨_, rfl⟩
                  rw [← eX14] at hR
                  refine lv_aload_n hx hb dX6_readTrip_117 rfl (lv_at hl 1 rfl) ?_
                  refine va_get (D := D) (ci := 7) (v := .int (X14 c1 4)) (C := RX7) (T := TX7) (N := 5) hx hb hts inX7 hown hK.1 (XR.mk1 hR (c := c1) hc1 (bX_7 hk1)) 0 rfl rfl 4 (by decide) lk67 (fun _ h9 => h9) rfl dX6_readTrip_118 ?_
                  refine lv_if_lt (tgt := 128) hx hb dX6_readTrip_121 (by decide) (fun c_9 => ?_) (fun c_9 => ?_)
                  · refine lv_iconst (v := 0) hx hb dX6_readTrip_128 (by decide) ?_
                    exact gm_zret hx hb hr hlocks rfl hS (by (try simp only [p_X6_readTrip, ↓if_neg c_1, ↓if_neg c_2, ↓if_neg c_3, ↓if_neg c_4, ↓if_neg c_5, ↓if_neg c_6, ↓if_neg c_7, ↓if_neg c_8, ↓if_pos c_9, ← eX1, ← eX2, ← eX3, ← eX4, ← eX5, ← eX6, ← eX7, ← eX8, ← eX9, ← eX10, ← eX11, ← eX12, ← eX13, ← eX14]); (try rfl)) (by (try simp only [p_X6_readTrip, ↓if_neg c_1, ↓if_neg c_2, ↓if_neg c_3, ↓if_neg c_4, ↓if_neg c_5, ↓if_neg c_6, ↓if_neg c_7, ↓if_neg c_8, ↓if_pos c_9, ← eX1, ← eX2, ← eX3, ← eX4, ← eX5, ← eX6, ← eX7, ← eX8, ← eX9, ← eX10, ← eX11, ← eX12, ← eX13, ← eX14]); exact hR) dX6_readTrip_129
                  · refine lv_iconst (v := 1) hx hb dX6_readTrip_124 (by decide) ?_
                    refine lv_goto (tgt := 129) hx hb dX6_readTrip_125 (by decide) ?_
                    exact gm_zret hx hb hr hlocks rfl hS (by (try simp only [p_X6_readTrip, ↓if_neg c_1, ↓if_neg c_2, ↓if_neg c_3, ↓if_neg c_4, ↓if_neg c_5, ↓if_neg c_6, ↓if_neg c_7, ↓if_neg c_8, ↓if_neg c_9, ← eX1, ← eX2, ← eX3, ← eX4, ← eX5, ← eX6, ← eX7, ← eX8, ← eX9, ← eX10, ← eX11, ← eX12, ← eX13, ← eX14]); (try rfl)) (by (try simp only [p_X6_readTrip, ↓if_neg c_1, ↓if_neg c_2, ↓if_neg c_3, ↓if_neg c_4, ↓if_neg c_5, ↓if_neg c_6, ↓if_neg c_7, ↓if_neg c_8, ↓if_neg c_9, ← eX1, ← eX2, ← eX3, ← eX4, ← eX5, ← eX6, ← eX7, ← eX8, ← eX9, ← eX10, ← eX11, ← eX12, ← eX13, ← eX14]); exact hR) dX6_readTrip_129
                · refine lv_iconst (v := 0) hx hb dX6_readTrip_104 (by decide) ?_
                  exact gm_zret hx hb hr hlocks rfl hS (by (try simp only [p_X6_readTrip, ↓if_neg c_1, ↓if_neg c_2, ↓if_neg c_3, ↓if_neg c_4, ↓if_neg c_5, ↓if_neg c_6, ↓if_neg c_7, ↓if_pos c_8, ← eX1, ← eX2, ← eX3, ← eX4, ← eX5, ← eX6, ← eX7, ← eX8, ← eX9, ← eX10, ← eX11, ← eX12]); (try rfl)) (by (try simp only [p_X6_readTrip, ↓if_neg c_1, ↓if_neg c_2, ↓if_neg c_3, ↓if_neg c_4, ↓if_neg c_5, ↓if_neg c_6, ↓if_neg c_7, ↓if_pos c_8, ← eX1, ← eX2, ← eX3, ← eX4, ← eX5, ← eX6, ← eX7, ← eX8, ← eX9, ← eX10, ← eX11, ← eX12]); exact hR) dX6_readTrip_105
            · refine lv_iconst (v := 0) hx hb dX6_readTrip_78 (by decide) ?_
              exact gm_zret hx hb hr hlocks rfl hS (by (try simp only [p_X6_readTrip, ↓if_neg c_1, ↓if_neg c_2, ↓if_neg c_3, ↓if_neg c_4, ↓if_neg c_5, ↓if_pos c_6, ← eX1, ← eX2, ← eX3, ← eX4, ← eX5, ← eX6, ← eX7, ← eX8, ← eX9]); (try rfl)) (by (try simp only [p_X6_readTrip, ↓if_neg c_1, ↓if_neg c_2, ↓if_neg c_3, ↓if_neg c_4, ↓if_neg c_5, ↓if_pos c_6, ← eX1, ← eX2, ← eX3, ← eX4, ← eX5, ← eX6, ← eX7, ← eX8, ← eX9]); exact hR) dX6_readTrip_79
        · refine lv_iconst (v := 0) hx hb dX6_readTrip_52 (by decide) ?_
          exact gm_zret hx hb hr hlocks rfl hS (by (try simp only [p_X6_readTrip, ↓if_neg c_1, ↓if_neg c_2, ↓if_neg c_3, ↓if_pos c_4, ← eX1, ← eX2, ← eX3, ← eX4, ← eX5, ← eX6]); (try rfl)) (by (try simp only [p_X6_readTrip, ↓if_neg c_1, ↓if_neg c_2, ↓if_neg c_3, ↓if_pos c_4, ← eX1, ← eX2, ← eX3, ← eX4, ← eX5, ← eX6]); exact hR) dX6_readTrip_53
    · refine lv_iconst (v := 0) hx hb dX6_readTrip_24 (by decide) ?_
      exact gm_zret hx hb hr hlocks rfl hS (by (try simp only [p_X6_readTrip, ↓if_neg c_1, ↓if_pos c_2, ← eX1, ← eX2, ← eX3]); (try rfl)) (by (try simp only [p_X6_readTrip, ↓if_neg c_1, ↓if_pos c_2, ← eX1, ← eX2, ← eX3]); exact hR) dX6_readTrip_25
def lf_X6_findFault_12  (K : (gM) → (Nat) → (Int32 × gM)) : Nat → (gM) → (Nat) → (Int32 × gM)
  | 0, Z, k_1 => K Z k_1
  | n + 1, Z, k_1 =>
    if 5 ≤ nI k_1 then
      K Z k_1
    else
      let X1 := (p_X6_readTrip Z (3 + k_1)).2
      if (p_X6_readTrip Z (3 + k_1)).1 = 0 then
        (X1 0 4, X1)
      else
        let X2 := updM X1 0 3 (nI (k_1 + 1))
        if X2 0 4 < X2 0 2 then
          let X3 := (p_X6_accept X2 59).2
          if (p_X6_accept X2 59).1 = 0 then
            (X3 0 4, X3)
          else
            lf_X6_findFault_12 K n X3 (k_1 + 1)
        else
          ((-5), X2)
def p_X6_findFault (X : gM) : Int32 × gM :=
  let X1 := updM X 0 4 0
  let X2 := updM X1 0 3 0
  lf_X6_findFault_12  (fun X3 k_1w1 =>
        (X3 0 4, X3)) 6 X2 0
set_option maxHeartbeats 4000000 in
set_option maxRecDepth 100000 in
theorem lp_X6_findFault_12 {p : Program} {l : Launch} {e : Env} {s : State} {m : MethodId} {args : Array Value} {below : List Frame} {meth : Method} {c0 : Code} {D : va_G} {cy : Nat → ClassId} (C : gCtx cX6_findFault 2 (some .int) RX6 wsX6_findFault D cy p s m args meth c0) (τ : Nat) 
    (K : (gM) → (Nat) → (Int32 × gM)) (hexit : ∀ (Z : gM) (k_1 : Nat), k_1 ≤ 5 → ∀ (H : Heap) (locs : List Loc) (ls : Array Slot), XR D cy τ Z H → va_S (XA τ) s.heap H locs → lv_has ls 2 [(0, .ref τ), (1, .int (nI k_1))] → W p l e { frames := 5, cells := 0, slots := 0, locals := 109 } s m args below meth c0 H locs 0 0 (MQ below (gQi (K Z k_1).1 (XR D cy τ (K Z k_1).2) (XA τ)) args s 0 0 (XA τ)) (F0 m 80 ls [])) :
    ∀ (n : Nat) (Z : gM) (k_1 : Nat), k_1 ≤ 5 → 5 < k_1 + n → ∀ (H : Heap) (locs : List Loc) (ls : Array Slot), XR D cy τ Z H → va_S (XA τ) s.heap H locs → lv_has ls 2 [(0, .ref τ), (1, .int (nI k_1))] → W p l e { frames := 5, cells := 0, slots := 0, locals := 109 } s m args below meth c0 H locs 0 0 (MQ below (gQi (lf_X6_findFault_12 K n Z k_1).1 (XR D cy τ (lf_X6_findFault_12 K n Z k_1).2) (XA τ)) args s 0 0 (XA τ)) (F0 m 12 ls []) := by
  obtain ⟨hx, hb, hr, hts, hown, hlocks, hml, hK⟩ := C
  have lk17 := hts (.fieldLink RX6 17 "MercuryLine$TicketText" "trips" "[LMercuryLine$Trip;") (by decide +kernel)
  have inX6 : ∀ w ∈ u_ws RX6 TX6 5, w ∈ wsX6_findFault := by decide +kernel
  have lk33 := hts (.fieldLink RX6 33 "MercuryLine$TicketText" "tripCount" "I") (by decide +kernel)
  have lk30 := hts (.fieldLink RX6 30 "MercuryLine$TicketText" "at" "I") (by decide +kernel)
  have lk22 := hts (.fieldLink RX6 22 "MercuryLine$TicketText" "length" "I") (by decide +kernel)
  intro n
  induction n with
  | zero =>
    intro Z k_1 hb_1 hme
    exact absurd hme (by omega)
  | succ n ih =>
    intro Z k_1 hb_1 hme H locs ls hR hS hl
    refine lv_iload_n hx hb dX6_findFault_12 rfl (lv_at hl 1 rfl) ?_
    refine lv_aload_n hx hb dX6_findFault_13 rfl (lv_at hl 0 rfl) ?_
    refine va_get (D := D) (ci := 6) (v := .ref (τ + 2)) (C := RX6) (T := TX6) (N := 5) hx hb hts inX6 hown hK.1 (XR.mk0 hR) 0 rfl rfl 1 (by decide) lk17 (fun _ h9 => h9) rfl dX6_findFault_14 ?_
    refine va_alen (v := 5) hx hb hK.1 (XR.mk1 hR (c := 2) (by decide) (bX_32 (by decide))) 0 6 rfl rfl rfl dX6_findFault_17 ?_
    refine lv_icmp_ge (tgt := 80) hx hb dX6_findFault_18 (by decide) (fun c_1 => ?_) (fun c_1 => ?_)
    · have ge_2 : 5 ≤ k_1 := g_ge2 (Nat.lt_of_le_of_lt hb_1 (by decide)) (by decide) c_1
      refine gm_q (Q2 := MQ below (gQi (K Z k_1).1 (XR D cy τ (K Z k_1).2) (XA τ)) args s 0 0 (XA τ)) (by simp only [lf_X6_findFault_12, ↓if_pos c_1]) ?_
      exact hexit Z k_1 hb_1  _ _ _ hR hS (lv_sub hl [0, 1] rfl)
    · have lt_3 : k_1 < 5 := g_lt (Nat.lt_of_le_of_lt hb_1 (by decide)) (by decide) c_1
      refine lv_aload_n hx hb dX6_findFault_21 rfl (lv_at hl 0 rfl) ?_
      refine lv_aload_n hx hb dX6_findFault_22 rfl (lv_at hl 0 rfl) ?_
      refine va_get (D := D) (ci := 6) (v := .ref (τ + 2)) (C := RX6) (T := TX6) (N := 5) hx hb hts inX6 hown hK.1 (XR.mk0 hR) 0 rfl rfl 1 (by decide) lk17 (fun _ h9 => h9) rfl dX6_findFault_23 ?_
      refine lv_iload_n hx hb dX6_findFault_26 rfl (lv_at hl 1 rfl) ?_
      refine gm_aald (b := (τ + (3 + k_1))) hx hb hK.1 (XR.mk1 hR (c := 2) (by decide) (bX_32 (by decide))) 6 rfl (vp_in_nI lt_3 (by decide)) (by rw [nI_clamp (n := k_1) (by omega)]) dX6_findFault_27 ?_
      refine gm_ci (gm_call (As := [.ref (τ + (3 + k_1))]) (rest := []) (ci := 6) (q := (RX6, TX6, 5)) ⟨hx, hb, hml, hown, hts⟩ hK (c_X6_readTrip l D cy τ Z (3 + k_1) (kd_X k_1 lt_3).1 (kd_X k_1 lt_3).2) (cwV 1 hts gX6_findFault_X6_readTrip rfl rfl rfl (by decide +kernel) ⟨Nat.le_of_ble_eq_true rfl, Nat.le_of_ble_eq_true rfl⟩) (XR.mk0 hR) rfl hR rfl hl.1 rfl (Nat.le_of_ble_eq_true rfl) dX6_findFault_28 (Nat.zero_le _) (Nat.zero_le _)) hS (fun _ h => h) (fun H locs hR _ _ hS => ?_)
      obtain ⟨X1, eX1⟩ : ∃ Y : gM, Y = (p_X6_readTrip Z (3 + k_1)).2 := ⟨_, rfl⟩
      rw [← eX1] at hR
      refine lv_if_ne (tgt := 39) hx hb dX6_findFault_31 (by decide) (fun c_4 => ?_) (fun c_4 => ?_)
      · refine lv_aload_n hx hb dX6_findFault_39 rfl (lv_at hl 0 rfl) ?_
        refine lv_iload_n hx hb dX6_findFault_40 rfl (lv_at hl 1 rfl) ?_
        refine lv_iconst (v := 1) hx hb dX6_findFault_41 (by decide) ?_
        refine lv_iadd hx hb dX6_findFault_42 ?_
        rw [show ((nI k_1) + 1 : Int32) = nI (k_1 + 1) from nI_add _ 1]
        refine gm_put (v := .int (nI (k_1 + 1))) (ty := .int) (ci := 6) (C := RX6) (T := TX6) (N := 5) hx hb hts inX6 tyX6 tyX6_ok nmX6 hown hK.1 hR injX hS (a := 0) (by decide) rfl (bX_6 (by decide)) rfl 3 (by decide) lk33 (fun _ h9 => h9) rfl (by decide +kernel) rfl rfl (Nat.le_of_ble_eq_true rfl) (j := 3) (x := nI (k_1 + 1)) (by rw [bX_6 (by decide)]; rfl) dX6_findFault_43 (fun H locs hR hS => ?_)
        obtain ⟨X2, eX2⟩ : ∃ Y : gM, Y = updM X1 0 3 (nI (k_1 + 1)) := ⟨_, rfl⟩
        rw [← eX2] at hR
        refine lv_aload_n hx hb dX6_findFault_46 rfl (lv_at hl 0 rfl) ?_
        refine va_get (D := D) (ci := 6) (v := .int (X2 0 4)) (C := RX6) (T := TX6) (N := 5) hx hb hts inX6 hown hK.1 (XR.mk0 hR) 0 rfl rfl 4 (by decide) lk30 (fun _ h9 => h9) rfl dX6_findFault_47 ?_
        refine lv_aload_n hx hb dX6_findFault_50 rfl (lv_at hl 0 rfl) ?_
        refine va_get (D := D) (ci := 6) (v := .int (X2 0 2)) (C := RX6) (T := TX6) (N := 5) hx hb hts inX6 hown hK.1 (XR.mk0 hR) 0 rfl rfl 2 (by decide) lk22 (fun _ h9 => h9) rfl dX6_findFault_51 ?_
        refine lv_icmp_lt (tgt := 60) hx hb dX6_findFault_54 (by decide) (fun c_5 => ?_) (fun c_5 => ?_)
        · refine lv_aload_n hx hb dX6_findFault_60 rfl (lv_at hl 0 rfl) ?_
          refine lv_bipush (v := 59) hx hb dX6_findFault_61 (by decide) ?_
          refine gm_ci (gm_call (As := [.int 59]) (rest := []) (ci := 6) (q := (RX6, TX6, 5)) ⟨hx, hb, hml, hown, hts⟩ hK (c_X6_accept l D cy τ X2 59) (cwV 1 hts gX6_findFault_X6_accept rfl rfl rfl (by decide +kernel) ⟨Nat.le_of_ble_eq_true rfl, Nat.le_of_ble_eq_true rfl⟩) (XR.mk0 hR) rfl hR rfl hl.1 rfl (Nat.le_of_ble_eq_true rfl) dX6_findFault_63 (Nat.zero_le _) (Nat.zero_le _)) hS (fun _ h => h) (fun H locs hR _ _ hS => ?_)
          obtain ⟨X3, eX3⟩ : ∃ Y : gM, Y = (p_X6_accept X2 59).2 := ⟨_, rfl⟩
          rw [← eX3] at hR
          refine lv_if_ne (tgt := 74) hx hb dX6_findFault_66 (by decide) (fun c_6 => ?_) (fun c_6 => ?_)
          · refine lv_iinc (v := nI (k_1 + 1)) (lv' := [(1, .int (nI (k_1 + 1))), (0, .ref τ)]) hx hb dX6_findFault_74 hl (k := 1) rfl (nI_1 _) (by decide) rfl (fun ls hl => ?_)
            refine lv_goto (tgt := 12) hx hb dX6_findFault_77 (by decide) ?_
            refine gm_q (Q2 := MQ below (gQi (lf_X6_findFault_12 K n X3 (k_1 + 1)).1 (XR D cy τ (lf_X6_findFault_12 K n X3 (k_1 + 1)).2) (XA τ)) args s 0 0 (XA τ)) (by simp only [lf_X6_findFault_12, ↓if_neg c_1, ↓if_neg c_4, ↓if_pos c_5, ↓if_neg c_6, ← eX1, ← eX2, ← eX3]) ?_
            exact ih X3 (k_1 + 1) lt_3 (by omega) _ _ _ hR hS (lv_sub hl [1, 0] rfl)
          · refine lv_aload_n hx hb dX6_findFault_69 rfl (lv_at hl 0 rfl) ?_
            refine va_get (D := D) (ci := 6) (v := .int (X3 0 4)) (C := RX6) (T := TX6) (N := 5) hx hb hts inX6 hown hK.1 (XR.mk0 hR) 0 rfl rfl 4 (by decide) lk30 (fun _ h9 => h9) rfl dX6_findFault_70 ?_
            exact gm_iret hx hb hr hlocks hS (by (try simp only [lf_X6_findFault_12, ↓if_neg c_1, ↓if_neg c_4, ↓if_pos c_5, ↓if_pos c_6, ← eX1, ← eX2, ← eX3]); (try rfl)) (by (try simp only [lf_X6_findFault_12, ↓if_neg c_1, ↓if_neg c_4, ↓if_pos c_5, ↓if_pos c_6, ← eX1, ← eX2, ← eX3]); exact hR) dX6_findFault_73
        · refine lv_bipush (v := (-5)) hx hb dX6_findFault_57 (by decide) ?_
          exact gm_iret hx hb hr hlocks hS (by (try simp only [lf_X6_findFault_12, ↓if_neg c_1, ↓if_neg c_4, ↓if_neg c_5, ← eX1, ← eX2]); (try rfl)) (by (try simp only [lf_X6_findFault_12, ↓if_neg c_1, ↓if_neg c_4, ↓if_neg c_5, ← eX1, ← eX2]); exact hR) dX6_findFault_59
      · refine lv_aload_n hx hb dX6_findFault_34 rfl (lv_at hl 0 rfl) ?_
        refine va_get (D := D) (ci := 6) (v := .int (X1 0 4)) (C := RX6) (T := TX6) (N := 5) hx hb hts inX6 hown hK.1 (XR.mk0 hR) 0 rfl rfl 4 (by decide) lk30 (fun _ h9 => h9) rfl dX6_findFault_35 ?_
        exact gm_iret hx hb hr hlocks hS (by (try simp only [lf_X6_findFault_12, ↓if_neg c_1, ↓if_pos c_4, ← eX1]); (try rfl)) (by (try simp only [lf_X6_findFault_12, ↓if_neg c_1, ↓if_pos c_4, ← eX1]); exact hR) dX6_findFault_38
set_option maxHeartbeats 4000000 in
set_option maxRecDepth 100000 in
theorem c_X6_findFault (l : Launch) (D : va_G) (cy : Nat → ClassId) (τ : Nat) (X : gM)  : Met l yX6_findFault wsX6_findFault ({ frames := 5, cells := 0, slots := 0, locals := 109 }) (gP [.ref τ] D cy (XR D cy τ X)) (gQi (p_X6_findFault X).1 (XR D cy τ (p_X6_findFault X).2) (XA τ)) 0 0 (XA τ) := by
  refine gm_met (cc := cX6_findFault) (maxL := 2) (ret := (some .int)) [.ref τ] (by decide) rfl (Nat.le_of_ble_eq_true rfl) ?_
  intro p e s m args below meth c0 ls C hR hl
  obtain ⟨hx, hb, hr, hts, hown, hlocks, hml, hK⟩ := C
  have hl : lv_has ls 2 [(0, .ref τ)] := hl
  have hS : va_S (XA τ) s.heap s.heap [] := va_S.rf
  have lk30 := hts (.fieldLink RX6 30 "MercuryLine$TicketText" "at" "I") (by decide +kernel)
  have inX6 : ∀ w ∈ u_ws RX6 TX6 5, w ∈ wsX6_findFault := by decide +kernel
  have lk33 := hts (.fieldLink RX6 33 "MercuryLine$TicketText" "tripCount" "I") (by decide +kernel)
  refine lv_aload_n hx hb dX6_findFault_0 rfl (lv_at hl 0 rfl) ?_
  refine lv_iconst (v := 0) hx hb dX6_findFault_1 (by decide) ?_
  refine gm_put (v := .int 0) (ty := .int) (ci := 6) (C := RX6) (T := TX6) (N := 5) hx hb hts inX6 tyX6 tyX6_ok nmX6 hown hK.1 hR injX hS (a := 0) (by decide) rfl (bX_6 (by decide)) rfl 4 (by decide) lk30 (fun _ h9 => h9) rfl (by decide +kernel) rfl rfl (Nat.le_of_ble_eq_true rfl) (j := 4) (x := 0) (by rw [bX_6 (by decide)]; rfl) dX6_findFault_2 (fun H locs hR hS => ?_)
  obtain ⟨X1, eX1⟩ : ∃ Y : gM, Y = updM X 0 4 0 := ⟨_, rfl⟩
  rw [← eX1] at hR
  refine lv_aload_n hx hb dX6_findFault_5 rfl (lv_at hl 0 rfl) ?_
  refine lv_iconst (v := 0) hx hb dX6_findFault_6 (by decide) ?_
  refine gm_put (v := .int 0) (ty := .int) (ci := 6) (C := RX6) (T := TX6) (N := 5) hx hb hts inX6 tyX6 tyX6_ok nmX6 hown hK.1 hR injX hS (a := 0) (by decide) rfl (bX_6 (by decide)) rfl 3 (by decide) lk33 (fun _ h9 => h9) rfl (by decide +kernel) rfl rfl (Nat.le_of_ble_eq_true rfl) (j := 3) (x := 0) (by rw [bX_6 (by decide)]; rfl) dX6_findFault_7 (fun H locs hR hS => ?_)
  obtain ⟨X2, eX2⟩ : ∃ Y : gM, Y = updM X1 0 3 0 := ⟨_, rfl⟩
  rw [← eX2] at hR
  refine lv_iconst (v := 0) hx hb dX6_findFault_10 (by decide) ?_
  refine lv_istore_n (lv' := [(1, .int 0), (0, .ref τ)]) hx hb dX6_findFault_11 rfl hl (by decide) rfl (fun ls hl => ?_)
  refine gm_q (Q2 := MQ below (gQi (lf_X6_findFault_12  (fun X3 k_1w1 =>
        (X3 0 4, X3)) 6 X2 0).1 (XR D cy τ (lf_X6_findFault_12  (fun X3 k_1w1 =>
        (X3 0 4, X3)) 6 X2 0).2) (XA τ)) args s 0 0 (XA τ)) (by simp only [p_X6_findFault, ← eX1, ← eX2]) ?_
  refine lp_X6_findFault_12 ⟨hx, hb, hr, hts, hown, hlocks, hml, hK⟩ τ  _ (fun X3 k_1w1 hbk_1w1 H locs ls hR hS hl => ?_) 6 X2 0 (by decide) (by omega) _ _ _ hR hS (lv_sub hl [1, 0] rfl)
  refine lv_aload_n hx hb dX6_findFault_80 rfl (lv_at hl 0 rfl) ?_
  refine va_get (D := D) (ci := 6) (v := .int (X3 0 4)) (C := RX6) (T := TX6) (N := 5) hx hb hts inX6 hown hK.1 (XR.mk0 hR) 0 rfl rfl 4 (by decide) lk30 (fun _ h9 => h9) rfl dX6_findFault_81 ?_
  exact gm_iret hx hb hr hlocks hS (by (try simp only [p_X6_findFault, ← eX1, ← eX2]); (try rfl)) (by (try simp only [p_X6_findFault, ← eX1, ← eX2]); exact hR) dX6_findFault_84
