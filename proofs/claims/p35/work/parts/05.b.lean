def f_X7_isGood (v : Nat → Int32) : Int32 :=
  if f_X8_within (v 0) 0 65535 = 0 then
    0
  else
    if f_X8_within (v 1) 1 3 = 0 then
      0
    else
      if f_X8_within (v 4) 1 9 = 0 then
        0
      else
        if v 2 = v 3 then
          0
        else
          1
set_option maxHeartbeats 4000000 in
set_option maxRecDepth 100000 in
theorem c_X7_isGood (l : Launch) (D : va_G) (cy : Nat → ClassId) (a : Nat) (v : Nat → Int32)  : Met l yX7_isGood wsX7_isGood ({ frames := 1, cells := 0, slots := 0, locals := 22 }) (gP [.ref a] D cy (fun H => va_P D vwCl [(a, .inr (7, [.int (v 0), .int (v 1), .int (v 2), .int (v 3), .int (v 4)]))] H)) (gQi (f_X7_isGood v) (fun _ => True) gNo) 0 0 gNo := by
  refine gm_met (cc := cX7_isGood) (maxL := 1) (ret := (some .boolean)) [.ref a] (by decide) rfl (Nat.le_of_ble_eq_true rfl) ?_
  intro p e s m args below meth c0 ls C hR hl
  obtain ⟨hx, hb, hr, hts, hown, hlocks, hml, hK⟩ := C
  have hl : lv_has ls 1 [(0, .ref a)] := hl
  have hS : va_S gNo s.heap s.heap [] := va_S.rf
  have lk7 := hts (.fieldLink RX7 7 "MercuryLine$Trip" "value" "I") (by decide +kernel)
  have inX7 : ∀ w ∈ u_ws RX7 TX7 5, w ∈ wsX7_isGood := by decide +kernel
  have lk13 := hts (.fieldLink RX7 13 "MercuryLine$Trip" "kind" "I") (by decide +kernel)
  have lk22 := hts (.fieldLink RX7 22 "MercuryLine$Trip" "laps" "I") (by decide +kernel)
  have lk16 := hts (.fieldLink RX7 16 "MercuryLine$Trip" "from" "I") (by decide +kernel)
  have lk19 := hts (.fieldLink RX7 19 "MercuryLine$Trip" "to" "I") (by decide +kernel)
  refine lv_aload_n hx hb dX7_isGood_0 rfl (lv_at hl 0 rfl) ?_
  refine va_get (D := D) (ci := 7) (v := .int (v 0)) (C := RX7) (T := TX7) (N := 5) hx hb hts inX7 hown hK.1 hR 0 rfl rfl 0 (by decide) lk7 (fun _ h9 => h9) rfl dX7_isGood_1 ?_
  refine lv_iconst (v := 0) hx hb dX7_isGood_4 (by decide) ?_
  refine lv_ldc (v := 65535) hx hb hown (hts (.constant RX7 25 65535) (by decide +kernel)) dX7_isGood_5 ?_
  refine gm_ci (gm_callN (As := [.int (v 0), .int 0, .int 65535]) (rest := []) ⟨hx, hb, hml, hown, hts⟩ hK (c_X8_within l D cy (v 0) 0 65535) ⟨va_cnB 3 hts gX7_isGood_X8_within_n26 rfl rfl rfl (hK.2.1 (RX7, 26, yX8_within, "MercuryLine") (by decide +kernel)) (hts (.initialized RX8) (by decide +kernel)) (by decide +kernel) ⟨Nat.le_of_ble_eq_true rfl, Nat.le_of_ble_eq_true rfl⟩, hts (.static yX8_within) (by decide +kernel), trivial⟩ trivial rfl hl.1 rfl (Nat.le_of_ble_eq_true rfl) dX7_isGood_7 (Nat.zero_le _) (Nat.zero_le _)) hS (fun _ h => h.elim) (fun H locs _ _ hfr hS => ?_)
  have hR := g_keep1 hR hfr
  refine lv_if_eq (tgt := 53) hx hb dX7_isGood_10 (by decide) (fun c_1 => ?_) (fun c_1 => ?_)
  · refine lv_iconst (v := 0) hx hb dX7_isGood_53 (by decide) ?_
    exact gm_zret hx hb hr hlocks rfl hS (by (try simp only [f_X7_isGood, ↓if_pos c_1]); (try rfl)) trivial dX7_isGood_54
  · refine lv_aload_n hx hb dX7_isGood_13 rfl (lv_at hl 0 rfl) ?_
    refine va_get (D := D) (ci := 7) (v := .int (v 1)) (C := RX7) (T := TX7) (N := 5) hx hb hts inX7 hown hK.1 hR 0 rfl rfl 1 (by decide) lk13 (fun _ h9 => h9) rfl dX7_isGood_14 ?_
    refine lv_iconst (v := 1) hx hb dX7_isGood_17 (by decide) ?_
    refine lv_iconst (v := 3) hx hb dX7_isGood_18 (by decide) ?_
    refine gm_ci (gm_callN (As := [.int (v 1), .int 1, .int 3]) (rest := []) ⟨hx, hb, hml, hown, hts⟩ hK (c_X8_within l D cy (v 1) 1 3) ⟨va_cnB 3 hts gX7_isGood_X8_within_n26 rfl rfl rfl (hK.2.1 (RX7, 26, yX8_within, "MercuryLine") (by decide +kernel)) (hts (.initialized RX8) (by decide +kernel)) (by decide +kernel) ⟨Nat.le_of_ble_eq_true rfl, Nat.le_of_ble_eq_true rfl⟩, hts (.static yX8_within) (by decide +kernel), trivial⟩ trivial rfl hl.1 rfl (Nat.le_of_ble_eq_true rfl) dX7_isGood_19 (Nat.zero_le _) (Nat.zero_le _)) hS (fun _ h => h.elim) (fun H locs _ _ hfr hS => ?_)
    have hR := g_keep1 hR hfr
    refine lv_if_eq (tgt := 53) hx hb dX7_isGood_22 (by decide) (fun c_2 => ?_) (fun c_2 => ?_)
    · refine lv_iconst (v := 0) hx hb dX7_isGood_53 (by decide) ?_
      exact gm_zret hx hb hr hlocks rfl hS (by (try simp only [f_X7_isGood, ↓if_neg c_1, ↓if_pos c_2]); (try rfl)) trivial dX7_isGood_54
    · refine lv_aload_n hx hb dX7_isGood_25 rfl (lv_at hl 0 rfl) ?_
      refine va_get (D := D) (ci := 7) (v := .int (v 4)) (C := RX7) (T := TX7) (N := 5) hx hb hts inX7 hown hK.1 hR 0 rfl rfl 4 (by decide) lk22 (fun _ h9 => h9) rfl dX7_isGood_26 ?_
      refine lv_iconst (v := 1) hx hb dX7_isGood_29 (by decide) ?_
      refine lv_bipush (v := 9) hx hb dX7_isGood_30 (by decide) ?_
      refine gm_ci (gm_callN (As := [.int (v 4), .int 1, .int 9]) (rest := []) ⟨hx, hb, hml, hown, hts⟩ hK (c_X8_within l D cy (v 4) 1 9) ⟨va_cnB 3 hts gX7_isGood_X8_within_n26 rfl rfl rfl (hK.2.1 (RX7, 26, yX8_within, "MercuryLine") (by decide +kernel)) (hts (.initialized RX8) (by decide +kernel)) (by decide +kernel) ⟨Nat.le_of_ble_eq_true rfl, Nat.le_of_ble_eq_true rfl⟩, hts (.static yX8_within) (by decide +kernel), trivial⟩ trivial rfl hl.1 rfl (Nat.le_of_ble_eq_true rfl) dX7_isGood_32 (Nat.zero_le _) (Nat.zero_le _)) hS (fun _ h => h.elim) (fun H locs _ _ hfr hS => ?_)
      have hR := g_keep1 hR hfr
      refine lv_if_eq (tgt := 53) hx hb dX7_isGood_35 (by decide) (fun c_3 => ?_) (fun c_3 => ?_)
      · refine lv_iconst (v := 0) hx hb dX7_isGood_53 (by decide) ?_
        exact gm_zret hx hb hr hlocks rfl hS (by (try simp only [f_X7_isGood, ↓if_neg c_1, ↓if_neg c_2, ↓if_pos c_3]); (try rfl)) trivial dX7_isGood_54
      · refine lv_aload_n hx hb dX7_isGood_38 rfl (lv_at hl 0 rfl) ?_
        refine va_get (D := D) (ci := 7) (v := .int (v 2)) (C := RX7) (T := TX7) (N := 5) hx hb hts inX7 hown hK.1 hR 0 rfl rfl 2 (by decide) lk16 (fun _ h9 => h9) rfl dX7_isGood_39 ?_
        refine lv_aload_n hx hb dX7_isGood_42 rfl (lv_at hl 0 rfl) ?_
        refine va_get (D := D) (ci := 7) (v := .int (v 3)) (C := RX7) (T := TX7) (N := 5) hx hb hts inX7 hown hK.1 hR 0 rfl rfl 3 (by decide) lk19 (fun _ h9 => h9) rfl dX7_isGood_43 ?_
        refine lv_icmp_eq (tgt := 53) hx hb dX7_isGood_46 (by decide) (fun c_4 => ?_) (fun c_4 => ?_)
        · refine lv_iconst (v := 0) hx hb dX7_isGood_53 (by decide) ?_
          exact gm_zret hx hb hr hlocks rfl hS (by (try simp only [f_X7_isGood, ↓if_neg c_1, ↓if_neg c_2, ↓if_neg c_3, ↓if_pos c_4]); (try rfl)) trivial dX7_isGood_54
        · refine lv_iconst (v := 1) hx hb dX7_isGood_49 (by decide) ?_
          refine lv_goto (tgt := 54) hx hb dX7_isGood_50 (by decide) ?_
          exact gm_zret hx hb hr hlocks rfl hS (by (try simp only [f_X7_isGood, ↓if_neg c_1, ↓if_neg c_2, ↓if_neg c_3, ↓if_neg c_4]); (try rfl)) trivial dX7_isGood_54
def f_X7_lineTo (v : Nat → Int32) : Int32 :=
  (v 3) / 10
set_option maxHeartbeats 4000000 in
set_option maxRecDepth 100000 in
theorem c_X7_lineTo (l : Launch) (D : va_G) (cy : Nat → ClassId) (a : Nat) (v : Nat → Int32)  : Met l yX7_lineTo wsX7_lineTo ({ frames := 0, cells := 0, slots := 0, locals := 0 }) (gP [.ref a] D cy (fun H => va_P D vwCl [(a, .inr (7, [.int (v 0), .int (v 1), .int (v 2), .int (v 3), .int (v 4)]))] H)) (gQi (f_X7_lineTo v) (fun _ => True) gNo) 0 0 gNo := by
  refine gm_met (cc := cX7_lineTo) (maxL := 1) (ret := (some .int)) [.ref a] (by decide) rfl (Nat.le_of_ble_eq_true rfl) ?_
  intro p e s m args below meth c0 ls C hR hl
  obtain ⟨hx, hb, hr, hts, hown, hlocks, hml, hK⟩ := C
  have hl : lv_has ls 1 [(0, .ref a)] := hl
  have hS : va_S gNo s.heap s.heap [] := va_S.rf
  have lk19 := hts (.fieldLink RX7 19 "MercuryLine$Trip" "to" "I") (by decide +kernel)
  have inX7 : ∀ w ∈ u_ws RX7 TX7 5, w ∈ wsX7_lineTo := by decide +kernel
  refine lv_aload_n hx hb dX7_lineTo_0 rfl (lv_at hl 0 rfl) ?_
  refine va_get (D := D) (ci := 7) (v := .int (v 3)) (C := RX7) (T := TX7) (N := 5) hx hb hts inX7 hown hK.1 hR 0 rfl rfl 3 (by decide) lk19 (fun _ h9 => h9) rfl dX7_lineTo_1 ?_
  refine lv_bipush (v := 10) hx hb dX7_lineTo_4 (by decide) ?_
  refine lv_idiv hx hb dX7_lineTo_6 (by decide) ?_
  exact gm_iret hx hb hr hlocks hS (by (try simp only [f_X7_lineTo]); (try rfl)) trivial dX7_lineTo_7
def f_X5_hasEnded (X : gM) (c : Nat) : Int32 :=
  if X c 4 < 3 then
    0
  else
    1
set_option maxHeartbeats 4000000 in
set_option maxRecDepth 100000 in
theorem c_X5_hasEnded (l : Launch) (D : va_G) (cy : Nat → ClassId) (σ : Nat) (X : gM) (c : Nat) (hc : c < 123) (hk : kdS c = 5) : Met l yX5_hasEnded wsX5_hasEnded ({ frames := 0, cells := 0, slots := 0, locals := 0 }) (gP [.ref (σ + c)] D cy (SR D cy σ X)) (gQi (f_X5_hasEnded X c) (fun _ => True) gNo) 0 0 gNo := by
  refine gm_met (cc := cX5_hasEnded) (maxL := 1) (ret := (some .boolean)) [.ref (σ + c)] (by decide) rfl (Nat.le_of_ble_eq_true rfl) ?_
  intro p e s m args below meth c0 ls C hR hl
  obtain ⟨hx, hb, hr, hts, hown, hlocks, hml, hK⟩ := C
  have hl : lv_has ls 1 [(0, .ref (σ + c))] := hl
  have hS : va_S gNo s.heap s.heap [] := va_S.rf
  have lk32 := hts (.fieldLink RX5 32 "MercuryLine$Ticket" "state" "I") (by decide +kernel)
  have inX5 : ∀ w ∈ u_ws RX5 TX5 14, w ∈ wsX5_hasEnded := by decide +kernel
  refine lv_aload_n hx hb dX5_hasEnded_0 rfl (lv_at hl 0 rfl) ?_
  refine va_get (D := D) (ci := 5) (v := .int (X c 4)) (C := RX5) (T := TX5) (N := 14) hx hb hts inX5 hown hK.1 (SR.mk1 hR (c := c) hc (bS_5 hk)) 0 rfl rfl 4 (by decide) lk32 (fun _ h9 => h9) rfl dX5_hasEnded_1 ?_
  refine lv_iconst (v := 3) hx hb dX5_hasEnded_4 (by decide) ?_
  refine lv_icmp_lt (tgt := 12) hx hb dX5_hasEnded_5 (by decide) (fun c_1 => ?_) (fun c_1 => ?_)
  · refine lv_iconst (v := 0) hx hb dX5_hasEnded_12 (by decide) ?_
    exact gm_zret hx hb hr hlocks rfl hS (by (try simp only [f_X5_hasEnded, ↓if_pos c_1]); (try rfl)) trivial dX5_hasEnded_13
  · refine lv_iconst (v := 1) hx hb dX5_hasEnded_8 (by decide) ?_
    refine lv_goto (tgt := 13) hx hb dX5_hasEnded_9 (by decide) ?_
    exact gm_zret hx hb hr hlocks rfl hS (by (try simp only [f_X5_hasEnded, ↓if_neg c_1]); (try rfl)) trivial dX5_hasEnded_13
def f_X5_queue (X : gM) (c : Nat) : Int32 :=
  if X c 4 = 0 then
    X (c + 1) 2
  else
    if X c 4 = 2 then
      20 + (X c 5)
    else
      (-5)
set_option maxHeartbeats 4000000 in
set_option maxRecDepth 100000 in
theorem c_X5_queue (l : Launch) (D : va_G) (cy : Nat → ClassId) (σ : Nat) (X : gM) (c : Nat) (hc : c < 123) (hk : kdS c = 5) : Met l yX5_queue wsX5_queue ({ frames := 0, cells := 0, slots := 0, locals := 0 }) (gP [.ref (σ + c)] D cy (SR D cy σ X)) (gQi (f_X5_queue X c) (fun _ => True) gNo) 0 0 gNo := by
  refine gm_met (cc := cX5_queue) (maxL := 1) (ret := (some .int)) [.ref (σ + c)] (by decide) rfl (Nat.le_of_ble_eq_true rfl) ?_
  intro p e s m args below meth c0 ls C hR hl
  obtain ⟨hx, hb, hr, hts, hown, hlocks, hml, hK⟩ := C
  have hl : lv_has ls 1 [(0, .ref (σ + c))] := hl
  have hS : va_S gNo s.heap s.heap [] := va_S.rf
  have lk32 := hts (.fieldLink RX5 32 "MercuryLine$Ticket" "state" "I") (by decide +kernel)
  have inX5 : ∀ w ∈ u_ws RX5 TX5 14, w ∈ wsX5_queue := by decide +kernel
  have lk35 := hts (.fieldLink RX5 35 "MercuryLine$Ticket" "line" "I") (by decide +kernel)
  have lk12 := hts (.fieldLink RX5 12 "MercuryLine$Ticket" "trip" "LMercuryLine$Trip;") (by decide +kernel)
  have lk65 := hts (.fieldLink RX5 65 "MercuryLine$Trip" "from" "I") (by decide +kernel)
  have inX7 : ∀ w ∈ u_ws RX7 TX7 5, w ∈ wsX5_queue := by decide +kernel
  refine lv_aload_n hx hb dX5_queue_0 rfl (lv_at hl 0 rfl) ?_
  refine va_get (D := D) (ci := 5) (v := .int (X c 4)) (C := RX5) (T := TX5) (N := 14) hx hb hts inX5 hown hK.1 (SR.mk1 hR (c := c) hc (bS_5 hk)) 0 rfl rfl 4 (by decide) lk32 (fun _ h9 => h9) rfl dX5_queue_1 ?_
  refine lv_if_ne (tgt := 15) hx hb dX5_queue_4 (by decide) (fun c_1 => ?_) (fun c_1 => ?_)
  · refine lv_aload_n hx hb dX5_queue_15 rfl (lv_at hl 0 rfl) ?_
    refine va_get (D := D) (ci := 5) (v := .int (X c 4)) (C := RX5) (T := TX5) (N := 14) hx hb hts inX5 hown hK.1 (SR.mk1 hR (c := c) hc (bS_5 hk)) 0 rfl rfl 4 (by decide) lk32 (fun _ h9 => h9) rfl dX5_queue_16 ?_
    refine lv_iconst (v := 2) hx hb dX5_queue_19 (by decide) ?_
    refine lv_icmp_ne (tgt := 33) hx hb dX5_queue_20 (by decide) (fun c_2 => ?_) (fun c_2 => ?_)
    · refine lv_bipush (v := (-5)) hx hb dX5_queue_33 (by decide) ?_
      exact gm_iret hx hb hr hlocks hS (by (try simp only [f_X5_queue, ↓if_neg c_1, ↓if_neg c_2]); (try rfl)) trivial dX5_queue_35
    · refine lv_bipush (v := 20) hx hb dX5_queue_23 (by decide) ?_
      refine lv_aload_n hx hb dX5_queue_25 rfl (lv_at hl 0 rfl) ?_
      refine va_get (D := D) (ci := 5) (v := .int (X c 5)) (C := RX5) (T := TX5) (N := 14) hx hb hts inX5 hown hK.1 (SR.mk1 hR (c := c) hc (bS_5 hk)) 0 rfl rfl 5 (by decide) lk35 (fun _ h9 => h9) rfl dX5_queue_26 ?_
      refine lv_iadd hx hb dX5_queue_29 ?_
      refine lv_goto (tgt := 35) hx hb dX5_queue_30 (by decide) ?_
      exact gm_iret hx hb hr hlocks hS (by (try simp only [f_X5_queue, ↓if_neg c_1, ↓if_pos c_2]); (try rfl)) trivial dX5_queue_35
  · refine lv_aload_n hx hb dX5_queue_7 rfl (lv_at hl 0 rfl) ?_
    refine va_get (D := D) (ci := 5) (v := .ref (σ + (c + 1))) (C := RX5) (T := TX5) (N := 14) hx hb hts inX5 hown hK.1 (SR.mk1 hR (c := c) hc (bS_5 hk)) 0 rfl rfl 1 (by decide) lk12 (fun _ h9 => h9) rfl dX5_queue_8 ?_
    refine va_get (D := D) (ci := 7) (v := .int (X (c + 1) 2)) (C := RX7) (T := TX7) (N := 5) hx hb hts inX7 hown hK.1 (SR.mk1 hR (c := c + 1) (kd_5 c hc hk).1 (bS_7 (kd_5 c hc hk).2)) 0 rfl rfl 2 (by decide) lk65 (fun _ h9 => h9) rfl dX5_queue_11 ?_
    exact gm_iret hx hb hr hlocks hS (by (try simp only [f_X5_queue, ↓if_pos c_1]); (try rfl)) trivial dX5_queue_14
def p_X5_finish (X : gM) (c : Nat) (a1 : Int32) (a2 : Int32) (a3 : Int32) : gM :=
  let X1 := updM X c 4 a1
  let X2 := updM X1 c 5 (-5)
  let X3 := updM X2 c 6 (-5)
  let X4 := updM X3 c 9 a3
  let X5 := updM X4 c 10 a2
  X5
set_option maxHeartbeats 4000000 in
set_option maxRecDepth 100000 in
theorem c_X5_finish (l : Launch) (D : va_G) (cy : Nat → ClassId) (σ : Nat) (X : gM) (c : Nat) (a1 : Int32) (a2 : Int32) (a3 : Int32) (hc : c < 123) (hk : kdS c = 5) : Met l yX5_finish wsX5_finish ({ frames := 0, cells := 0, slots := 0, locals := 0 }) (gP [.ref (σ + c), .int a1, .int a2, .int a3] D cy (SR D cy σ X)) (gQv (SR D cy σ (p_X5_finish X c a1 a2 a3)) (SA σ)) 0 0 (SA σ) := by
  refine gm_met (cc := cX5_finish) (maxL := 4) (ret := none) [.ref (σ + c), .int a1, .int a2, .int a3] (by decide) rfl (Nat.le_of_ble_eq_true rfl) ?_
  intro p e s m args below meth c0 ls C hR hl
  obtain ⟨hx, hb, hr, hts, hown, hlocks, hml, hK⟩ := C
  have hl : lv_has ls 4 [(0, .ref (σ + c)), (1, .int a1), (2, .int a2), (3, .int a3)] := hl
  have hS : va_S (SA σ) s.heap s.heap [] := va_S.rf
  have lk32 := hts (.fieldLink RX5 32 "MercuryLine$Ticket" "state" "I") (by decide +kernel)
  have inX5 : ∀ w ∈ u_ws RX5 TX5 14, w ∈ wsX5_finish := by decide +kernel
  have lk35 := hts (.fieldLink RX5 35 "MercuryLine$Ticket" "line" "I") (by decide +kernel)
  have lk38 := hts (.fieldLink RX5 38 "MercuryLine$Ticket" "slot" "I") (by decide +kernel)
  have lk47 := hts (.fieldLink RX5 47 "MercuryLine$Ticket" "endedIn" "I") (by decide +kernel)
  have lk50 := hts (.fieldLink RX5 50 "MercuryLine$Ticket" "endedAt" "I") (by decide +kernel)
  refine lv_aload_n hx hb dX5_finish_0 rfl (lv_at hl 0 rfl) ?_
  refine lv_iload_n hx hb dX5_finish_1 rfl (lv_at hl 1 rfl) ?_
  refine gm_put (v := .int a1) (ty := .int) (ci := 5) (C := RX5) (T := TX5) (N := 14) hx hb hts inX5 tyX5 tyX5_ok nmX5 hown hK.1 hR injS hS (a := c) hc rfl (bS_5 hk) rfl 4 (by decide) lk32 (fun _ h9 => h9) rfl (by decide +kernel) rfl rfl (Nat.le_of_ble_eq_true rfl) (j := 4) (x := a1) (by rw [bS_5 hk]; rfl) dX5_finish_2 (fun H locs hR hS => ?_)
  obtain ⟨X1, eX1⟩ : ∃ Y : gM, Y = updM X c 4 a1 := ⟨_, rfl⟩
  rw [← eX1] at hR
  refine lv_aload_n hx hb dX5_finish_5 rfl (lv_at hl 0 rfl) ?_
  refine lv_bipush (v := (-5)) hx hb dX5_finish_6 (by decide) ?_
  refine gm_put (v := .int (-5)) (ty := .int) (ci := 5) (C := RX5) (T := TX5) (N := 14) hx hb hts inX5 tyX5 tyX5_ok nmX5 hown hK.1 hR injS hS (a := c) hc rfl (bS_5 hk) rfl 5 (by decide) lk35 (fun _ h9 => h9) rfl (by decide +kernel) rfl rfl (Nat.le_of_ble_eq_true rfl) (j := 5) (x := (-5)) (by rw [bS_5 hk]; rfl) dX5_finish_8 (fun H locs hR hS => ?_)
  obtain ⟨X2, eX2⟩ : ∃ Y : gM, Y = updM X1 c 5 (-5) := ⟨_, rfl⟩
  rw [← eX2] at hR
  refine lv_aload_n hx hb dX5_finish_11 rfl (lv_at hl 0 rfl) ?_
  refine lv_bipush (v := (-5)) hx hb dX5_finish_12 (by decide) ?_
  refine gm_put (v := .int (-5)) (ty := .int) (ci := 5) (C := RX5) (T := TX5) (N := 14) hx hb hts inX5 tyX5 tyX5_ok nmX5 hown hK.1 hR injS hS (a := c) hc rfl (bS_5 hk) rfl 6 (by decide) lk38 (fun _ h9 => h9) rfl (by decide +kernel) rfl rfl (Nat.le_of_ble_eq_true rfl) (j := 6) (x := (-5)) (by rw [bS_5 hk]; rfl) dX5_finish_14 (fun H locs hR hS => ?_)
  obtain ⟨X3, eX3⟩ : ∃ Y : gM, Y = updM X2 c 6 (-5) := ⟨_, rfl⟩
  rw [← eX3] at hR
  refine lv_aload_n hx hb dX5_finish_17 rfl (lv_at hl 0 rfl) ?_
  refine lv_iload_n hx hb dX5_finish_18 rfl (lv_at hl 3 rfl) ?_
  refine gm_put (v := .int a3) (ty := .int) (ci := 5) (C := RX5) (T := TX5) (N := 14) hx hb hts inX5 tyX5 tyX5_ok nmX5 hown hK.1 hR injS hS (a := c) hc rfl (bS_5 hk) rfl 9 (by decide) lk47 (fun _ h9 => h9) rfl (by decide +kernel) rfl rfl (Nat.le_of_ble_eq_true rfl) (j := 9) (x := a3) (by rw [bS_5 hk]; rfl) dX5_finish_19 (fun H locs hR hS => ?_)
  obtain ⟨X4, eX4⟩ : ∃ Y : gM, Y = updM X3 c 9 a3 := ⟨_, rfl⟩
  rw [← eX4] at hR
  refine lv_aload_n hx hb dX5_finish_22 rfl (lv_at hl 0 rfl) ?_
  refine lv_iload_n hx hb dX5_finish_23 rfl (lv_at hl 2 rfl) ?_
  refine gm_put (v := .int a2) (ty := .int) (ci := 5) (C := RX5) (T := TX5) (N := 14) hx hb hts inX5 tyX5 tyX5_ok nmX5 hown hK.1 hR injS hS (a := c) hc rfl (bS_5 hk) rfl 10 (by decide) lk50 (fun _ h9 => h9) rfl (by decide +kernel) rfl rfl (Nat.le_of_ble_eq_true rfl) (j := 10) (x := a2) (by rw [bS_5 hk]; rfl) dX5_finish_24 (fun H locs hR hS => ?_)
  obtain ⟨X5, eX5⟩ : ∃ Y : gM, Y = updM X4 c 10 a2 := ⟨_, rfl⟩
  rw [← eX5] at hR
  exact gm_vret hx hb hr hlocks hS (by (try simp only [p_X5_finish, ← eX1, ← eX2, ← eX3, ← eX4, ← eX5]); exact hR) dX5_finish_27
def p_X5_enterHall (X : gM) (c : Nat) (a1 : Int32) (a2 : Int32) : gM :=
  let X1 := updM X c 4 2
  let X2 := updM X1 c 5 a1
  let X3 := updM X2 c 6 (-5)
  let X4 := updM X3 c 12 a2
  X4
set_option maxHeartbeats 4000000 in
set_option maxRecDepth 100000 in
theorem c_X5_enterHall (l : Launch) (D : va_G) (cy : Nat → ClassId) (σ : Nat) (X : gM) (c : Nat) (a1 : Int32) (a2 : Int32) (hc : c < 123) (hk : kdS c = 5) : Met l yX5_enterHall wsX5_enterHall ({ frames := 0, cells := 0, slots := 0, locals := 0 }) (gP [.ref (σ + c), .int a1, .int a2] D cy (SR D cy σ X)) (gQv (SR D cy σ (p_X5_enterHall X c a1 a2)) (SA σ)) 0 0 (SA σ) := by
  refine gm_met (cc := cX5_enterHall) (maxL := 3) (ret := none) [.ref (σ + c), .int a1, .int a2] (by decide) rfl (Nat.le_of_ble_eq_true rfl) ?_
  intro p e s m args below meth c0 ls C hR hl
  obtain ⟨hx, hb, hr, hts, hown, hlocks, hml, hK⟩ := C
  have hl : lv_has ls 3 [(0, .ref (σ + c)), (1, .int a1), (2, .int a2)] := hl
  have hS : va_S (SA σ) s.heap s.heap [] := va_S.rf
  have lk32 := hts (.fieldLink RX5 32 "MercuryLine$Ticket" "state" "I") (by decide +kernel)
  have inX5 : ∀ w ∈ u_ws RX5 TX5 14, w ∈ wsX5_enterHall := by decide +kernel
  have lk35 := hts (.fieldLink RX5 35 "MercuryLine$Ticket" "line" "I") (by decide +kernel)
  have lk38 := hts (.fieldLink RX5 38 "MercuryLine$Ticket" "slot" "I") (by decide +kernel)
  have lk56 := hts (.fieldLink RX5 56 "MercuryLine$Ticket" "cameIn" "I") (by decide +kernel)
  refine lv_aload_n hx hb dX5_enterHall_0 rfl (lv_at hl 0 rfl) ?_
  refine lv_iconst (v := 2) hx hb dX5_enterHall_1 (by decide) ?_
  refine gm_put (v := .int 2) (ty := .int) (ci := 5) (C := RX5) (T := TX5) (N := 14) hx hb hts inX5 tyX5 tyX5_ok nmX5 hown hK.1 hR injS hS (a := c) hc rfl (bS_5 hk) rfl 4 (by decide) lk32 (fun _ h9 => h9) rfl (by decide +kernel) rfl rfl (Nat.le_of_ble_eq_true rfl) (j := 4) (x := 2) (by rw [bS_5 hk]; rfl) dX5_enterHall_2 (fun H locs hR hS => ?_)
  obtain ⟨X1, eX1⟩ : ∃ Y : gM, Y = updM X c 4 2 := ⟨_, rfl⟩
  rw [← eX1] at hR
  refine lv_aload_n hx hb dX5_enterHall_5 rfl (lv_at hl 0 rfl) ?_
  refine lv_iload_n hx hb dX5_enterHall_6 rfl (lv_at hl 1 rfl) ?_
  refine gm_put (v := .int a1) (ty := .int) (ci := 5) (C := RX5) (T := TX5) (N := 14) hx hb hts inX5 tyX5 tyX5_ok nmX5 hown hK.1 hR injS hS (a := c) hc rfl (bS_5 hk) rfl 5 (by decide) lk35 (fun _ h9 => h9) rfl (by decide +kernel) rfl rfl (Nat.le_of_ble_eq_true rfl) (j := 5) (x := a1) (by rw [bS_5 hk]; rfl) dX5_enterHall_7 (fun H locs hR hS => ?_)
  obtain ⟨X2, eX2⟩ : ∃ Y : gM, Y = updM X1 c 5 a1 := ⟨_, rfl⟩
  rw [← eX2] at hR
  refine lv_aload_n hx hb dX5_enterHall_10 rfl (lv_at hl 0 rfl) ?_
  refine lv_bipush (v := (-5)) hx hb dX5_enterHall_11 (by decide) ?_
  refine gm_put (v := .int (-5)) (ty := .int) (ci := 5) (C := RX5) (T := TX5) (N := 14) hx hb hts inX5 tyX5 tyX5_ok nmX5 hown hK.1 hR injS hS (a := c) hc rfl (bS_5 hk) rfl 6 (by decide) lk38 (fun _ h9 => h9) rfl (by decide +kernel) rfl rfl (Nat.le_of_ble_eq_true rfl) (j := 6) (x := (-5)) (by rw [bS_5 hk]; rfl) dX5_enterHall_13 (fun H locs hR hS => ?_)
  obtain ⟨X3, eX3⟩ : ∃ Y : gM, Y = updM X2 c 6 (-5) := ⟨_, rfl⟩
  rw [← eX3] at hR
  refine lv_aload_n hx hb dX5_enterHall_16 rfl (lv_at hl 0 rfl) ?_
  refine lv_iload_n hx hb dX5_enterHall_17 rfl (lv_at hl 2 rfl) ?_
  refine gm_put (v := .int a2) (ty := .int) (ci := 5) (C := RX5) (T := TX5) (N := 14) hx hb hts inX5 tyX5 tyX5_ok nmX5 hown hK.1 hR injS hS (a := c) hc rfl (bS_5 hk) rfl 12 (by decide) lk56 (fun _ h9 => h9) rfl (by decide +kernel) rfl rfl (Nat.le_of_ble_eq_true rfl) (j := 12) (x := a2) (by rw [bS_5 hk]; rfl) dX5_enterHall_18 (fun H locs hR hS => ?_)
  obtain ⟨X4, eX4⟩ : ∃ Y : gM, Y = updM X3 c 12 a2 := ⟨_, rfl⟩
  rw [← eX4] at hR
  exact gm_vret hx hb hr hlocks hS (by (try simp only [p_X5_enterHall, ← eX1, ← eX2, ← eX3, ← eX4]); exact hR) dX5_enterHall_21
def p_X5_ride (X : gM) (c : Nat) (c1 : Nat) (a2 : Int32) (a3 : Int32) : gM :=
  let X1 := updM X c 4 1
  let X2 := updM X1 c 5 (nI (nLin c1))
  let X3 := updM X2 c 6 a2
  let X4 := updM X3 c 13 (nI (10 * nLin c1 + nSta c1))
  if X4 c 8 = (-5) then
    let X5 := updM X4 c 8 a3
    X5
  else
    X4
set_option maxHeartbeats 4000000 in
set_option maxRecDepth 100000 in
theorem c_X5_ride (l : Launch) (D : va_G) (cy : Nat → ClassId) (σ : Nat) (X : gM) (c : Nat) (c1 : Nat) (a2 : Int32) (a3 : Int32) (hc : c < 123) (hk : kdS c = 5) (hc1 : c1 < 123) (hk1 : kdS c1 = 4) : Met l yX5_ride wsX5_ride ({ frames := 0, cells := 0, slots := 0, locals := 0 }) (gP [.ref (σ + c), .ref (σ + c1), .int a2, .int a3] D cy (SR D cy σ X)) (gQv (SR D cy σ (p_X5_ride X c c1 a2 a3)) (SA σ)) 0 0 (SA σ) := by
  refine gm_met (cc := cX5_ride) (maxL := 4) (ret := none) [.ref (σ + c), .ref (σ + c1), .int a2, .int a3] (by decide) rfl (Nat.le_of_ble_eq_true rfl) ?_
  intro p e s m args below meth c0 ls C hR hl
  obtain ⟨hx, hb, hr, hts, hown, hlocks, hml, hK⟩ := C
  have hl : lv_has ls 4 [(0, .ref (σ + c)), (1, .ref (σ + c1)), (2, .int a2), (3, .int a3)] := hl
  have hS : va_S (SA σ) s.heap s.heap [] := va_S.rf
  have lk32 := hts (.fieldLink RX5 32 "MercuryLine$Ticket" "state" "I") (by decide +kernel)
  have inX5 : ∀ w ∈ u_ws RX5 TX5 14, w ∈ wsX5_ride := by decide +kernel
  have lk70 := hts (.fieldLink RX5 70 "MercuryLine$Station" "line" "I") (by decide +kernel)
  have inX4 : ∀ w ∈ u_ws RX4 TX4 10, w ∈ wsX5_ride := by decide +kernel
  have lk35 := hts (.fieldLink RX5 35 "MercuryLine$Ticket" "line" "I") (by decide +kernel)
  have lk38 := hts (.fieldLink RX5 38 "MercuryLine$Ticket" "slot" "I") (by decide +kernel)
  have lk73 := hts (.fieldLink RX5 73 "MercuryLine$Station" "code" "I") (by decide +kernel)
  have lk59 := hts (.fieldLink RX5 59 "MercuryLine$Ticket" "boardedAt" "I") (by decide +kernel)
  have lk44 := hts (.fieldLink RX5 44 "MercuryLine$Ticket" "boardedIn" "I") (by decide +kernel)
  refine lv_aload_n hx hb dX5_ride_0 rfl (lv_at hl 0 rfl) ?_
  refine lv_iconst (v := 1) hx hb dX5_ride_1 (by decide) ?_
  refine gm_put (v := .int 1) (ty := .int) (ci := 5) (C := RX5) (T := TX5) (N := 14) hx hb hts inX5 tyX5 tyX5_ok nmX5 hown hK.1 hR injS hS (a := c) hc rfl (bS_5 hk) rfl 4 (by decide) lk32 (fun _ h9 => h9) rfl (by decide +kernel) rfl rfl (Nat.le_of_ble_eq_true rfl) (j := 4) (x := 1) (by rw [bS_5 hk]; rfl) dX5_ride_2 (fun H locs hR hS => ?_)
  obtain ⟨X1, eX1⟩ : ∃ Y : gM, Y = updM X c 4 1 := ⟨_, rfl⟩
  rw [← eX1] at hR
  refine lv_aload_n hx hb dX5_ride_5 rfl (lv_at hl 0 rfl) ?_
  refine lv_aload_n hx hb dX5_ride_6 rfl (lv_at hl 1 rfl) ?_
  refine va_get (D := D) (ci := 4) (v := .int (nI (nLin c1))) (C := RX4) (T := TX4) (N := 10) hx hb hts inX4 hown hK.1 (SR.mk1 hR (c := c1) hc1 (bS_4 hk1)) 0 rfl rfl 0 (by decide) lk70 (fun _ h9 => h9) rfl dX5_ride_7 ?_
  refine gm_put (v := .int (nI (nLin c1))) (ty := .int) (ci := 5) (C := RX5) (T := TX5) (N := 14) hx hb hts inX5 tyX5 tyX5_ok nmX5 hown hK.1 hR injS hS (a := c) hc rfl (bS_5 hk) rfl 5 (by decide) lk35 (fun _ h9 => h9) rfl (by decide +kernel) rfl rfl (Nat.le_of_ble_eq_true rfl) (j := 5) (x := nI (nLin c1)) (by rw [bS_5 hk]; rfl) dX5_ride_10 (fun H locs hR hS => ?_)
  obtain ⟨X2, eX2⟩ : ∃ Y : gM, Y = updM X1 c 5 (nI (nLin c1)) := ⟨_, rfl⟩
  rw [← eX2] at hR
  refine lv_aload_n hx hb dX5_ride_13 rfl (lv_at hl 0 rfl) ?_
  refine lv_iload_n hx hb dX5_ride_14 rfl (lv_at hl 2 rfl) ?_
  refine gm_put (v := .int a2) (ty := .int) (ci := 5) (C := RX5) (T := TX5) (N := 14) hx hb hts inX5 tyX5 tyX5_ok nmX5 hown hK.1 hR injS hS (a := c) hc rfl (bS_5 hk) rfl 6 (by decide) lk38 (fun _ h9 => h9) rfl (by decide +kernel) rfl rfl (Nat.le_of_ble_eq_true rfl) (j := 6) (x := a2) (by rw [bS_5 hk]; rfl) dX5_ride_15 (fun H locs hR hS => ?_)
  obtain ⟨X3, eX3⟩ : ∃ Y : gM, Y = updM X2 c 6 a2 := ⟨_, rfl⟩
  rw [← eX3] at hR
  refine lv_aload_n hx hb dX5_ride_18 rfl (lv_at hl 0 rfl) ?_
  refine lv_aload_n hx hb dX5_ride_19 rfl (lv_at hl 1 rfl) ?_
  refine va_get (D := D) (ci := 4) (v := .int (nI (10 * nLin c1 + nSta c1))) (C := RX4) (T := TX4) (N := 10) hx hb hts inX4 hown hK.1 (SR.mk1 hR (c := c1) hc1 (bS_4 hk1)) 0 rfl rfl 1 (by decide) lk73 (fun _ h9 => h9) rfl dX5_ride_20 ?_
  refine gm_put (v := .int (nI (10 * nLin c1 + nSta c1))) (ty := .int) (ci := 5) (C := RX5) (T := TX5) (N := 14) hx hb hts inX5 tyX5 tyX5_ok nmX5 hown hK.1 hR injS hS (a := c) hc rfl (bS_5 hk) rfl 13 (by decide) lk59 (fun _ h9 => h9) rfl (by decide +kernel) rfl rfl (Nat.le_of_ble_eq_true rfl) (j := 13) (x := nI (10 * nLin c1 + nSta c1)) (by rw [bS_5 hk]; rfl) dX5_ride_23 (fun H locs hR hS => ?_)
  obtain ⟨X4, eX4⟩ : ∃ Y : gM, Y = updM X3 c 13 (nI (10 * nLin c1 + nSta c1)) := ⟨_, rfl⟩
  rw [← eX4] at hR
  refine lv_aload_n hx hb dX5_ride_26 rfl (lv_at hl 0 rfl) ?_
  refine va_get (D := D) (ci := 5) (v := .int (X4 c 8)) (C := RX5) (T := TX5) (N := 14) hx hb hts inX5 hown hK.1 (SR.mk1 hR (c := c) hc (bS_5 hk)) 0 rfl rfl 8 (by decide) lk44 (fun _ h9 => h9) rfl dX5_ride_27 ?_
  refine lv_bipush (v := (-5)) hx hb dX5_ride_30 (by decide) ?_
  refine lv_icmp_ne (tgt := 40) hx hb dX5_ride_32 (by decide) (fun c_1 => ?_) (fun c_1 => ?_)
  · exact gm_vret hx hb hr hlocks hS (by (try simp only [p_X5_ride, ↓if_neg c_1, ← eX1, ← eX2, ← eX3, ← eX4]); exact hR) dX5_ride_40
  · refine lv_aload_n hx hb dX5_ride_35 rfl (lv_at hl 0 rfl) ?_
    refine lv_iload_n hx hb dX5_ride_36 rfl (lv_at hl 3 rfl) ?_
    refine gm_put (v := .int a3) (ty := .int) (ci := 5) (C := RX5) (T := TX5) (N := 14) hx hb hts inX5 tyX5 tyX5_ok nmX5 hown hK.1 hR injS hS (a := c) hc rfl (bS_5 hk) rfl 8 (by decide) lk44 (fun _ h9 => h9) rfl (by decide +kernel) rfl rfl (Nat.le_of_ble_eq_true rfl) (j := 8) (x := a3) (by rw [bS_5 hk]; rfl) dX5_ride_37 (fun H locs hR hS => ?_)
    obtain ⟨X5, eX5⟩ : ∃ Y : gM, Y = updM X4 c 8 a3 := ⟨_, rfl⟩
    rw [← eX5] at hR
    exact gm_vret hx hb hr hlocks hS (by (try simp only [p_X5_ride, ↓if_pos c_1, ← eX1, ← eX2, ← eX3, ← eX4, ← eX5]); exact hR) dX5_ride_40
