/-! the cells of the reference: its object, and its arrays in the order in which they are made -/
def bodyM (cy : Nat → ClassId) (μ : Nat) : gB := fun c r =>
  if c = 0 then .inr (9, [.ref (μ + 1), .ref (μ + 2), .int (r 2), .ref (μ + 3), .int (r 4), .ref (μ + 4), .ref (μ + 5), .int (r 7), .int (r 8), .int (r 9), .int (r 10), .ref (μ + 6), .int (r 12), .int (r 13), .int (r 14)])
  else if c = 1 then .inl (cy 0, 974, .inl r) else if c = 2 then .inl (cy 0, 3896, .inl r) else if c = 3 then .inl (cy 0, 974, .inl r)
  else if c = 4 then .inl (cy 0, 974, .inl r) else if c = 5 then .inl (cy 1, 60, .inl r) else .inl (cy 0, 30, .inl r)
section LAYM
variable {cy : Nat → ClassId} {μ : Nat} {r : Nat → Int32}
theorem bM_0 : bodyM cy μ 0 r = .inr (9, [.ref (μ + 1), .ref (μ + 2), .int (r 2), .ref (μ + 3), .int (r 4), .ref (μ + 4), .ref (μ + 5), .int (r 7), .int (r 8), .int (r 9), .int (r 10), .ref (μ + 6), .int (r 12), .int (r 13), .int (r 14)]) := rfl
theorem bM_1 : bodyM cy μ 1 r = .inl (cy 0, 974, .inl r) := rfl
theorem bM_2 : bodyM cy μ 2 r = .inl (cy 0, 3896, .inl r) := rfl
theorem bM_3 : bodyM cy μ 3 r = .inl (cy 0, 974, .inl r) := rfl
theorem bM_4 : bodyM cy μ 4 r = .inl (cy 0, 974, .inl r) := rfl
theorem bM_5 : bodyM cy μ 5 r = .inl (cy 1, 60, .inl r) := rfl
theorem bM_6 : bodyM cy μ 6 r = .inl (cy 0, 30, .inl r) := rfl
end LAYM
theorem injM {μ : Nat} : gInj 7 (adS μ) := fun a b _ _ h => by simp only [adS] at h; omega
abbrev MR (D : va_G) (cy : Nat → ClassId) (μ : Nat) (X : gM) (H : Heap) : Prop := gRep D (bodyM cy μ) 7 (adS μ) X H
abbrev MA (μ : Nat) : Nat → Prop := gA 7 (adS μ)
theorem MR.mk1 {D : va_G} {cy : Nat → ClassId} {μ : Nat} {X : gM} {H : Heap} (h : MR D cy μ X H) {c : Nat} (hc : c < 7) {e : va_E} (he : bodyM cy μ c (X c) = e) : va_P D vwCl [(μ + c, e)] H := gRep.one h hc he
theorem MR.mk0 {D : va_G} {cy : Nat → ClassId} {μ : Nat} {X : gM} {H : Heap} (h : MR D cy μ X H) : va_P D vwCl [(μ, .inr (9, [.ref (μ + 1), .ref (μ + 2), .int (X 0 2), .ref (μ + 3), .int (X 0 4), .ref (μ + 4), .ref (μ + 5), .int (X 0 7), .int (X 0 8), .int (X 0 9), .int (X 0 10), .ref (μ + 6), .int (X 0 12), .int (X 0 13), .int (X 0 14)]))] H := MR.mk1 h (c := 0) (by decide) bM_0
def f_X9_in (a1 : Int32) (a2 : Int32) (a3 : Int32) : Int32 :=
  if a1 < a2 then
    0
  else
    if a3 < a1 then
      0
    else
      1
set_option maxHeartbeats 4000000 in
set_option maxRecDepth 100000 in
theorem c_X9_in (l : Launch) (D : va_G) (cy : Nat → ClassId) (a1 : Int32) (a2 : Int32) (a3 : Int32)  : Met l yX9_in wsX9_in ({ frames := 0, cells := 0, slots := 0, locals := 0 }) (gP [.int a1, .int a2, .int a3] D cy (fun _ => True)) (gQi (f_X9_in a1 a2 a3) (fun _ => True) gNo) 0 0 gNo := by
  refine gm_met (cc := cX9_in) (maxL := 3) (ret := (some .boolean)) [.int a1, .int a2, .int a3] (by decide) rfl (Nat.le_of_ble_eq_true rfl) ?_
  intro p e s m args below meth c0 ls C hR hl
  obtain ⟨hx, hb, hr, hts, hown, hlocks, hml, hK⟩ := C
  have hl : lv_has ls 3 [(0, .int a1), (1, .int a2), (2, .int a3)] := hl
  have hS : va_S gNo s.heap s.heap [] := va_S.rf
  refine lv_iload_n hx hb dX9_in_0 rfl (lv_at hl 0 rfl) ?_
  refine lv_iload_n hx hb dX9_in_1 rfl (lv_at hl 1 rfl) ?_
  refine lv_icmp_lt (tgt := 14) hx hb dX9_in_2 (by decide) (fun c_1 => ?_) (fun c_1 => ?_)
  · refine lv_iconst (v := 0) hx hb dX9_in_14 (by decide) ?_
    exact gm_zret hx hb hr hlocks rfl hS (by (try simp only [f_X9_in, ↓if_pos c_1]); (try rfl)) trivial dX9_in_15
  · refine lv_iload_n hx hb dX9_in_5 rfl (lv_at hl 0 rfl) ?_
    refine lv_iload_n hx hb dX9_in_6 rfl (lv_at hl 2 rfl) ?_
    refine lv_icmp_gt (tgt := 14) hx hb dX9_in_7 (by decide) (fun c_2 => ?_) (fun c_2 => ?_)
    · refine lv_iconst (v := 0) hx hb dX9_in_14 (by decide) ?_
      exact gm_zret hx hb hr hlocks rfl hS (by (try simp only [f_X9_in, ↓if_neg c_1, ↓if_pos c_2]); (try rfl)) trivial dX9_in_15
    · refine lv_iconst (v := 1) hx hb dX9_in_10 (by decide) ?_
      refine lv_goto (tgt := 15) hx hb dX9_in_11 (by decide) ?_
      exact gm_zret hx hb hr hlocks rfl hS (by (try simp only [f_X9_in, ↓if_neg c_1, ↓if_neg c_2]); (try rfl)) trivial dX9_in_15
theorem f_X9_in_b (a b c : Int32) : f_X9_in a b c = 0 ∨ f_X9_in a b c = 1 := by
  unfold f_X9_in
  split
  · exact Or.inl rfl
  · split
    · exact Or.inl rfl
    · exact Or.inr rfl
def f_X9_isLine (a1 : Int32) : Int32 :=
  f_X9_in a1 0 1
set_option maxHeartbeats 4000000 in
set_option maxRecDepth 100000 in
theorem c_X9_isLine (l : Launch) (D : va_G) (cy : Nat → ClassId) (a1 : Int32)  : Met l yX9_isLine wsX9_isLine ({ frames := 1, cells := 0, slots := 0, locals := 22 }) (gP [.int a1] D cy (fun _ => True)) (gQi (f_X9_isLine a1) (fun _ => True) gNo) 0 0 gNo := by
  refine gm_met (cc := cX9_isLine) (maxL := 1) (ret := (some .boolean)) [.int a1] (by decide) rfl (Nat.le_of_ble_eq_true rfl) ?_
  intro p e s m args below meth c0 ls C hR hl
  obtain ⟨hx, hb, hr, hts, hown, hlocks, hml, hK⟩ := C
  have hl : lv_has ls 1 [(0, .int a1)] := hl
  have hS : va_S gNo s.heap s.heap [] := va_S.rf
  refine lv_iload_n hx hb dX9_isLine_0 rfl (lv_at hl 0 rfl) ?_
  refine lv_iconst (v := 0) hx hb dX9_isLine_1 (by decide) ?_
  refine lv_iconst (v := 1) hx hb dX9_isLine_2 (by decide) ?_
  refine gm_ci (gm_callS (As := [.int a1, .int 0, .int 1]) (rest := []) ⟨hx, hb, hml, hown, hts⟩ hK (c_X9_in l D cy a1 0 1) (va_cwS 3 hts gX9_isLine_X9_in rfl rfl rfl (by decide +kernel) ⟨Nat.le_of_ble_eq_true rfl, Nat.le_of_ble_eq_true rfl⟩) trivial rfl hl.1 rfl (Nat.le_of_ble_eq_true rfl) dX9_isLine_3 (Nat.zero_le _) (Nat.zero_le _)) hS (fun _ h => h.elim) (fun H locs _ _ hfr hS => ?_)
  exact gm_zret hx hb hr hlocks (g_bool (f_X9_in_b _ _ _)) hS (by (try simp only [f_X9_isLine]); (try rfl)) trivial dX9_isLine_6
def f_X9_isWord (a1 : Int32) : Int32 :=
  f_X9_in a1 0 65535
set_option maxHeartbeats 4000000 in
set_option maxRecDepth 100000 in
theorem c_X9_isWord (l : Launch) (D : va_G) (cy : Nat → ClassId) (a1 : Int32)  : Met l yX9_isWord wsX9_isWord ({ frames := 1, cells := 0, slots := 0, locals := 22 }) (gP [.int a1] D cy (fun _ => True)) (gQi (f_X9_isWord a1) (fun _ => True) gNo) 0 0 gNo := by
  refine gm_met (cc := cX9_isWord) (maxL := 1) (ret := (some .boolean)) [.int a1] (by decide) rfl (Nat.le_of_ble_eq_true rfl) ?_
  intro p e s m args below meth c0 ls C hR hl
  obtain ⟨hx, hb, hr, hts, hown, hlocks, hml, hK⟩ := C
  have hl : lv_has ls 1 [(0, .int a1)] := hl
  have hS : va_S gNo s.heap s.heap [] := va_S.rf
  refine lv_iload_n hx hb dX9_isWord_0 rfl (lv_at hl 0 rfl) ?_
  refine lv_iconst (v := 0) hx hb dX9_isWord_1 (by decide) ?_
  refine lv_ldc (v := 65535) hx hb hown (hts (.constant RX9 41 65535) (by decide +kernel)) dX9_isWord_2 ?_
  refine gm_ci (gm_callS (As := [.int a1, .int 0, .int 65535]) (rest := []) ⟨hx, hb, hml, hown, hts⟩ hK (c_X9_in l D cy a1 0 65535) (va_cwS 3 hts gX9_isWord_X9_in rfl rfl rfl (by decide +kernel) ⟨Nat.le_of_ble_eq_true rfl, Nat.le_of_ble_eq_true rfl⟩) trivial rfl hl.1 rfl (Nat.le_of_ble_eq_true rfl) dX9_isWord_4 (Nat.zero_le _) (Nat.zero_le _)) hS (fun _ h => h.elim) (fun H locs _ _ hfr hS => ?_)
  exact gm_zret hx hb hr hlocks (g_bool (f_X9_in_b _ _ _)) hS (by (try simp only [f_X9_isWord]); (try rfl)) trivial dX9_isWord_7
def f_X9_stationAt (a1 : Int32) : Int32 :=
  74 + (10 * ((6 * (a1 / 10)) + (a1 - a1 / 10 * 10)))
set_option maxHeartbeats 4000000 in
set_option maxRecDepth 100000 in
theorem c_X9_stationAt (l : Launch) (D : va_G) (cy : Nat → ClassId) (a1 : Int32)  : Met l yX9_stationAt wsX9_stationAt ({ frames := 0, cells := 0, slots := 0, locals := 0 }) (gP [.int a1] D cy (fun _ => True)) (gQi (f_X9_stationAt a1) (fun _ => True) gNo) 0 0 gNo := by
  refine gm_met (cc := cX9_stationAt) (maxL := 1) (ret := (some .int)) [.int a1] (by decide) rfl (Nat.le_of_ble_eq_true rfl) ?_
  intro p e s m args below meth c0 ls C hR hl
  obtain ⟨hx, hb, hr, hts, hown, hlocks, hml, hK⟩ := C
  have hl : lv_has ls 1 [(0, .int a1)] := hl
  have hS : va_S gNo s.heap s.heap [] := va_S.rf
  refine lv_bipush (v := 74) hx hb dX9_stationAt_0 (by decide) ?_
  refine lv_bipush (v := 10) hx hb dX9_stationAt_2 (by decide) ?_
  refine lv_bipush (v := 6) hx hb dX9_stationAt_4 (by decide) ?_
  refine lv_iload_n hx hb dX9_stationAt_6 rfl (lv_at hl 0 rfl) ?_
  refine lv_bipush (v := 10) hx hb dX9_stationAt_7 (by decide) ?_
  refine lv_idiv hx hb dX9_stationAt_9 (by decide) ?_
  refine lv_imul hx hb dX9_stationAt_10 ?_
  refine lv_iload_n hx hb dX9_stationAt_11 rfl (lv_at hl 0 rfl) ?_
  refine lv_bipush (v := 10) hx hb dX9_stationAt_12 (by decide) ?_
  refine lv_irem hx hb dX9_stationAt_14 (by decide) ?_
  refine lv_iadd hx hb dX9_stationAt_15 ?_
  refine lv_imul hx hb dX9_stationAt_16 ?_
  refine lv_iadd hx hb dX9_stationAt_17 ?_
  exact gm_iret hx hb hr hlocks hS (by (try simp only [f_X9_stationAt]); (try rfl)) trivial dX9_stationAt_18
def f_X9_ofLine (X : gM) (a1 : Int32) (a2 : Int32) : Int32 :=
  X 1 (((10 + (8 * a1)) + a2).toNatClampNeg)
def ok_X9_ofLine (X : gM) (a1 : Int32) (a2 : Int32) : Prop :=
  (vp_in ((10 + (8 * a1)) + a2) 974) ∧
  True
set_option maxHeartbeats 4000000 in
set_option maxRecDepth 100000 in
theorem c_X9_ofLine (l : Launch) (D : va_G) (cy : Nat → ClassId) (μ : Nat) (X : gM) (a1 : Int32) (a2 : Int32)  (hok : ok_X9_ofLine X a1 a2) : Met l yX9_ofLine wsX9_ofLine ({ frames := 0, cells := 0, slots := 0, locals := 0 }) (gP [.ref μ, .int a1, .int a2] D cy (MR D cy μ X)) (gQi (f_X9_ofLine X a1 a2) (fun _ => True) gNo) 0 0 gNo := by
  refine gm_met (cc := cX9_ofLine) (maxL := 3) (ret := (some .int)) [.ref μ, .int a1, .int a2] (by decide) rfl (Nat.le_of_ble_eq_true rfl) ?_
  intro p e s m args below meth c0 ls C hR hl
  obtain ⟨hx, hb, hr, hts, hown, hlocks, hml, hK⟩ := C
  have hl : lv_has ls 3 [(0, .ref μ), (1, .int a1), (2, .int a2)] := hl
  have hS : va_S gNo s.heap s.heap [] := va_S.rf
  have lk7 := hts (.fieldLink RX9 7 "MercuryLineModel" "s" "[I") (by decide +kernel)
  have inX9 : ∀ w ∈ u_ws RX9 TX9 15, w ∈ wsX9_ofLine := by decide +kernel
  unfold ok_X9_ofLine at hok
  refine lv_aload_n hx hb dX9_ofLine_0 rfl (lv_at hl 0 rfl) ?_
  refine va_get (D := D) (ci := 9) (v := .ref (μ + 1)) (C := RX9) (T := TX9) (N := 15) hx hb hts inX9 hown hK.1 (MR.mk0 hR) 0 rfl rfl 0 (by decide) lk7 (fun _ h9 => h9) rfl dX9_ofLine_1 ?_
  refine lv_bipush (v := 10) hx hb dX9_ofLine_4 (by decide) ?_
  refine lv_bipush (v := 8) hx hb dX9_ofLine_6 (by decide) ?_
  refine lv_iload_n hx hb dX9_ofLine_8 rfl (lv_at hl 1 rfl) ?_
  refine lv_imul hx hb dX9_ofLine_9 ?_
  refine lv_iadd hx hb dX9_ofLine_10 ?_
  refine lv_iload_n hx hb dX9_ofLine_11 rfl (lv_at hl 2 rfl) ?_
  refine lv_iadd hx hb dX9_ofLine_12 ?_
  obtain ⟨h_1, hok⟩ := hok
  refine gm_iald hx hb hK.1 (MR.mk1 hR (c := 1) (by decide) bM_1) h_1 dX9_ofLine_13 ?_
  exact gm_iret hx hb hr hlocks hS (by (try simp only [f_X9_ofLine]); (try rfl)) trivial dX9_ofLine_14
def f_X9_seat (X : gM) (a1 : Int32) (a2 : Int32) : Int32 :=
  X 1 (((26 + (24 * a1)) + a2).toNatClampNeg)
def ok_X9_seat (X : gM) (a1 : Int32) (a2 : Int32) : Prop :=
  (vp_in ((26 + (24 * a1)) + a2) 974) ∧
  True
set_option maxHeartbeats 4000000 in
set_option maxRecDepth 100000 in
theorem c_X9_seat (l : Launch) (D : va_G) (cy : Nat → ClassId) (μ : Nat) (X : gM) (a1 : Int32) (a2 : Int32)  (hok : ok_X9_seat X a1 a2) : Met l yX9_seat wsX9_seat ({ frames := 0, cells := 0, slots := 0, locals := 0 }) (gP [.ref μ, .int a1, .int a2] D cy (MR D cy μ X)) (gQi (f_X9_seat X a1 a2) (fun _ => True) gNo) 0 0 gNo := by
  refine gm_met (cc := cX9_seat) (maxL := 3) (ret := (some .int)) [.ref μ, .int a1, .int a2] (by decide) rfl (Nat.le_of_ble_eq_true rfl) ?_
  intro p e s m args below meth c0 ls C hR hl
  obtain ⟨hx, hb, hr, hts, hown, hlocks, hml, hK⟩ := C
  have hl : lv_has ls 3 [(0, .ref μ), (1, .int a1), (2, .int a2)] := hl
  have hS : va_S gNo s.heap s.heap [] := va_S.rf
  have lk7 := hts (.fieldLink RX9 7 "MercuryLineModel" "s" "[I") (by decide +kernel)
  have inX9 : ∀ w ∈ u_ws RX9 TX9 15, w ∈ wsX9_seat := by decide +kernel
  unfold ok_X9_seat at hok
  refine lv_aload_n hx hb dX9_seat_0 rfl (lv_at hl 0 rfl) ?_
  refine va_get (D := D) (ci := 9) (v := .ref (μ + 1)) (C := RX9) (T := TX9) (N := 15) hx hb hts inX9 hown hK.1 (MR.mk0 hR) 0 rfl rfl 0 (by decide) lk7 (fun _ h9 => h9) rfl dX9_seat_1 ?_
  refine lv_bipush (v := 26) hx hb dX9_seat_4 (by decide) ?_
  refine lv_bipush (v := 24) hx hb dX9_seat_6 (by decide) ?_
  refine lv_iload_n hx hb dX9_seat_8 rfl (lv_at hl 1 rfl) ?_
  refine lv_imul hx hb dX9_seat_9 ?_
  refine lv_iadd hx hb dX9_seat_10 ?_
  refine lv_iload_n hx hb dX9_seat_11 rfl (lv_at hl 2 rfl) ?_
  refine lv_iadd hx hb dX9_seat_12 ?_
  obtain ⟨h_1, hok⟩ := hok
  refine gm_iald hx hb hK.1 (MR.mk1 hR (c := 1) (by decide) bM_1) h_1 dX9_seat_13 ?_
  exact gm_iret hx hb hr hlocks hS (by (try simp only [f_X9_seat]); (try rfl)) trivial dX9_seat_14
def f_X9_of (X : gM) (a1 : Int32) (a2 : Int32) : Int32 :=
  X 1 (((294 + (17 * a1)) + a2).toNatClampNeg)
def ok_X9_of (X : gM) (a1 : Int32) (a2 : Int32) : Prop :=
  (vp_in ((294 + (17 * a1)) + a2) 974) ∧
  True
set_option maxHeartbeats 4000000 in
set_option maxRecDepth 100000 in
theorem c_X9_of (l : Launch) (D : va_G) (cy : Nat → ClassId) (μ : Nat) (X : gM) (a1 : Int32) (a2 : Int32)  (hok : ok_X9_of X a1 a2) : Met l yX9_of wsX9_of ({ frames := 0, cells := 0, slots := 0, locals := 0 }) (gP [.ref μ, .int a1, .int a2] D cy (MR D cy μ X)) (gQi (f_X9_of X a1 a2) (fun _ => True) gNo) 0 0 gNo := by
  refine gm_met (cc := cX9_of) (maxL := 3) (ret := (some .int)) [.ref μ, .int a1, .int a2] (by decide) rfl (Nat.le_of_ble_eq_true rfl) ?_
  intro p e s m args below meth c0 ls C hR hl
  obtain ⟨hx, hb, hr, hts, hown, hlocks, hml, hK⟩ := C
  have hl : lv_has ls 3 [(0, .ref μ), (1, .int a1), (2, .int a2)] := hl
  have hS : va_S gNo s.heap s.heap [] := va_S.rf
  have lk7 := hts (.fieldLink RX9 7 "MercuryLineModel" "s" "[I") (by decide +kernel)
  have inX9 : ∀ w ∈ u_ws RX9 TX9 15, w ∈ wsX9_of := by decide +kernel
  unfold ok_X9_of at hok
  refine lv_aload_n hx hb dX9_of_0 rfl (lv_at hl 0 rfl) ?_
  refine va_get (D := D) (ci := 9) (v := .ref (μ + 1)) (C := RX9) (T := TX9) (N := 15) hx hb hts inX9 hown hK.1 (MR.mk0 hR) 0 rfl rfl 0 (by decide) lk7 (fun _ h9 => h9) rfl dX9_of_1 ?_
  refine lv_sipush (v := 294) hx hb dX9_of_4 (by decide) ?_
  refine lv_bipush (v := 17) hx hb dX9_of_7 (by decide) ?_
  refine lv_iload_n hx hb dX9_of_9 rfl (lv_at hl 1 rfl) ?_
  refine lv_imul hx hb dX9_of_10 ?_
  refine lv_iadd hx hb dX9_of_11 ?_
  refine lv_iload_n hx hb dX9_of_12 rfl (lv_at hl 2 rfl) ?_
  refine lv_iadd hx hb dX9_of_13 ?_
  obtain ⟨h_1, hok⟩ := hok
  refine gm_iald hx hb hK.1 (MR.mk1 hR (c := 1) (by decide) bM_1) h_1 dX9_of_14 ?_
  exact gm_iret hx hb hr hlocks hS (by (try simp only [f_X9_of]); (try rfl)) trivial dX9_of_15
def p_X9_put (X : gM) (a1 : Int32) (a2 : Int32) (a3 : Int32) : gM :=
  let X1 := updM X 1 (((294 + (17 * a1)) + a2).toNatClampNeg) a3
  X1
def ok_X9_put (X : gM) (a1 : Int32) (a2 : Int32) (a3 : Int32) : Prop :=
  (vp_in ((294 + (17 * a1)) + a2) 974) ∧
  True
set_option maxHeartbeats 4000000 in
set_option maxRecDepth 100000 in
theorem c_X9_put (l : Launch) (D : va_G) (cy : Nat → ClassId) (μ : Nat) (X : gM) (a1 : Int32) (a2 : Int32) (a3 : Int32)  (hok : ok_X9_put X a1 a2 a3) : Met l yX9_put wsX9_put ({ frames := 0, cells := 0, slots := 0, locals := 0 }) (gP [.ref μ, .int a1, .int a2, .int a3] D cy (MR D cy μ X)) (gQv (MR D cy μ (p_X9_put X a1 a2 a3)) (MA μ)) 0 0 (MA μ) := by
  refine gm_met (cc := cX9_put) (maxL := 4) (ret := none) [.ref μ, .int a1, .int a2, .int a3] (by decide) rfl (Nat.le_of_ble_eq_true rfl) ?_
  intro p e s m args below meth c0 ls C hR hl
  obtain ⟨hx, hb, hr, hts, hown, hlocks, hml, hK⟩ := C
  have hl : lv_has ls 4 [(0, .ref μ), (1, .int a1), (2, .int a2), (3, .int a3)] := hl
  have hS : va_S (MA μ) s.heap s.heap [] := va_S.rf
  have lk7 := hts (.fieldLink RX9 7 "MercuryLineModel" "s" "[I") (by decide +kernel)
  have inX9 : ∀ w ∈ u_ws RX9 TX9 15, w ∈ wsX9_put := by decide +kernel
  unfold ok_X9_put at hok
  refine lv_aload_n hx hb dX9_put_0 rfl (lv_at hl 0 rfl) ?_
  refine va_get (D := D) (ci := 9) (v := .ref (μ + 1)) (C := RX9) (T := TX9) (N := 15) hx hb hts inX9 hown hK.1 (MR.mk0 hR) 0 rfl rfl 0 (by decide) lk7 (fun _ h9 => h9) rfl dX9_put_1 ?_
  refine lv_sipush (v := 294) hx hb dX9_put_4 (by decide) ?_
  refine lv_bipush (v := 17) hx hb dX9_put_7 (by decide) ?_
  refine lv_iload_n hx hb dX9_put_9 rfl (lv_at hl 1 rfl) ?_
  refine lv_imul hx hb dX9_put_10 ?_
  refine lv_iadd hx hb dX9_put_11 ?_
  refine lv_iload_n hx hb dX9_put_12 rfl (lv_at hl 2 rfl) ?_
  refine lv_iadd hx hb dX9_put_13 ?_
  refine lv_iload_n hx hb dX9_put_14 rfl (lv_at hl 3 rfl) ?_
  obtain ⟨h_1, hok⟩ := hok
  refine gm_iast hx hb hK.1 hR injM hS (a := 1) (by decide) rfl (fun r => bM_1) h_1 dX9_put_15 (fun H locs hR hS => ?_)
  obtain ⟨X1, eX1⟩ : ∃ Y : gM, Y = updM X 1 (((294 + (17 * a1)) + a2).toNatClampNeg) a3 := ⟨_, rfl⟩
  rw [← eX1] at hR
  try replace hok := hok X1 eX1
  exact gm_vret hx hb hr hlocks hS (by (try simp only [p_X9_put, ← eX1]); exact hR) dX9_put_16
def f_X9_isStation (X : gM) (a1 : Int32) : Int32 :=
  if f_X9_in a1 0 19 = 0 then
    0
  else
    if f_X9_ofLine X (a1 / 10) 4 ≤ a1 - a1 / 10 * 10 then
      0
    else
      1
def ok_X9_isStation (X : gM) (a1 : Int32) : Prop :=
  (if f_X9_in a1 0 19 = 0 then
    True
  else
    (ok_X9_ofLine X (a1 / 10) 4) ∧
    True)
set_option maxHeartbeats 4000000 in
set_option maxRecDepth 100000 in
theorem c_X9_isStation (l : Launch) (D : va_G) (cy : Nat → ClassId) (μ : Nat) (X : gM) (a1 : Int32)  (hok : ok_X9_isStation X a1) : Met l yX9_isStation wsX9_isStation ({ frames := 1, cells := 0, slots := 0, locals := 22 }) (gP [.ref μ, .int a1] D cy (MR D cy μ X)) (gQi (f_X9_isStation X a1) (fun _ => True) gNo) 0 0 gNo := by
  refine gm_met (cc := cX9_isStation) (maxL := 2) (ret := (some .boolean)) [.ref μ, .int a1] (by decide) rfl (Nat.le_of_ble_eq_true rfl) ?_
  intro p e s m args below meth c0 ls C hR hl
  obtain ⟨hx, hb, hr, hts, hown, hlocks, hml, hK⟩ := C
  have hl : lv_has ls 2 [(0, .ref μ), (1, .int a1)] := hl
  have hS : va_S gNo s.heap s.heap [] := va_S.rf
  unfold ok_X9_isStation at hok
  refine lv_iload_n hx hb dX9_isStation_0 rfl (lv_at hl 1 rfl) ?_
  refine lv_iconst (v := 0) hx hb dX9_isStation_1 (by decide) ?_
  refine lv_bipush (v := 19) hx hb dX9_isStation_2 (by decide) ?_
  refine gm_ci (gm_callS (As := [.int a1, .int 0, .int 19]) (rest := []) ⟨hx, hb, hml, hown, hts⟩ hK (c_X9_in l D cy a1 0 19) (va_cwS 3 hts gX9_isStation_X9_in rfl rfl rfl (by decide +kernel) ⟨Nat.le_of_ble_eq_true rfl, Nat.le_of_ble_eq_true rfl⟩) trivial rfl hl.1 rfl (Nat.le_of_ble_eq_true rfl) dX9_isStation_4 (Nat.zero_le _) (Nat.zero_le _)) hS (fun _ h => h.elim) (fun H locs _ _ hfr hS => ?_)
  have hR := gRep.keep hR hfr (fun _ _ h => h)
  refine lv_if_eq (tgt := 30) hx hb dX9_isStation_7 (by decide) (fun c_1 => ?_) (fun c_1 => ?_)
  · try rw [if_pos c_1] at hok
    refine lv_iconst (v := 0) hx hb dX9_isStation_30 (by decide) ?_
    exact gm_zret hx hb hr hlocks rfl hS (by (try simp only [f_X9_isStation, ↓if_pos c_1]); (try rfl)) trivial dX9_isStation_31
  · try rw [if_neg c_1] at hok
    refine lv_iload_n hx hb dX9_isStation_10 rfl (lv_at hl 1 rfl) ?_
    refine lv_bipush (v := 10) hx hb dX9_isStation_11 (by decide) ?_
    refine lv_irem hx hb dX9_isStation_13 (by decide) ?_
    refine lv_aload_n hx hb dX9_isStation_14 rfl (lv_at hl 0 rfl) ?_
    refine lv_iload_n hx hb dX9_isStation_15 rfl (lv_at hl 1 rfl) ?_
    refine lv_bipush (v := 10) hx hb dX9_isStation_16 (by decide) ?_
    refine lv_idiv hx hb dX9_isStation_18 (by decide) ?_
    refine lv_iconst (v := 4) hx hb dX9_isStation_19 (by decide) ?_
    obtain ⟨h_2, hok⟩ := hok
    refine gm_ci (gm_call (As := [.int (a1 / 10), .int 4]) (rest := [.int (a1 - a1 / 10 * 10)]) (ci := 9) (q := (RX9, TX9, 15)) ⟨hx, hb, hml, hown, hts⟩ hK (c_X9_ofLine l D cy μ X (a1 / 10) 4 h_2) (cwV 2 hts gX9_isStation_X9_ofLine rfl rfl rfl (by decide +kernel) ⟨Nat.le_of_ble_eq_true rfl, Nat.le_of_ble_eq_true rfl⟩) (MR.mk0 hR) rfl hR rfl hl.1 rfl (Nat.le_of_ble_eq_true rfl) dX9_isStation_20 (Nat.zero_le _) (Nat.zero_le _)) hS (fun _ h => h.elim) (fun H locs _ _ hfr hS => ?_)
    have hR := gRep.keep hR hfr (fun _ _ h => h)
    refine lv_icmp_ge (tgt := 30) hx hb dX9_isStation_23 (by decide) (fun c_3 => ?_) (fun c_3 => ?_)
    · try rw [if_pos c_3] at hok
      refine lv_iconst (v := 0) hx hb dX9_isStation_30 (by decide) ?_
      exact gm_zret hx hb hr hlocks rfl hS (by (try simp only [f_X9_isStation, ↓if_neg c_1, ↓if_pos c_3]); (try rfl)) trivial dX9_isStation_31
    · try rw [if_neg c_3] at hok
      refine lv_iconst (v := 1) hx hb dX9_isStation_26 (by decide) ?_
      refine lv_goto (tgt := 31) hx hb dX9_isStation_27 (by decide) ?_
      exact gm_zret hx hb hr hlocks rfl hS (by (try simp only [f_X9_isStation, ↓if_neg c_1, ↓if_neg c_3]); (try rfl)) trivial dX9_isStation_31
def f_X9_isTicket (X : gM) (a1 : Int32) : Int32 :=
  f_X9_in a1 0 ((X 1 1) - 1)
set_option maxHeartbeats 4000000 in
set_option maxRecDepth 100000 in
theorem c_X9_isTicket (l : Launch) (D : va_G) (cy : Nat → ClassId) (μ : Nat) (X : gM) (a1 : Int32)  : Met l yX9_isTicket wsX9_isTicket ({ frames := 1, cells := 0, slots := 0, locals := 22 }) (gP [.ref μ, .int a1] D cy (MR D cy μ X)) (gQi (f_X9_isTicket X a1) (fun _ => True) gNo) 0 0 gNo := by
  refine gm_met (cc := cX9_isTicket) (maxL := 2) (ret := (some .boolean)) [.ref μ, .int a1] (by decide) rfl (Nat.le_of_ble_eq_true rfl) ?_
  intro p e s m args below meth c0 ls C hR hl
  obtain ⟨hx, hb, hr, hts, hown, hlocks, hml, hK⟩ := C
  have hl : lv_has ls 2 [(0, .ref μ), (1, .int a1)] := hl
  have hS : va_S gNo s.heap s.heap [] := va_S.rf
  have lk7 := hts (.fieldLink RX9 7 "MercuryLineModel" "s" "[I") (by decide +kernel)
  have inX9 : ∀ w ∈ u_ws RX9 TX9 15, w ∈ wsX9_isTicket := by decide +kernel
  have hok : True := trivial
  refine lv_iload_n hx hb dX9_isTicket_0 rfl (lv_at hl 1 rfl) ?_
  refine lv_iconst (v := 0) hx hb dX9_isTicket_1 (by decide) ?_
  refine lv_aload_n hx hb dX9_isTicket_2 rfl (lv_at hl 0 rfl) ?_
  refine va_get (D := D) (ci := 9) (v := .ref (μ + 1)) (C := RX9) (T := TX9) (N := 15) hx hb hts inX9 hown hK.1 (MR.mk0 hR) 0 rfl rfl 0 (by decide) lk7 (fun _ h9 => h9) rfl dX9_isTicket_3 ?_
  refine lv_iconst (v := 1) hx hb dX9_isTicket_6 (by decide) ?_
  refine gm_iald hx hb hK.1 (MR.mk1 hR (c := 1) (by decide) bM_1) (vp_in_iff.mpr (by decide)) dX9_isTicket_7 ?_
  rw [show (1 : Int32).toNatClampNeg = 1 from by decide]
  refine lv_iconst (v := 1) hx hb dX9_isTicket_8 (by decide) ?_
  refine lv_isub hx hb dX9_isTicket_9 ?_
  refine gm_ci (gm_callS (As := [.int a1, .int 0, .int ((X 1 1) - 1)]) (rest := []) ⟨hx, hb, hml, hown, hts⟩ hK (c_X9_in l D cy a1 0 ((X 1 1) - 1)) (va_cwS 3 hts gX9_isTicket_X9_in rfl rfl rfl (by decide +kernel) ⟨Nat.le_of_ble_eq_true rfl, Nat.le_of_ble_eq_true rfl⟩) trivial rfl hl.1 rfl (Nat.le_of_ble_eq_true rfl) dX9_isTicket_10 (Nat.zero_le _) (Nat.zero_le _)) hS (fun _ h => h.elim) (fun H locs _ _ hfr hS => ?_)
  have hR := gRep.keep hR hfr (fun _ _ h => h)
  exact gm_zret hx hb hr hlocks (g_bool (f_X9_in_b _ _ _)) hS (by (try simp only [f_X9_isTicket]); (try rfl)) trivial dX9_isTicket_13
def f_X9_isOrder (X : gM) (a1 : Int32) : Int32 :=
  f_X9_in a1 0 ((X 1 2) - 1)
set_option maxHeartbeats 4000000 in
set_option maxRecDepth 100000 in
theorem c_X9_isOrder (l : Launch) (D : va_G) (cy : Nat → ClassId) (μ : Nat) (X : gM) (a1 : Int32)  : Met l yX9_isOrder wsX9_isOrder ({ frames := 1, cells := 0, slots := 0, locals := 22 }) (gP [.ref μ, .int a1] D cy (MR D cy μ X)) (gQi (f_X9_isOrder X a1) (fun _ => True) gNo) 0 0 gNo := by
  refine gm_met (cc := cX9_isOrder) (maxL := 2) (ret := (some .boolean)) [.ref μ, .int a1] (by decide) rfl (Nat.le_of_ble_eq_true rfl) ?_
  intro p e s m args below meth c0 ls C hR hl
  obtain ⟨hx, hb, hr, hts, hown, hlocks, hml, hK⟩ := C
  have hl : lv_has ls 2 [(0, .ref μ), (1, .int a1)] := hl
  have hS : va_S gNo s.heap s.heap [] := va_S.rf
  have lk7 := hts (.fieldLink RX9 7 "MercuryLineModel" "s" "[I") (by decide +kernel)
  have inX9 : ∀ w ∈ u_ws RX9 TX9 15, w ∈ wsX9_isOrder := by decide +kernel
  have hok : True := trivial
  refine lv_iload_n hx hb dX9_isOrder_0 rfl (lv_at hl 1 rfl) ?_
  refine lv_iconst (v := 0) hx hb dX9_isOrder_1 (by decide) ?_
  refine lv_aload_n hx hb dX9_isOrder_2 rfl (lv_at hl 0 rfl) ?_
  refine va_get (D := D) (ci := 9) (v := .ref (μ + 1)) (C := RX9) (T := TX9) (N := 15) hx hb hts inX9 hown hK.1 (MR.mk0 hR) 0 rfl rfl 0 (by decide) lk7 (fun _ h9 => h9) rfl dX9_isOrder_3 ?_
  refine lv_iconst (v := 2) hx hb dX9_isOrder_6 (by decide) ?_
  refine gm_iald hx hb hK.1 (MR.mk1 hR (c := 1) (by decide) bM_1) (vp_in_iff.mpr (by decide)) dX9_isOrder_7 ?_
  rw [show (2 : Int32).toNatClampNeg = 2 from by decide]
  refine lv_iconst (v := 1) hx hb dX9_isOrder_8 (by decide) ?_
  refine lv_isub hx hb dX9_isOrder_9 ?_
  refine gm_ci (gm_callS (As := [.int a1, .int 0, .int ((X 1 2) - 1)]) (rest := []) ⟨hx, hb, hml, hown, hts⟩ hK (c_X9_in l D cy a1 0 ((X 1 2) - 1)) (va_cwS 3 hts gX9_isOrder_X9_in rfl rfl rfl (by decide +kernel) ⟨Nat.le_of_ble_eq_true rfl, Nat.le_of_ble_eq_true rfl⟩) trivial rfl hl.1 rfl (Nat.le_of_ble_eq_true rfl) dX9_isOrder_10 (Nat.zero_le _) (Nat.zero_le _)) hS (fun _ h => h.elim) (fun H locs _ _ hfr hS => ?_)
  have hR := gRep.keep hR hfr (fun _ _ h => h)
  exact gm_zret hx hb hr hlocks (g_bool (f_X9_in_b _ _ _)) hS (by (try simp only [f_X9_isOrder]); (try rfl)) trivial dX9_isOrder_13
