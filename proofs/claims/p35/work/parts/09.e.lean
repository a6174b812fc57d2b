/-! a ticket of the text: both sides -/
def rt8 (X Z : gM) : gM := updM (updM (p_X9_digit Z 1 9).2 6 (((5 * (X 0 12)) + 4).toNatClampNeg) ((p_X9_digit Z 1 9).1)) 0 12 ((updM (p_X9_digit Z 1 9).2 6 (((5 * (X 0 12)) + 4).toNatClampNeg) ((p_X9_digit Z 1 9).1) 0 12) + 1)
def rt7 (X Z : gM) : gM := rt8 X (p_X9_takes Z 42)
def rt6 (X Z : gM) : gM := rt7 X (updM (p_X9_readStation Z).2 6 (((5 * (X 0 12)) + 3).toNatClampNeg) ((p_X9_readStation Z).1))
def rt5 (X Z : gM) : gM := rt6 X (p_X9_takes Z 62)
def rt4 (X Z : gM) : gM := rt5 X (updM (p_X9_readStation Z).2 6 (((5 * (X 0 12)) + 2).toNatClampNeg) ((p_X9_readStation Z).1))
def rt3 (X Z : gM) : gM := rt4 X (p_X9_takes Z 44)
def rt2 (X Z : gM) : gM := rt3 X (updM (p_X9_digit Z 1 3).2 6 (((5 * (X 0 12)) + 1).toNatClampNeg) ((p_X9_digit Z 1 3).1))
def rt1 (X Z : gM) : gM := rt2 X (p_X9_takes Z 44)
theorem rt_eq {X : gM} : p_X9_readTicket X = rt1 X (updM (p_X9_readValue X).2 6 ((5 * (X 0 12)).toNatClampNeg) ((p_X9_readValue X).1)) := rfl
def okt8 (X Z : gM) : Prop := (ok_X9_digit Z 1 9) ∧ ∀ X13 : gM, X13 = (p_X9_digit Z 1 9).2 → (vp_in ((5 * (X 0 12)) + 4) 30) ∧ True
def okt7 (X Z : gM) : Prop := (ok_X9_takes Z 42) ∧ ∀ X12 : gM, X12 = p_X9_takes Z 42 → okt8 X X12
def okt6 (X Z : gM) : Prop := (ok_X9_readStation Z) ∧ ∀ X10 : gM, X10 = (p_X9_readStation Z).2 → (vp_in ((5 * (X 0 12)) + 3) 30) ∧ ∀ X11 : gM, X11 = updM X10 6 (((5 * (X 0 12)) + 3).toNatClampNeg) ((p_X9_readStation Z).1) → okt7 X X11
def okt5 (X Z : gM) : Prop := (ok_X9_takes Z 62) ∧ ∀ X9 : gM, X9 = p_X9_takes Z 62 → okt6 X X9
def okt4 (X Z : gM) : Prop := (ok_X9_readStation Z) ∧ ∀ X7 : gM, X7 = (p_X9_readStation Z).2 → (vp_in ((5 * (X 0 12)) + 2) 30) ∧ ∀ X8 : gM, X8 = updM X7 6 (((5 * (X 0 12)) + 2).toNatClampNeg) ((p_X9_readStation Z).1) → okt5 X X8
def okt3 (X Z : gM) : Prop := (ok_X9_takes Z 44) ∧ ∀ X6 : gM, X6 = p_X9_takes Z 44 → okt4 X X6
def okt2 (X Z : gM) : Prop := (ok_X9_digit Z 1 3) ∧ ∀ X4 : gM, X4 = (p_X9_digit Z 1 3).2 → (vp_in ((5 * (X 0 12)) + 1) 30) ∧ ∀ X5 : gM, X5 = updM X4 6 (((5 * (X 0 12)) + 1).toNatClampNeg) ((p_X9_digit Z 1 3).1) → okt3 X X5
def okt1 (X Z : gM) : Prop := (ok_X9_takes Z 44) ∧ ∀ X3 : gM, X3 = p_X9_takes Z 44 → okt2 X X3
theorem okt_eq {X : gM} (h1 : ok_X9_readValue X) (h2 : vp_in (5 * (X 0 12)) 30) (h3 : okt1 X (updM (p_X9_readValue X).2 6 ((5 * (X 0 12)).toNatClampNeg) ((p_X9_readValue X).1))) : ok_X9_readTicket X := ⟨h1, fun X1 e1 => by subst e1; exact ⟨h2, fun X2 e2 => by subst e2; exact h3⟩⟩
/-- the reference's own cells alone have changed -/
def FA (Z Z' : gM) : Prop := (∀ a, a ≠ 0 → a ≠ 6 → Z' a = Z a) ∧ ∀ j, j ≠ 9 → j ≠ 10 → j ≠ 12 → Z' 0 j = Z 0 j
theorem FA.tr {Z Z1 Z2 : gM} (h : FA Z Z1) (g : FA Z1 Z2) : FA Z Z2 := ⟨fun a h1 h2 => by rw [g.1 a h1 h2, h.1 a h1 h2], fun j h1 h2 h3 => by rw [g.2 j h1 h2 h3, h.2 j h1 h2 h3]⟩
theorem FQ.fa {Z Z' : gM} (h : FQ Z Z') : FA Z Z' := ⟨fun a h1 _ => h.1 a h1, fun j h1 h2 _ => h.2 j h1 h2⟩
theorem FA.u6 {Z : gM} {i : Nat} {v : Int32} : FA Z (updM Z 6 i v) := ⟨fun a _ h2 => updM_o h2, fun j _ _ _ => updM_n (by decide)⟩
theorem FA.u12 {Z : gM} {v : Int32} : FA Z (updM Z 0 12 v) := ⟨fun a h1 _ => updM_o h1, fun j _ _ h3 => updM_sn h3⟩
def xS (c j : Nat) (v : Int32) (W : gM) (T : gM → Int32 × gM) : Int32 × gM := if updM W c j v c j < 0 then (0, updM W c j v) else T (updM W c j v)
def xA (a : Int32) (W : gM) (T : gM → Int32 × gM) : Int32 × gM := if (p_X6_accept W a).1 = 0 then (0, (p_X6_accept W a).2) else T (p_X6_accept W a).2
def xt8 (c : Nat) (W : gM) : Int32 × gM := xS c 4 (p_X6_readDigit W 1 9).1 (p_X6_readDigit W 1 9).2 (fun V => (1, V))
def xt7 (c : Nat) (W : gM) : Int32 × gM := xA 42 W (xt8 c)
def xt6 (c : Nat) (W : gM) : Int32 × gM := xS c 3 (p_X6_readStation W).1 (p_X6_readStation W).2 (xt7 c)
def xt5 (c : Nat) (W : gM) : Int32 × gM := xA 62 W (xt6 c)
def xt4 (c : Nat) (W : gM) : Int32 × gM := xS c 2 (p_X6_readStation W).1 (p_X6_readStation W).2 (xt5 c)
def xt3 (c : Nat) (W : gM) : Int32 × gM := xA 44 W (xt4 c)
def xt2 (c : Nat) (W : gM) : Int32 × gM := xS c 1 (p_X6_readDigit W 1 3).1 (p_X6_readDigit W 1 3).2 (xt3 c)
def xt1 (c : Nat) (W : gM) : Int32 × gM := xA 44 W (xt2 c)
theorem xt_eq {W : gM} {c : Nat} : p_X6_readTrip W c = xS c 0 (p_X6_readValue W).1 (p_X6_readValue W).2 (xt1 c) := rfl
theorem xS_n {c j : Nat} {v : Int32} {W : gM} {T : gM → Int32 × gM} (h : v < 0) : xS c j v W T = (0, updM W c j v) := by
  unfold xS
  rw [updM_ss, if_pos h]
theorem xS_p {c j : Nat} {v : Int32} {W : gM} {T : gM → Int32 × gM} (h : ¬ v < 0) : xS c j v W T = T (updM W c j v) := by
  unfold xS
  rw [updM_ss, if_neg h]
theorem xA_n {a : Int32} {W : gM} {T : gM → Int32 × gM} (h : (p_X6_accept W a).1 = 0) : xA a W T = (0, (p_X6_accept W a).2) := if_pos h
theorem xA_p {a : Int32} {W : gM} {T : gM → Int32 × gM} (h : (p_X6_accept W a).1 = 1) : xA a W T = T (p_X6_accept W a).2 := if_neg (by rw [h]; decide)
section TICK5
variable {W0 Z0 W W' Z Z' X : gM} {n p p' m j : Nat}
theorem WR.u6 {i : Nat} {v : Int32} (h : WR Z n p) : WR (updM Z 6 i v) n p := by
  obtain ⟨a, b, c, d⟩ := h
  exact ⟨by rw [updM_n (by decide), a], by rw [updM_n (by decide), b], by rw [updM_n (by decide), c], d⟩
theorem WR.u12 {v : Int32} (h : WR Z n p) : WR (updM Z 0 12 v) n p := by
  obtain ⟨a, b, c, d⟩ := h
  exact ⟨by rw [updM_sn (by decide), a], by rw [updM_sn (by decide), b], by rw [updM_sn (by decide), c], d⟩
theorem v30 (hX : X 0 12 = nI m) (hm : m ≤ 5) {w : Nat} (hw : w < 5) : vp_in ((5 * (X 0 12)) + nI w) 30 ∧ ((5 * (X 0 12)) + nI w).toNatClampNeg = 5 * m + w := by
  rw [hX]
  show vp_in ((nI 5 * nI m) + nI w) 30 ∧ ((nI 5 * nI m) + nI w).toNatClampNeg = 5 * m + w
  rw [nI_mul, nI_add, c1 (by omega)]
  exact ⟨vp_in_nI (by omega) (by decide), rfl⟩
theorem w8 (hX : X 0 12 = nI m) (hm : m ≤ 5) (h : WR Z n p) : WR (rt8 X Z) n p ∧ FA Z (rt8 X Z) ∧ okt8 X Z := by
  obtain ⟨b1, b2, b3, b4⟩ := digit_wr h 1 9
  exact ⟨b2.u6.u12, b3.fa.tr (FA.u6.tr FA.u12), b4, fun _ _ => ⟨(v30 hX hm (w := 4) (by decide)).1, trivial⟩⟩
theorem w7 (hX : X 0 12 = nI m) (hm : m ≤ 5) (h : WR Z n p) : WR (rt7 X Z) n p ∧ FA Z (rt7 X Z) ∧ okt7 X Z := by
  obtain ⟨b1, b2, b3⟩ := takes_wr h 42
  obtain ⟨c1', c2', c3'⟩ := w8 hX hm b1
  exact ⟨c1', b2.fa.tr c2', b3, fun X1 e => by rw [e]; exact c3'⟩
theorem w6 (hX : X 0 12 = nI m) (hm : m ≤ 5) (h : WR Z n p) : WR (rt6 X Z) n p ∧ FA Z (rt6 X Z) ∧ okt6 X Z := by
  obtain ⟨b1, b2, b3⟩ := station_wr h
  obtain ⟨c1', c2', c3'⟩ := w7 hX hm (b1.u6 (i := ((5 * (X 0 12)) + 3).toNatClampNeg) (v := (p_X9_readStation Z).1))
  exact ⟨c1', b2.fa.tr (FA.u6.tr c2'), b3, fun X1 e => ⟨(v30 hX hm (w := 3) (by decide)).1, fun X2 e2 => by rw [e2, e]; exact c3'⟩⟩
theorem w5 (hX : X 0 12 = nI m) (hm : m ≤ 5) (h : WR Z n p) : WR (rt5 X Z) n p ∧ FA Z (rt5 X Z) ∧ okt5 X Z := by
  obtain ⟨b1, b2, b3⟩ := takes_wr h 62
  obtain ⟨c1', c2', c3'⟩ := w6 hX hm b1
  exact ⟨c1', b2.fa.tr c2', b3, fun X1 e => by rw [e]; exact c3'⟩
theorem w4 (hX : X 0 12 = nI m) (hm : m ≤ 5) (h : WR Z n p) : WR (rt4 X Z) n p ∧ FA Z (rt4 X Z) ∧ okt4 X Z := by
  obtain ⟨b1, b2, b3⟩ := station_wr h
  obtain ⟨c1', c2', c3'⟩ := w5 hX hm (b1.u6 (i := ((5 * (X 0 12)) + 2).toNatClampNeg) (v := (p_X9_readStation Z).1))
  exact ⟨c1', b2.fa.tr (FA.u6.tr c2'), b3, fun X1 e => ⟨(v30 hX hm (w := 2) (by decide)).1, fun X2 e2 => by rw [e2, e]; exact c3'⟩⟩
theorem w3 (hX : X 0 12 = nI m) (hm : m ≤ 5) (h : WR Z n p) : WR (rt3 X Z) n p ∧ FA Z (rt3 X Z) ∧ okt3 X Z := by
  obtain ⟨b1, b2, b3⟩ := takes_wr h 44
  obtain ⟨c1', c2', c3'⟩ := w4 hX hm b1
  exact ⟨c1', b2.fa.tr c2', b3, fun X1 e => by rw [e]; exact c3'⟩
theorem w2 (hX : X 0 12 = nI m) (hm : m ≤ 5) (h : WR Z n p) : WR (rt2 X Z) n p ∧ FA Z (rt2 X Z) ∧ okt2 X Z := by
  obtain ⟨b0, b1, b2, b3⟩ := digit_wr h 1 3
  obtain ⟨c1', c2', c3'⟩ := w3 hX hm (b1.u6 (i := ((5 * (X 0 12)) + 1).toNatClampNeg) (v := (p_X9_digit Z 1 3).1))
  exact ⟨c1', b2.fa.tr (FA.u6.tr c2'), b3, fun X1 e => ⟨(v30 hX hm (w := 1) (by decide)).1, fun X2 e2 => by rw [e2, e]; exact c3'⟩⟩
theorem w1 (hX : X 0 12 = nI m) (hm : m ≤ 5) (h : WR Z n p) : WR (rt1 X Z) n p ∧ FA Z (rt1 X Z) ∧ okt1 X Z := by
  obtain ⟨b1, b2, b3⟩ := takes_wr h 44
  obtain ⟨c1', c2', c3'⟩ := w2 hX hm b1
  exact ⟨c1', b2.fa.tr c2', b3, fun X1 e => by rw [e]; exact c3'⟩
/-- midway through a ticket: j numbers stand -/
def TT (W0 Z0 W Z : gM) (n p m j : Nat) : Prop := TP W Z n p m ∧ (∀ i, i < j → W (3 + m) i = Z 6 (5 * m + i)) ∧ (∀ a, a ≠ 0 → a ≠ 3 + m → W a = W0 a) ∧ (∀ q, q ≠ 4 → W 0 q = W0 0 q) ∧ (∀ a, a ≠ 0 → a ≠ 6 → Z a = Z0 a) ∧ (∀ q, q ≠ 9 → q ≠ 10 → Z 0 q = Z0 0 q) ∧ (∀ i, (i < 5 * m ∨ 5 * m + 5 ≤ i) → Z 6 i = Z0 6 i)
theorem TT.prim (h : TT W0 Z0 W Z n p m j) (fc : FC W W') (fq : FQ Z Z') (ht : TP W' Z' n p' m) : TT W0 Z0 W' Z' n p' m j := by
  obtain ⟨a1, a2, a3, a4, a5, a6, a7⟩ := h
  exact ⟨ht, fun i hi => by rw [fc.1 _ (by omega), fq.1 6 (by decide), a2 i hi], fun a h1 h2 => by rw [fc.1 a h1, a3 a h1 h2], fun q hq => by rw [fc.2 q hq, a4 q hq], fun a h1 h2 => by rw [fq.1 a h1, a5 a h1 h2], fun q h1 h2 => by rw [fq.2 q h1 h2, a6 q h1 h2], fun i hi => by rw [fq.1 6 (by decide), a7 i hi]⟩
theorem TP.wz (h : TP W Z n p m) {i k : Nat} {v : Int32} : TP (updM W (3 + m) i v) (updM Z 6 k v) n p m := by
  obtain ⟨a1, a2, a3, a4, a5, a6, a7, a8, a9⟩ := h
  exact ⟨by rw [updM_n (by omega), a1], by rw [updM_n (by omega), a2], a3, a4, fun q hq => by rw [updM_n (by omega), updM_n (by decide), a5 q hq], by rw [updM_n (by decide), a6], by rw [updM_n (by decide), a7], by rw [updM_n (by decide), a8], by rw [updM_n (by decide), a9]⟩
theorem TT.put (h : TT W0 Z0 W Z n p m j) (hj : j < 5) {v : Int32} : TT W0 Z0 (updM W (3 + m) j v) (updM Z 6 (5 * m + j) v) n p m (j + 1) := by
  obtain ⟨a1, a2, a3, a4, a5, a6, a7⟩ := h
  refine ⟨a1.wz, fun i hi => ?_, fun a h1 h2 => by rw [updM_o h2, a3 a h1 h2], fun q hq => by rw [updM_n (by omega), a4 q hq], fun a h1 h2 => by rw [updM_o h2, a5 a h1 h2], fun q h1 h2 => by rw [updM_n (by decide), a6 q h1 h2], fun i hi => by rw [updM_sn (by omega), a7 i hi]⟩
  by_cases hij : i = j
  · subst hij
    rw [updM_ss, updM_ss]
  · rw [updM_sn hij, updM_sn (by omega), a2 i (by omega)]
/-- a ticket that failed -/
def FL (W0 Z0 : gM) (R : Int32 × gM) (Zf : gM) (n m : Nat) : Prop := R.1 = 0 ∧ (∃ p', R.2 0 4 = nI p' ∧ WR Zf n p') ∧ (∀ a, a ≠ 0 → a ≠ 3 + m → R.2 a = W0 a) ∧ (∀ q, q ≠ 4 → R.2 0 q = W0 0 q) ∧ FA Z0 Zf
theorem TT.fl (h : TT W0 Z0 W Z n p m j) {R : Int32 × gM} {Zf Z1 : gM} (h0 : R.1 = 0) (hp : ∃ p', R.2 0 4 = nI p' ∧ WR Zf n p') (fc : FC W R.2 ∨ ∃ i v W1, FC W W1 ∧ R.2 = updM W1 (3 + m) i v) (fq : FA Z Z1) (fa : FA Z1 Zf) : FL W0 Z0 R Zf n m := by
  obtain ⟨a1, a2, a3, a4, a5, a6, a7⟩ := h
  have hz : FA Z0 Z := ⟨fun a h1 h2 => a5 a h1 h2, fun q h1 h2 h3 => a6 q h1 h2⟩
  refine ⟨h0, hp, ?_, ?_, hz.tr (fq.tr fa)⟩
  · intro a h1 h2
    rcases fc with fc | ⟨i, v, W1, fc, e⟩
    · rw [fc.1 a h1, a3 a h1 h2]
    · rw [e, updM_o h2, fc.1 a h1, a3 a h1 h2]
  · intro q hq
    rcases fc with fc | ⟨i, v, W1, fc, e⟩
    · rw [fc.2 q hq, a4 q hq]
    · rw [e, updM_n (by omega), fc.2 q hq, a4 q hq]
theorem nn (x : Nat) (hx : x < 2147483648) : ¬ nI x < 0 := nI_pos hx
theorem ticket_sim (h : TP W Z n p m) (hm : m ≤ 5) : ((∃ W' Z' p', p_X6_readTrip W (3 + m) = (1, W') ∧ p_X9_readTicket Z = updM Z' 0 12 (nI (m + 1)) ∧ TT W Z W' Z' n p' m 5 ∧ p + 11 ≤ p') ∨ FL W Z (p_X6_readTrip W (3 + m)) (p_X9_readTicket Z) n m) ∧ ok_X9_readTicket Z := by
  have hX : Z 0 12 = nI m := h.2.2.2.2.2.2.2.2
  have t0 : TT W Z W Z n p m 0 := ⟨h, fun i hi => absurd hi (by omega), fun _ _ _ => rfl, fun _ _ => rfl, fun _ _ _ => rfl, fun _ _ _ => rfl, fun _ _ => rfl⟩
  have i0 : (5 * (Z 0 12)).toNatClampNeg = 5 * m + 0 := by
    rw [hX]
    show (nI 5 * nI m).toNatClampNeg = _
    rw [nI_mul, c1 (by omega)]
    rfl
  have vi0 : vp_in (5 * (Z 0 12)) 30 := by
    rw [hX]
    show vp_in (nI 5 * nI m) 30
    rw [nI_mul]
    exact vp_in_nI (by omega) (by decide)
  have i1 : ((5 * (Z 0 12)) + 1).toNatClampNeg = 5 * m + 1 := (v30 hX hm (w := 1) (by decide)).2
  have i2 : ((5 * (Z 0 12)) + 2).toNatClampNeg = 5 * m + 2 := (v30 hX hm (w := 2) (by decide)).2
  have i3 : ((5 * (Z 0 12)) + 3).toNatClampNeg = 5 * m + 3 := (v30 hX hm (w := 3) (by decide)).2
  have i4 : ((5 * (Z 0 12)) + 4).toNatClampNeg = 5 * m + 4 := (v30 hX hm (w := 4) (by decide)).2
  have vi1 : vp_in ((5 * (Z 0 12)) + 1) 30 := (v30 hX hm (w := 1) (by decide)).1
  have vi2 : vp_in ((5 * (Z 0 12)) + 2) 30 := (v30 hX hm (w := 2) (by decide)).1
  have vi3 : vp_in ((5 * (Z 0 12)) + 3) 30 := (v30 hX hm (w := 3) (by decide)).1
  have vi4 : vp_in ((5 * (Z 0 12)) + 4) 30 := (v30 hX hm (w := 4) (by decide)).1
  have n5 : (-5 : Int32) < 0 := by decide
  have n10 : ¬ (1 : Int32) = 0 := by decide
  obtain ⟨s0, f0, g0, k0⟩ := value_sim h
  rw [rt_eq, i0, xt_eq]
  rcases s0 with ⟨x0, p0, x0b, p0b, r0, q0, T0⟩ | ⟨r0, r0', q0⟩
  rotate_left
  · obtain ⟨z1, z2, z3⟩ := w1 hX hm (q0.u6 (i := 5 * m + 0) (v := (p_X9_readValue Z).1))
    rw [r0, xS_n n5]
    exact ⟨Or.inr (t0.fl rfl ⟨p, by dsimp only; rw [updM_n (by omega), r0']; exact h.2.1, z1⟩ (Or.inr ⟨_, _, _, f0, rfl⟩) (g0.fa.tr FA.u6) z2), okt_eq k0 vi0 (by rw [i0]; exact z3)⟩
  have t1 := (t0.prim f0 g0 T0).put (by decide) (v := nI x0)
  rw [r0, q0, xS_p (nn x0 (by omega))]
  have fin0 : okt1 Z (updM (p_X9_readValue Z).2 6 (5 * m + 0) (nI x0)) → ok_X9_readTicket Z := fun q => okt_eq k0 vi0 (by rw [i0, q0]; exact q)
  generalize hWa : updM (p_X6_readValue W).2 (3 + m) 0 (nI x0) = Wa at *
  generalize hZa : updM (p_X9_readValue Z).2 6 (5 * m + 0) (nI x0) = Za at *
  obtain ⟨s1, f1, g1, k1⟩ := takes_sim t1.1 44 (by decide)
  rcases s1 with ⟨r1, T1⟩ | ⟨r1, r1', q1⟩
  rotate_left
  · obtain ⟨z1, z2, z3⟩ := w2 hX hm q1
    rw [show xt1 (3 + m) Wa = xA 44 Wa (xt2 (3 + m)) from rfl, xA_n r1]
    exact ⟨Or.inr (t1.fl rfl ⟨p0, by dsimp only; rw [r1']; exact t1.1.2.1, z1⟩ (Or.inl f1) g1.fa z2), fin0 ⟨k1, fun X1 e => by rw [e]; exact z3⟩⟩
  have t2 := t1.prim f1 g1 T1
  rw [show xt1 (3 + m) Wa = xA 44 Wa (xt2 (3 + m)) from rfl, xA_p r1]
  have fin1 : okt2 Z (p_X9_takes Za 44) → ok_X9_readTicket Z := fun q => fin0 ⟨k1, fun X1 e => by rw [e]; exact q⟩
  have e1 : rt1 Z Za = rt2 Z (p_X9_takes Za 44) := rfl
  rw [e1]
  generalize (p_X6_accept Wa 44).2 = Wb at *
  generalize p_X9_takes Za 44 = Zb at *
  obtain ⟨s2, f2, g2, k2⟩ := d13 T1
  have e2 : rt2 Z Zb = rt3 Z (updM (p_X9_digit Zb 1 3).2 6 (5 * m + 1) ((p_X9_digit Zb 1 3).1)) := by
    unfold rt2
    rw [i1]
  rw [e2, show xt2 (3 + m) Wb = xS (3 + m) 1 (p_X6_readDigit Wb 1 3).1 (p_X6_readDigit Wb 1 3).2 (xt3 (3 + m)) from rfl]
  rcases s2 with ⟨x2, x2b, r2, q2, T2⟩ | ⟨r2, r2', q2', q2⟩
  rotate_left
  · obtain ⟨z1, z2, z3⟩ := w3 hX hm (q2.u6 (i := 5 * m + 1) (v := (p_X9_digit Zb 1 3).1))
    rw [r2, xS_n n5]
    exact ⟨Or.inr (t2.fl rfl ⟨p0 + 1, by dsimp only; rw [updM_n (by omega), r2']; exact t2.1.2.1, z1⟩ (Or.inr ⟨_, _, _, f2, rfl⟩) (g2.fa.tr FA.u6) z2), fin1 ⟨k2, fun X1 e => ⟨vi1, fun X2 ee => by rw [ee, e, i1]; exact z3⟩⟩⟩
  have t3 := (t2.prim f2 g2 T2).put (by decide) (v := nI x2)
  rw [r2, q2, xS_p (nn x2 (by omega))]
  have fin2 : okt3 Z (updM (p_X9_digit Zb 1 3).2 6 (5 * m + 1) (nI x2)) → ok_X9_readTicket Z := fun q => fin1 ⟨k2, fun X1 e => ⟨vi1, fun X2 ee => by rw [ee, e, i1, q2]; exact q⟩⟩
  generalize updM (p_X6_readDigit Wb 1 3).2 (3 + m) 1 (nI x2) = Wc at *
  generalize updM (p_X9_digit Zb 1 3).2 6 (5 * m + 1) (nI x2) = Zc at *
  obtain ⟨s3, f3, g3, k3⟩ := takes_sim t3.1 44 (by decide)
  rcases s3 with ⟨r3, T3⟩ | ⟨r3, r3', q3⟩
  rotate_left
  · obtain ⟨z1, z2, z3⟩ := w4 hX hm q3
    rw [show xt3 (3 + m) Wc = xA 44 Wc (xt4 (3 + m)) from rfl, xA_n r3]
    exact ⟨Or.inr (t3.fl rfl ⟨_, by dsimp only; rw [r3']; exact t3.1.2.1, z1⟩ (Or.inl f3) g3.fa z2), fin2 ⟨k3, fun X1 e => by rw [e]; exact z3⟩⟩
  have t4 := t3.prim f3 g3 T3
  rw [show xt3 (3 + m) Wc = xA 44 Wc (xt4 (3 + m)) from rfl, xA_p r3]
  have fin3 : okt4 Z (p_X9_takes Zc 44) → ok_X9_readTicket Z := fun q => fin2 ⟨k3, fun X1 e => by rw [e]; exact q⟩
  have e3 : rt3 Z Zc = rt4 Z (p_X9_takes Zc 44) := rfl
  rw [e3]
  generalize (p_X6_accept Wc 44).2 = Wd at *
  generalize p_X9_takes Zc 44 = Zd at *
  obtain ⟨s4, f4, g4, k4⟩ := rdstat_sim T3
  have e4 : rt4 Z Zd = rt5 Z (updM (p_X9_readStation Zd).2 6 (5 * m + 2) ((p_X9_readStation Zd).1)) := by
    unfold rt4
    rw [i2]
  rw [e4, show xt4 (3 + m) Wd = xS (3 + m) 2 (p_X6_readStation Wd).1 (p_X6_readStation Wd).2 (xt5 (3 + m)) from rfl]
  rcases s4 with ⟨x4, x4b, r4, q4, T4⟩ | ⟨r4, ⟨p4, r4', q4⟩⟩
  rotate_left
  · obtain ⟨z1, z2, z3⟩ := w5 hX hm (q4.u6 (i := 5 * m + 2) (v := (p_X9_readStation Zd).1))
    rw [r4, xS_n n5]
    exact ⟨Or.inr (t4.fl rfl ⟨p4, by dsimp only; rw [updM_n (by omega), r4'], z1⟩ (Or.inr ⟨_, _, _, f4, rfl⟩) (g4.fa.tr FA.u6) z2), fin3 ⟨k4, fun X1 e => ⟨vi2, fun X2 ee => by rw [ee, e, i2]; exact z3⟩⟩⟩
  have t5 := (t4.prim f4 g4 T4).put (by decide) (v := nI x4)
  rw [r4, q4, xS_p (nn x4 (by omega))]
  have fin4 : okt5 Z (updM (p_X9_readStation Zd).2 6 (5 * m + 2) (nI x4)) → ok_X9_readTicket Z := fun q => fin3 ⟨k4, fun X1 e => ⟨vi2, fun X2 ee => by rw [ee, e, i2, q4]; exact q⟩⟩
  generalize updM (p_X6_readStation Wd).2 (3 + m) 2 (nI x4) = We at *
  generalize updM (p_X9_readStation Zd).2 6 (5 * m + 2) (nI x4) = Ze at *
  obtain ⟨s5, f5, g5, k5⟩ := takes_sim t5.1 62 (by decide)
  rcases s5 with ⟨r5, T5⟩ | ⟨r5, r5', q5⟩
  rotate_left
  · obtain ⟨z1, z2, z3⟩ := w6 hX hm q5
    rw [show xt5 (3 + m) We = xA 62 We (xt6 (3 + m)) from rfl, xA_n r5]
    exact ⟨Or.inr (t5.fl rfl ⟨_, by dsimp only; rw [r5']; exact t5.1.2.1, z1⟩ (Or.inl f5) g5.fa z2), fin4 ⟨k5, fun X1 e => by rw [e]; exact z3⟩⟩
  have t6 := t5.prim f5 g5 T5
  rw [show xt5 (3 + m) We = xA 62 We (xt6 (3 + m)) from rfl, xA_p r5]
  have fin5 : okt6 Z (p_X9_takes Ze 62) → ok_X9_readTicket Z := fun q => fin4 ⟨k5, fun X1 e => by rw [e]; exact q⟩
  have e5 : rt5 Z Ze = rt6 Z (p_X9_takes Ze 62) := rfl
  rw [e5]
  generalize (p_X6_accept We 62).2 = Wf at *
  generalize p_X9_takes Ze 62 = Zf at *
  obtain ⟨s6, f6, g6, k6⟩ := rdstat_sim T5
  have e6 : rt6 Z Zf = rt7 Z (updM (p_X9_readStation Zf).2 6 (5 * m + 3) ((p_X9_readStation Zf).1)) := by
    unfold rt6
    rw [i3]
  rw [e6, show xt6 (3 + m) Wf = xS (3 + m) 3 (p_X6_readStation Wf).1 (p_X6_readStation Wf).2 (xt7 (3 + m)) from rfl]
  rcases s6 with ⟨x6, x6b, r6, q6, T6⟩ | ⟨r6, ⟨p6, r6', q6⟩⟩
  rotate_left
  · obtain ⟨z1, z2, z3⟩ := w7 hX hm (q6.u6 (i := 5 * m + 3) (v := (p_X9_readStation Zf).1))
    rw [r6, xS_n n5]
    exact ⟨Or.inr (t6.fl rfl ⟨p6, by dsimp only; rw [updM_n (by omega), r6'], z1⟩ (Or.inr ⟨_, _, _, f6, rfl⟩) (g6.fa.tr FA.u6) z2), fin5 ⟨k6, fun X1 e => ⟨vi3, fun X2 ee => by rw [ee, e, i3]; exact z3⟩⟩⟩
  have t7 := (t6.prim f6 g6 T6).put (by decide) (v := nI x6)
  rw [r6, q6, xS_p (nn x6 (by omega))]
  have fin6 : okt7 Z (updM (p_X9_readStation Zf).2 6 (5 * m + 3) (nI x6)) → ok_X9_readTicket Z := fun q => fin5 ⟨k6, fun X1 e => ⟨vi3, fun X2 ee => by rw [ee, e, i3, q6]; exact q⟩⟩
  generalize updM (p_X6_readStation Wf).2 (3 + m) 3 (nI x6) = Wg at *
  generalize updM (p_X9_readStation Zf).2 6 (5 * m + 3) (nI x6) = Zg at *
  obtain ⟨s7, f7, g7, k7⟩ := takes_sim t7.1 42 (by decide)
  rcases s7 with ⟨r7, T7⟩ | ⟨r7, r7', q7⟩
  rotate_left
  · obtain ⟨z1, z2, z3⟩ := w8 hX hm q7
    rw [show xt7 (3 + m) Wg = xA 42 Wg (xt8 (3 + m)) from rfl, xA_n r7]
    exact ⟨Or.inr (t7.fl rfl ⟨_, by dsimp only; rw [r7']; exact t7.1.2.1, z1⟩ (Or.inl f7) g7.fa z2), fin6 ⟨k7, fun X1 e => by rw [e]; exact z3⟩⟩
  have t8 := t7.prim f7 g7 T7
  rw [show xt7 (3 + m) Wg = xA 42 Wg (xt8 (3 + m)) from rfl, xA_p r7]
  have fin7 : okt8 Z (p_X9_takes Zg 42) → ok_X9_readTicket Z := fun q => fin6 ⟨k7, fun X1 e => by rw [e]; exact q⟩
  have e7 : rt7 Z Zg = rt8 Z (p_X9_takes Zg 42) := rfl
  rw [e7]
  generalize (p_X6_accept Wg 42).2 = Wh at *
  generalize p_X9_takes Zg 42 = Zh at *
  obtain ⟨s8, f8, g8, k8⟩ := d19 T7
  have e8 : rt8 Z Zh = updM (updM (p_X9_digit Zh 1 9).2 6 (5 * m + 4) ((p_X9_digit Zh 1 9).1)) 0 12 ((updM (p_X9_digit Zh 1 9).2 6 (5 * m + 4) ((p_X9_digit Zh 1 9).1) 0 12) + 1) := by
    unfold rt8
    rw [i4]
  have okf : ok_X9_readTicket Z := fin7 ⟨k8, fun _ _ => ⟨vi4, trivial⟩⟩
  rw [e8, show xt8 (3 + m) Wh = xS (3 + m) 4 (p_X6_readDigit Wh 1 9).1 (p_X6_readDigit Wh 1 9).2 (fun V => (1, V)) from rfl]
  rcases s8 with ⟨x8, x8b, r8, q8, T8⟩ | ⟨r8, r8', q8', q8⟩
  · have t9 := (t8.prim f8 g8 T8).put (by decide) (v := nI x8)
    rw [r8, q8, xS_p (nn x8 (by omega))]
    have z12 : updM (p_X9_digit Zh 1 9).2 6 (5 * m + 4) (nI x8) 0 12 = nI m := t9.1.2.2.2.2.2.2.2.2
    rw [z12, nI_1]
    exact ⟨Or.inl ⟨_, _, _, rfl, rfl, t9, by omega⟩, okf⟩
  · rw [r8, xS_n n5]
    have z1 : WR (updM (updM (p_X9_digit Zh 1 9).2 6 (5 * m + 4) ((p_X9_digit Zh 1 9).1)) 0 12 ((updM (p_X9_digit Zh 1 9).2 6 (5 * m + 4) ((p_X9_digit Zh 1 9).1) 0 12) + 1)) n _ := q8.u6.u12
    exact ⟨Or.inr (t8.fl rfl ⟨_, by dsimp only; rw [updM_n (by omega), r8']; exact t8.1.2.1, z1⟩ (Or.inr ⟨_, _, _, f8, rfl⟩) (g8.fa.tr FA.u6) FA.u12), okf⟩
end TICK5
