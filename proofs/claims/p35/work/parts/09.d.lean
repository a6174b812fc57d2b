/-! values, stations of the text: both sides -/
section PARSE2
variable {W W' Z Z' : gM} {n p p' m : Nat}
theorem dig_add {c : Int32} {x y : Nat} (h : c - 48 = nI y) : (10 * nI x + c) - 48 = nI (10 * x + y) := by
  rw [Int32.sub_eq_add_neg, Int32.add_assoc, ← Int32.sub_eq_add_neg, h]
  show nI 10 * nI x + nI y = _
  rw [nI_mul, nI_add]
/-- a sign is a digit on both sides alike -/
theorem dig_in (c : Int32) : f_X9_in c 48 57 = f_X8_within (c - 48) 0 9 := by
  unfold f_X9_in f_X8_within
  have e48 : (48 : Int32).toInt = 48 := by decide
  have e57 : (57 : Int32).toInt = 57 := by decide
  have e0 : (0 : Int32).toInt = 0 := by decide
  have e9 : (9 : Int32).toInt = 9 := by decide
  have h1 := Int32.le_toInt c
  have h2 := Int32.toInt_lt c
  have hsub : (c - 48).toInt = if -2147483600 ≤ c.toInt then c.toInt - 48 else c.toInt - 48 + 4294967296 := by
    rw [Int32.toInt_sub, e48]
    split
    · rw [Int.bmod_eq_of_le (by omega) (by omega)]
    · rw [Int.bmod_def]
      split <;> omega
  by_cases h0 : -2147483600 ≤ c.toInt
  · rw [if_pos h0] at hsub
    have i1 : (c < 48) ↔ (c - 48 < 0) := by
      rw [Int32.lt_iff_toInt_lt, Int32.lt_iff_toInt_lt, hsub, e48, e0]
      omega
    have i2 : (57 < c) ↔ (9 < c - 48) := by
      rw [Int32.lt_iff_toInt_lt, Int32.lt_iff_toInt_lt, hsub, e57, e9]
      omega
    by_cases h1 : c < 48
    · rw [if_pos h1, if_pos (i1.mp h1)]
    · rw [if_neg h1, if_neg (fun z => h1 (i1.mpr z))]
      by_cases h2 : 57 < c
      · rw [if_pos h2, if_pos (i2.mp h2)]
      · rw [if_neg h2, if_neg (fun z => h2 (i2.mpr z))]
  · rw [if_neg h0] at hsub
    have i1 : c < 48 := by
      rw [Int32.lt_iff_toInt_lt, e48]
      omega
    have i3 : ¬ c - 48 < 0 := by
      rw [Int32.lt_iff_toInt_lt, hsub, e0]
      omega
    have i2 : 9 < c - 48 := by
      rw [Int32.lt_iff_toInt_lt, hsub, e9]
      omega
    rw [if_pos i1, if_neg i3, if_pos i2]
theorem value_loop : ∀ d k f1 f2 (W Z : gM) (p x : Nat), k + d = 4 → d < f1 → d < f2 → 1 ≤ x → x < 10 ^ (k + 1) → TP W Z n p m → ∃ x' W' Z' p', lf_X6_readValue_16 (fun X2 x_1 _ => (x_1, X2)) f1 W (nI x) k = (nI x', W') ∧ lf_X9_readValue_10 (fun X2 x_1 _ => (x_1, X2)) f2 Z (nI x) (k + 1) = (nI x', Z') ∧ TP W' Z' n p' m ∧ p ≤ p' ∧ FC W W' ∧ FQ Z Z' ∧ lok_X9_readValue_10 (fun _ _ _ => True) f2 Z (nI x) (k + 1) ∧ x' < 100000 := by
  intro d
  induction d with
  | zero =>
    intro k f1 f2 W Z p x hk hf1 hf2 hx1 hx h
    obtain ⟨g1, rfl⟩ : ∃ g, f1 = g + 1 := ⟨f1 - 1, by omega⟩
    obtain ⟨g2, rfl⟩ : ∃ g, f2 = g + 1 := ⟨f2 - 1, by omega⟩
    have e : k = 4 := by omega
    subst e
    have h4 : (4 : Int32) ≤ nI 4 := by decide +kernel
    have h5 : (5 : Int32) ≤ nI (4 + 1) := by decide +kernel
    simp only [lf_X6_readValue_16, lf_X9_readValue_10, lok_X9_readValue_10, if_pos h4, if_pos h5]
    exact ⟨x, W, Z, p, rfl, rfl, h, Nat.le_refl _, FC.rf, FQ.rf, trivial, hx⟩
  | succ d ih =>
    intro k f1 f2 W Z p x hk hf1 hf2 hx1 hx h
    obtain ⟨g1, rfl⟩ : ∃ g, f1 = g + 1 := ⟨f1 - 1, by omega⟩
    obtain ⟨g2, rfl⟩ : ∃ g, f2 = g + 1 := ⟨f2 - 1, by omega⟩
    have h4 : ¬ (4 : Int32) ≤ nI k := nI_ge (b := 4) (by omega) (by decide)
    have h5 : ¬ (5 : Int32) ≤ nI (k + 1) := nI_ge (b := 5) (by omega) (by decide)
    have bound : x < 100000 := Nat.lt_of_lt_of_le hx (show 10 ^ (k + 1) ≤ 10 ^ 5 from Nat.pow_le_pow_right (by decide) (by omega))
    have hx0 : ¬ nI x ≤ 0 := nI_nle (by omega) (by omega)
    obtain ⟨a1, a2, a3, a4, a5, a6, a7, a8, a9⟩ := id h
    simp only [lf_X6_readValue_16, lf_X9_readValue_10, lok_X9_readValue_10, if_neg h4, if_neg h5, if_neg hx0, a6, a7, c1 (show p < 2147483648 by omega), dig_in, p_X6_readDigit]
    rcases sign_n h with ⟨hp, e⟩ | ⟨hp, e⟩
    · have hle : ¬ nI n ≤ nI p := nI_ge hp (by omega)
      have vp : vp_in (nI p) 60 := vp_in_nI (by omega) (by decide)
      rw [e]
      simp only [if_neg hle]
      by_cases hc : f_X8_within (Z 5 p - 48) 0 9 = 0
      · simp only [if_pos hc, if_neg (show ¬ (0 : Int32) ≤ -5 by decide)]
        exact ⟨x, W, Z, p, rfl, rfl, h, Nat.le_refl _, FC.rf, FQ.rf, ⟨vp, trivial⟩, bound⟩
      · simp only [if_neg hc]
        obtain ⟨y, y1, y2, ey⟩ := in_lh (lo := 0) (hi := 9) (by omega) (by omega) hc
        have fc : FC W (updM W 0 4 (W 0 4 + 1)) := FC.u4
        have fq : FQ Z (updM Z 0 9 (nI p + 1)) := FQ.u9
        have h' : TP (updM W 0 4 (W 0 4 + 1)) (updM Z 0 9 (nI p + 1)) n (p + 1) m := h.mv fc fq (by rw [updM_ss, a2, nI_1]) (by rw [updM_ss, nI_1]) (by rw [updM_sn (by decide), a8]) (by omega)
        have ex : nI x * 10 + nI y = nI (10 * x + y) := by
          show nI x * nI 10 + nI y = _
          rw [nI_mul, nI_add, Nat.mul_comm]
        rw [ey, if_pos (show (0 : Int32) ≤ nI y from nI_pos' (by omega)), dig_add ey, ex]
        have hbig : 10 * x + y < 10 ^ (k + 1 + 1) := by
          rw [Nat.pow_succ 10 (k + 1)]
          omega
        obtain ⟨x', W', Z', p', i1, i2, i3, i4, i5, i6, i7, i8⟩ := ih (k + 1) g1 g2 _ _ (p + 1) (10 * x + y) (by omega) (by omega) (by omega) (by omega) hbig h'
        refine ⟨x', W', Z', p', i1, i2, i3, by omega, fc.tr i5, fq.tr i6, ⟨vp, vp, fun X1 ex1 => ?_⟩, i8⟩
        subst ex1
        exact i7
    · have hle : nI n ≤ nI p := nI_le (by omega) (by omega)
      have hz : f_X8_within ((-5) - 48) 0 9 = 0 := by decide
      rw [e]
      simp only [if_pos hle, if_pos hz, if_neg (show ¬ (0 : Int32) ≤ -5 by decide)]
      exact ⟨x, W, Z, p, rfl, rfl, h, Nat.le_refl _, FC.rf, FQ.rf, trivial, bound⟩
theorem d01 (h : TP W Z n p m) : ((∃ x, x ≤ 1 ∧ (p_X6_readDigit W 0 1).1 = nI x ∧ (p_X9_digit Z 0 1).1 = nI x ∧ TP (p_X6_readDigit W 0 1).2 (p_X9_digit Z 0 1).2 n (p + 1) m) ∨ ((p_X6_readDigit W 0 1).1 = (-5) ∧ (p_X6_readDigit W 0 1).2 = W ∧ (p_X9_digit Z 0 1).1 = 0 ∧ WR (p_X9_digit Z 0 1).2 n p)) ∧ FC W (p_X6_readDigit W 0 1).2 ∧ FQ Z (p_X9_digit Z 0 1).2 ∧ ok_X9_digit Z 0 1 := by
  obtain ⟨a, b⟩ := digit_sim h (lo := 0) (hi := 1) (by decide) (by decide)
  refine ⟨?_, b⟩
  rcases a with ⟨x, -, x2, r⟩ | r
  · exact Or.inl ⟨x, x2, r⟩
  · exact Or.inr r
theorem d05 (h : TP W Z n p m) : ((∃ x, x ≤ 5 ∧ (p_X6_readDigit W 0 5).1 = nI x ∧ (p_X9_digit Z 0 5).1 = nI x ∧ TP (p_X6_readDigit W 0 5).2 (p_X9_digit Z 0 5).2 n (p + 1) m) ∨ ((p_X6_readDigit W 0 5).1 = (-5) ∧ (p_X6_readDigit W 0 5).2 = W ∧ (p_X9_digit Z 0 5).1 = 0 ∧ WR (p_X9_digit Z 0 5).2 n p)) ∧ FC W (p_X6_readDigit W 0 5).2 ∧ FQ Z (p_X9_digit Z 0 5).2 ∧ ok_X9_digit Z 0 5 := by
  obtain ⟨a, b⟩ := digit_sim h (lo := 0) (hi := 5) (by decide) (by decide)
  refine ⟨?_, b⟩
  rcases a with ⟨x, -, x2, r⟩ | r
  · exact Or.inl ⟨x, x2, r⟩
  · exact Or.inr r
theorem d09 (h : TP W Z n p m) : ((∃ x, x ≤ 9 ∧ (p_X6_readDigit W 0 9).1 = nI x ∧ (p_X9_digit Z 0 9).1 = nI x ∧ TP (p_X6_readDigit W 0 9).2 (p_X9_digit Z 0 9).2 n (p + 1) m) ∨ ((p_X6_readDigit W 0 9).1 = (-5) ∧ (p_X6_readDigit W 0 9).2 = W ∧ (p_X9_digit Z 0 9).1 = 0 ∧ WR (p_X9_digit Z 0 9).2 n p)) ∧ FC W (p_X6_readDigit W 0 9).2 ∧ FQ Z (p_X9_digit Z 0 9).2 ∧ ok_X9_digit Z 0 9 := by
  obtain ⟨a, b⟩ := digit_sim h (lo := 0) (hi := 9) (by decide) (by decide)
  refine ⟨?_, b⟩
  rcases a with ⟨x, -, x2, r⟩ | r
  · exact Or.inl ⟨x, x2, r⟩
  · exact Or.inr r
theorem d13 (h : TP W Z n p m) : ((∃ x, x ≤ 3 ∧ (p_X6_readDigit W 1 3).1 = nI x ∧ (p_X9_digit Z 1 3).1 = nI x ∧ TP (p_X6_readDigit W 1 3).2 (p_X9_digit Z 1 3).2 n (p + 1) m) ∨ ((p_X6_readDigit W 1 3).1 = (-5) ∧ (p_X6_readDigit W 1 3).2 = W ∧ (p_X9_digit Z 1 3).1 = 0 ∧ WR (p_X9_digit Z 1 3).2 n p)) ∧ FC W (p_X6_readDigit W 1 3).2 ∧ FQ Z (p_X9_digit Z 1 3).2 ∧ ok_X9_digit Z 1 3 := by
  obtain ⟨a, b⟩ := digit_sim h (lo := 1) (hi := 3) (by decide) (by decide)
  refine ⟨?_, b⟩
  rcases a with ⟨x, -, x2, r⟩ | r
  · exact Or.inl ⟨x, x2, r⟩
  · exact Or.inr r
theorem d19 (h : TP W Z n p m) : ((∃ x, x ≤ 9 ∧ (p_X6_readDigit W 1 9).1 = nI x ∧ (p_X9_digit Z 1 9).1 = nI x ∧ TP (p_X6_readDigit W 1 9).2 (p_X9_digit Z 1 9).2 n (p + 1) m) ∨ ((p_X6_readDigit W 1 9).1 = (-5) ∧ (p_X6_readDigit W 1 9).2 = W ∧ (p_X9_digit Z 1 9).1 = 0 ∧ WR (p_X9_digit Z 1 9).2 n p)) ∧ FC W (p_X6_readDigit W 1 9).2 ∧ FQ Z (p_X9_digit Z 1 9).2 ∧ ok_X9_digit Z 1 9 := by
  obtain ⟨a, b⟩ := digit_sim h (lo := 1) (hi := 9) (by decide) (by decide)
  refine ⟨?_, b⟩
  rcases a with ⟨x, -, x2, r⟩ | r
  · exact Or.inl ⟨x, x2, r⟩
  · exact Or.inr r
theorem value_wr (h : WR Z n p) : WR (p_X9_readValue Z).2 n p ∧ FQ Z (p_X9_readValue Z).2 ∧ ok_X9_readValue Z := by
  obtain ⟨b1, b2, b3, b4⟩ := digit_wr h 0 9
  have e : ∀ (K : gM → Int32 → Nat → Int32 × gM) (f : Nat) V, 0 < f → lf_X9_readValue_10 K f V 0 1 = K V 0 1 := by
    intro K f V hf
    obtain ⟨g, rfl⟩ : ∃ g, f = g + 1 := ⟨f - 1, by omega⟩
    simp only [lf_X9_readValue_10, if_neg (show ¬ (5 : Int32) ≤ nI 1 by decide +kernel), if_pos (show (0 : Int32) ≤ 0 by decide)]
  have eo : ∀ (f : Nat) V, 0 < f → lok_X9_readValue_10 (fun _ _ _ => True) f V 0 1 := by
    intro f V hf
    obtain ⟨g, rfl⟩ : ∃ g, f = g + 1 := ⟨f - 1, by omega⟩
    simp only [lok_X9_readValue_10, if_neg (show ¬ (5 : Int32) ≤ nI 1 by decide +kernel), if_pos (show (0 : Int32) ≤ 0 by decide)]
  unfold p_X9_readValue ok_X9_readValue
  dsimp only
  rw [b1, e _ _ _ (by omega)]
  exact ⟨b2, b3, b4, fun X1 ex => by subst ex; exact eo _ _ (by omega)⟩
theorem value_sim (h : TP W Z n p m) : ((∃ x p', x < 100000 ∧ p + 1 ≤ p' ∧ (p_X6_readValue W).1 = nI x ∧ (p_X9_readValue Z).1 = nI x ∧ TP (p_X6_readValue W).2 (p_X9_readValue Z).2 n p' m) ∨ ((p_X6_readValue W).1 = (-5) ∧ (p_X6_readValue W).2 = W ∧ WR (p_X9_readValue Z).2 n p)) ∧ FC W (p_X6_readValue W).2 ∧ FQ Z (p_X9_readValue Z).2 ∧ ok_X9_readValue Z := by
  obtain ⟨hd, f1, f2, ok1⟩ := d09 h
  have e : ∀ (K : gM → Int32 → Nat → Int32 × gM) (f : Nat) V, 0 < f → lf_X9_readValue_10 K f V 0 1 = K V 0 1 := by
    intro K f V hf
    obtain ⟨g, rfl⟩ : ∃ g, f = g + 1 := ⟨f - 1, by omega⟩
    simp only [lf_X9_readValue_10, if_neg (show ¬ (5 : Int32) ≤ nI 1 by decide +kernel), if_pos (show (0 : Int32) ≤ 0 by decide)]
  have eo : ∀ (f : Nat) V, 0 < f → lok_X9_readValue_10 (fun _ _ _ => True) f V 0 1 := by
    intro f V hf
    obtain ⟨g, rfl⟩ : ∃ g, f = g + 1 := ⟨f - 1, by omega⟩
    simp only [lok_X9_readValue_10, if_neg (show ¬ (5 : Int32) ≤ nI 1 by decide +kernel), if_pos (show (0 : Int32) ≤ 0 by decide)]
  unfold p_X6_readValue p_X9_readValue ok_X9_readValue
  dsimp only
  rcases hd with ⟨x, x9, r1, r2, r3⟩ | ⟨r1, r2, r3, r4⟩
  · rw [r1, r2]
    by_cases hx : x = 0
    · subst hx
      rw [if_neg (show ¬ (0 : Int32) < nI 0 by decide +kernel), show nI 0 = (0 : Int32) from rfl, e _ _ _ (by omega)]
      exact ⟨Or.inl ⟨0, p + 1, by omega, by omega, rfl, rfl, r3⟩, f1, f2, ok1, fun X1 ex => by subst ex; exact eo _ _ (by omega)⟩
    · rw [if_pos (show (0 : Int32) < nI x from nI_lt (a := 0) (by omega) (by omega))]
      obtain ⟨x', W', Z', p', i1, i2, i3, i4, i5, i6, i7, i8⟩ := value_loop 4 0 5 2147483648 _ _ (p + 1) x (by omega) (by omega) (by omega) (by omega) (by omega) r3
      rw [i1, i2]
      exact ⟨Or.inl ⟨x', p', i8, i4, rfl, rfl, i3⟩, f1.tr i5, f2.tr i6, ok1, fun X1 ex => by subst ex; exact i7⟩
  · rw [r1, r3, if_neg (show ¬ (0 : Int32) < -5 by decide), e _ _ _ (by omega)]
    exact ⟨Or.inr ⟨rfl, r2, r4⟩, f1, f2, ok1, fun X1 ex => by subst ex; exact eo _ _ (by omega)⟩
theorem station_wr (h : WR Z n p) : WR (p_X9_readStation Z).2 n p ∧ FQ Z (p_X9_readStation Z).2 ∧ ok_X9_readStation Z := by
  obtain ⟨b1, b2, b3, b4⟩ := digit_wr h 0 1
  obtain ⟨c1', c2', c3', c4'⟩ := digit_wr b2 0 5
  unfold p_X9_readStation ok_X9_readStation
  dsimp only
  exact ⟨c2', b3.tr c3', b4, fun X1 ex => by subst ex; exact ⟨c4', trivial⟩⟩
theorem rdstat_sim (h : TP W Z n p m) : ((∃ x, x < 100 ∧ (p_X6_readStation W).1 = nI x ∧ (p_X9_readStation Z).1 = nI x ∧ TP (p_X6_readStation W).2 (p_X9_readStation Z).2 n (p + 2) m) ∨ ((p_X6_readStation W).1 = (-5) ∧ ∃ p', (p_X6_readStation W).2 0 4 = nI p' ∧ WR (p_X9_readStation Z).2 n p')) ∧ FC W (p_X6_readStation W).2 ∧ FQ Z (p_X9_readStation Z).2 ∧ ok_X9_readStation Z := by
  obtain ⟨hd, f1, f2, ok1⟩ := d01 h
  unfold p_X6_readStation p_X9_readStation ok_X9_readStation
  dsimp only
  rcases hd with ⟨x, x1, r1, r2, r3⟩ | ⟨r1, r2, r3, r4⟩
  · obtain ⟨hd2, g1, g2, ok2⟩ := d05 r3
    rw [r1, if_pos (show (0 : Int32) ≤ nI x from nI_pos' (by omega))]
    rcases hd2 with ⟨y, y5, s1, s2, s3⟩ | ⟨s1, s2, s3, s4⟩
    · rw [s1, if_pos (show (0 : Int32) ≤ nI y from nI_pos' (by omega)), r2, s2, e10n]
      dsimp only
      have e2 : p + 2 = p + 1 + 1 := rfl
      rw [e2]
      refine ⟨Or.inl ⟨10 * x + y, by omega, rfl, rfl, s3⟩, f1.tr g1, f2.tr g2, ok1, fun X1 ex => ?_⟩
      rw [ex]
      exact ⟨ok2, trivial⟩
    · rw [s1, if_neg (show ¬ (0 : Int32) ≤ -5 by decide)]
      dsimp only
      refine ⟨Or.inr ⟨rfl, p + 1, by rw [s2]; exact r3.2.1, s4⟩, f1.tr g1, f2.tr g2, ok1, fun X1 ex => ?_⟩
      rw [ex]
      exact ⟨ok2, trivial⟩
  · obtain ⟨c1', c2', c3', c4'⟩ := digit_wr r4 0 5
    rw [r1, if_neg (show ¬ (0 : Int32) ≤ -5 by decide)]
    dsimp only
    refine ⟨Or.inr ⟨rfl, p, by rw [r2]; exact h.2.1, c2'⟩, f1, f2.tr c3', ok1, fun X1 ex => ?_⟩
    rw [ex]
    exact ⟨c4', trivial⟩
end PARSE2
