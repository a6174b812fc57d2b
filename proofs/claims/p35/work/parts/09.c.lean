/-! the text is read: both sides -/
def TP (W Z : gM) (n p m : Nat) : Prop := W 0 2 = nI n ∧ W 0 4 = nI p ∧ p ≤ n ∧ n ≤ 60 ∧ (∀ k, k < n → W 1 k = Z 5 k) ∧ Z 0 7 = nI n ∧ Z 0 9 = nI p ∧ Z 0 10 = 0 ∧ Z 0 12 = nI m
/-- the reference has found a fault at p -/
def WR (Z : gM) (n p : Nat) : Prop := Z 0 10 = 1 ∧ Z 0 9 = nI p ∧ Z 0 7 = nI n ∧ p ≤ n ∧ n ≤ 60
def FQ (Z Z' : gM) : Prop := (∀ a, a ≠ 0 → Z' a = Z a) ∧ ∀ j, j ≠ 9 → j ≠ 10 → Z' 0 j = Z 0 j
def FC (W W' : gM) : Prop := (∀ a, a ≠ 0 → W' a = W a) ∧ ∀ j, j ≠ 4 → W' 0 j = W 0 j
theorem FQ.rf {Z : gM} : FQ Z Z := ⟨fun _ _ => rfl, fun _ _ _ => rfl⟩
theorem FC.rf {Z : gM} : FC Z Z := ⟨fun _ _ => rfl, fun _ _ => rfl⟩
theorem FQ.tr {Z Z1 Z2 : gM} (h : FQ Z Z1) (g : FQ Z1 Z2) : FQ Z Z2 := ⟨fun a ha => by rw [g.1 a ha, h.1 a ha], fun j h1 h2 => by rw [g.2 j h1 h2, h.2 j h1 h2]⟩
theorem FC.tr {Z Z1 Z2 : gM} (h : FC Z Z1) (g : FC Z1 Z2) : FC Z Z2 := ⟨fun a ha => by rw [g.1 a ha, h.1 a ha], fun j h1 => by rw [g.2 j h1, h.2 j h1]⟩
theorem FQ.u9 {Z : gM} {v : Int32} : FQ Z (updM Z 0 9 v) := ⟨fun a ha => updM_o ha, fun j h1 _ => updM_sn h1⟩
theorem FQ.u10 {Z : gM} {v : Int32} : FQ Z (updM Z 0 10 v) := ⟨fun a ha => updM_o ha, fun j _ h2 => updM_sn h2⟩
theorem FC.u4 {Z : gM} {v : Int32} : FC Z (updM Z 0 4 v) := ⟨fun a ha => updM_o ha, fun j h1 => updM_sn h1⟩
section PARSE
variable {W W' Z Z' : gM} {n p p' m : Nat}
theorem TP.mv (h : TP W Z n p m) (fc : FC W W') (fq : FQ Z Z') (h4 : W' 0 4 = nI p') (h9 : Z' 0 9 = nI p') (h10 : Z' 0 10 = 0) (hp : p' ≤ n) : TP W' Z' n p' m := by
  obtain ⟨a1, a2, a3, a4, a5, a6, a7, a8, a9⟩ := h
  exact ⟨by rw [fc.2 2 (by decide), a1], h4, hp, a4, fun k hk => by rw [fc.1 1 (by decide), fq.1 5 (by decide), a5 k hk], by rw [fq.2 7 (by decide) (by decide), a6], h9, h10, by rw [fq.2 12 (by decide) (by decide), a9]⟩
theorem TP.wr (h : TP W Z n p m) (fq : FQ Z Z') (h9 : Z' 0 9 = nI p) (h10 : Z' 0 10 = 1) : WR Z' n p := by
  obtain ⟨a1, a2, a3, a4, a5, a6, a7, a8, a9⟩ := h
  exact ⟨h10, h9, by rw [fq.2 7 (by decide) (by decide), a6], a3, a4⟩
theorem WR.mv (h : WR Z n p) (fq : FQ Z Z') (h9 : Z' 0 9 = Z 0 9) (h10 : Z' 0 10 = 1) : WR Z' n p := by
  obtain ⟨a1, a2, a3, a4, a5⟩ := h
  exact ⟨h10, by rw [h9, a2], by rw [fq.2 7 (by decide) (by decide), a3], a4, a5⟩
theorem sign_n (h : TP W Z n p m) : (p < n ∧ f_X6_signHere W = Z 5 p) ∨ (p = n ∧ f_X6_signHere W = (-5)) := by
  obtain ⟨a1, a2, a3, a4, a5, -⟩ := h
  unfold f_X6_signHere
  rw [a1, a2]
  by_cases hp : p < n
  · rw [within_n (by omega) (by omega) hp, if_neg (show ¬ (1 : Int32) = 0 by decide), if_neg (show ¬ (60 : Int32) ≤ nI p from nI_ge (b := 60) (by omega) (by decide)), c1 (by omega)]
    exact Or.inl ⟨hp, a5 p hp⟩
  · have e : p = n := by omega
    rcases in_sub (b := n) (by omega) (nI p) with q | ⟨q, k, hk, ek⟩
    · rw [q, if_pos rfl]
      exact Or.inr ⟨e, rfl⟩
    · have := nI_inj (by omega) (by omega) ek
      omega
theorem takes_wr (h : WR Z n p) (a : Int32) : WR (p_X9_takes Z a) n p ∧ FQ Z (p_X9_takes Z a) ∧ ok_X9_takes Z a := by
  have h10 : ¬ Z 0 10 = 0 := by rw [h.1]; decide
  have e : p_X9_takes Z a = updM (updM Z 0 10 1) 0 9 (Z 0 9) := by
    unfold p_X9_takes
    rw [if_neg h10]
    dsimp only
    rw [updM_ss, if_neg (show ¬ (1 : Int32) = 0 by decide), updM_sn (show 9 ≠ 10 by decide), Int32.add_zero]
  rw [e]
  have fq : FQ Z (updM (updM Z 0 10 1) 0 9 (Z 0 9)) := FQ.u10.tr FQ.u9
  refine ⟨h.mv fq updM_ss (by rw [updM_sn (by decide), updM_ss]), fq, ?_⟩
  unfold ok_X9_takes
  rw [if_neg h10]
  trivial
theorem takes_sim (h : TP W Z n p m) (a : Int32) (ha : a ≠ (-5)) : (((p_X6_accept W a).1 = 1 ∧ TP (p_X6_accept W a).2 (p_X9_takes Z a) n (p + 1) m) ∨ ((p_X6_accept W a).1 = 0 ∧ (p_X6_accept W a).2 = W ∧ WR (p_X9_takes Z a) n p)) ∧ FC W (p_X6_accept W a).2 ∧ FQ Z (p_X9_takes Z a) ∧ ok_X9_takes Z a := by
  have h' := h
  obtain ⟨a1, a2, a3, a4, a5, a6, a7, a8, a9⟩ := h'
  have okk : ok_X9_takes Z a := by
    unfold ok_X9_takes
    rw [a8, if_pos rfl, a6, a7]
    split
    · trivial
    · rename_i hle
      refine ⟨vp_in_nI ?_ (by decide), trivial⟩
      rw [nI_leI (by omega) (by omega)] at hle
      omega
  have bad : (nI n ≤ nI p ∨ Z 5 p ≠ a) → p_X9_takes Z a = updM (updM Z 0 10 1) 0 9 (nI p) := by
    intro hb
    unfold p_X9_takes
    rw [a8, if_pos rfl, a6, a7, c1 (by omega)]
    dsimp only
    have u9 : ∀ v, updM Z 0 10 v 0 9 = nI p := fun v => by rw [updM_sn (by decide), a7]
    rw [updM_ss, updM_ss, u9, u9, if_neg (show ¬ (1 : Int32) = 0 by decide), Int32.add_zero]
    by_cases hle : nI n ≤ nI p
    · rw [if_pos hle]
    · rw [if_neg hle]
      rcases hb with hb | hb
      · exact absurd hb hle
      · rw [if_neg hb]
  have fq1 : FQ Z (updM (updM Z 0 10 1) 0 9 (nI p)) := FQ.u10.tr FQ.u9
  unfold p_X6_accept
  rcases sign_n h with ⟨hp, e⟩ | ⟨hp, e⟩
  · rw [e]
    by_cases hc : Z 5 p = a
    · rw [if_pos hc]
      have hle : ¬ nI n ≤ nI p := nI_ge hp (by omega)
      have et : p_X9_takes Z a = updM (updM Z 0 10 0) 0 9 (nI (p + 1)) := by
        unfold p_X9_takes
        rw [a8, if_pos rfl, a6, a7, c1 (by omega), if_neg hle, if_pos hc]
        dsimp only
        rw [updM_ss, if_pos rfl, updM_sn (show 9 ≠ 10 by decide), a7, nI_1]
      rw [et]
      have fq : FQ Z (updM (updM Z 0 10 0) 0 9 (nI (p + 1))) := FQ.u10.tr FQ.u9
      have fc : FC W (updM W 0 4 (W 0 4 + 1)) := FC.u4
      dsimp only
      refine ⟨Or.inl ⟨rfl, h.mv fc fq (by rw [updM_ss, a2, nI_1]) updM_ss (by rw [updM_sn (by decide), updM_ss]) (by omega)⟩, fc, fq, okk⟩
    · rw [if_neg hc, bad (Or.inr hc)]
      exact ⟨Or.inr ⟨rfl, rfl, h.wr fq1 updM_ss (by rw [updM_sn (by decide), updM_ss])⟩, FC.rf, fq1, okk⟩
  · rw [e, if_neg (fun z => ha z.symm), bad (Or.inl (nI_le (by omega) (by omega)))]
    exact ⟨Or.inr ⟨rfl, rfl, h.wr fq1 updM_ss (by rw [updM_sn (by decide), updM_ss])⟩, FC.rf, fq1, okk⟩
theorem digit_wr (h : WR Z n p) (a b : Int32) : (p_X9_digit Z a b).1 = 0 ∧ WR (p_X9_digit Z a b).2 n p ∧ FQ Z (p_X9_digit Z a b).2 ∧ ok_X9_digit Z a b := by
  have h10 : ¬ Z 0 10 = 0 := by rw [h.1]; decide
  have e : p_X9_digit Z a b = (0, updM (updM Z 0 10 1) 0 9 (Z 0 9)) := by
    have u9 : ∀ v, updM Z 0 10 v 0 9 = Z 0 9 := fun v => updM_sn (by decide)
    have u10 : ∀ w, updM (updM Z 0 10 1) 0 9 w 0 10 = 1 := fun w => by rw [updM_sn (by decide), updM_ss]
    have n10 : ¬ (1 : Int32) = 0 := by decide
    unfold p_X9_digit
    simp only [if_neg h10, updM_ss, if_neg n10, u9, u10, Int32.add_zero, ite_self]
  rw [e]
  have fq : FQ Z (updM (updM Z 0 10 1) 0 9 (Z 0 9)) := FQ.u10.tr FQ.u9
  dsimp only
  refine ⟨rfl, h.mv fq updM_ss (by rw [updM_sn (by decide), updM_ss]), fq, ?_⟩
  obtain ⟨a1, a2, a3, a4, a5⟩ := h
  unfold ok_X9_digit
  rw [a2, a3]
  split
  · trivial
  · rename_i hle
    refine ⟨vp_in_nI ?_ (by decide), trivial⟩
    rw [nI_leI (by omega) (by omega)] at hle
    omega
theorem in_lh {c : Int32} {lo hi : Nat} (hhi : hi < 1000) (hlo : lo < 1000) (h : ¬ f_X8_within c (nI lo) (nI hi) = 0) : ∃ x, lo ≤ x ∧ x ≤ hi ∧ c = nI x := by
  unfold f_X8_within at h
  by_cases q1 : c < nI lo
  · rw [if_pos q1] at h
    exact absurd rfl h
  · rw [if_neg q1] at h
    by_cases q2 : nI hi < c
    · rw [if_pos q2] at h
      exact absurd rfl h
    · have q0 : ¬ c < 0 := by
        rw [Int32.lt_iff_toInt_lt, nI_toInt (by omega)] at q1
        rw [Int32.lt_iff_toInt_lt]
        have e0 : (0 : Int32).toInt = 0 := by decide
        omega
      obtain ⟨x, hx, rfl⟩ := nI_of q0
      rw [nI_ltI hx (by omega)] at q1
      rw [nI_ltI (by omega) hx] at q2
      exact ⟨x, by omega, by omega, rfl⟩
theorem low0 {v : Int32} (hv : v.toInt < 0) {lo hi : Nat} (hlo : lo < 1000) : f_X8_within v (nI lo) (nI hi) = 0 := by
  unfold f_X8_within
  rw [if_pos]
  rw [Int32.lt_iff_toInt_lt, nI_toInt (by omega)]
  omega
theorem digit_sim (h : TP W Z n p m) {lo hi : Nat} (hlo : lo < 10) (hhi : hi < 10) : ((∃ x, lo ≤ x ∧ x ≤ hi ∧ (p_X6_readDigit W (nI lo) (nI hi)).1 = nI x ∧ (p_X9_digit Z (nI lo) (nI hi)).1 = nI x ∧ TP (p_X6_readDigit W (nI lo) (nI hi)).2 (p_X9_digit Z (nI lo) (nI hi)).2 n (p + 1) m) ∨ ((p_X6_readDigit W (nI lo) (nI hi)).1 = (-5) ∧ (p_X6_readDigit W (nI lo) (nI hi)).2 = W ∧ (p_X9_digit Z (nI lo) (nI hi)).1 = 0 ∧ WR (p_X9_digit Z (nI lo) (nI hi)).2 n p)) ∧ FC W (p_X6_readDigit W (nI lo) (nI hi)).2 ∧ FQ Z (p_X9_digit Z (nI lo) (nI hi)).2 ∧ ok_X9_digit Z (nI lo) (nI hi) := by
  have h' := h
  obtain ⟨a1, a2, a3, a4, a5, a6, a7, a8, a9⟩ := h'
  have okk : ok_X9_digit Z (nI lo) (nI hi) := by
    unfold ok_X9_digit
    rw [a6, a7]
    split
    · trivial
    · rename_i hle
      refine ⟨vp_in_nI ?_ (by decide), trivial⟩
      rw [nI_leI (by omega) (by omega)] at hle
      omega
  have u9 : ∀ v, updM Z 0 10 v 0 9 = nI p := fun v => by rw [updM_sn (by decide), a7]
  have u10 : ∀ v w, updM (updM Z 0 10 v) 0 9 w 0 10 = v := fun v w => by rw [updM_sn (by decide), updM_ss]
  have fq1 : FQ Z (updM (updM Z 0 10 1) 0 9 (nI p)) := FQ.u10.tr FQ.u9
  have w1 : WR (updM (updM Z 0 10 1) 0 9 (nI p)) n p := h.wr fq1 updM_ss (by rw [updM_sn (by decide), updM_ss])
  have bad : ∀ c : Int32, f_X9_in c (nI lo) (nI hi) = 0 → (if nI n ≤ nI p then (-5) else Z 5 p - 48) = c → p_X9_digit Z (nI lo) (nI hi) = (0, updM (updM Z 0 10 1) 0 9 (nI p)) := by
    intro c hc hcc
    unfold p_X9_digit
    rw [a6, a7, a8, c1 (by omega)]
    dsimp only
    have n10 : ¬ (1 : Int32) = 0 := by decide
    by_cases hle : nI n ≤ nI p
    · rw [if_pos hle] at hcc
      subst hcc
      rw [if_pos hle, if_pos rfl, if_pos hc]
      simp only [updM_ss, u9, u10, if_neg n10, Int32.add_zero]
    · rw [if_neg hle] at hcc
      subst hcc
      rw [if_neg hle, if_pos rfl, if_pos hc]
      simp only [updM_ss, u9, u10, if_neg n10, Int32.add_zero]
  unfold p_X6_readDigit
  rcases sign_n h with ⟨hp, e⟩ | ⟨hp, e⟩
  · have hle : ¬ nI n ≤ nI p := nI_ge hp (by omega)
    rw [e]
    by_cases hc : f_X8_within (Z 5 p - 48) (nI lo) (nI hi) = 0
    · rw [if_pos hc, bad _ hc (if_neg hle)]
      exact ⟨Or.inr ⟨rfl, rfl, rfl, w1⟩, FC.rf, fq1, okk⟩
    · rw [if_neg hc]
      obtain ⟨x, x1, x2, ex⟩ := in_lh (by omega) (by omega) hc
      have et : p_X9_digit Z (nI lo) (nI hi) = (nI x, updM (updM Z 0 10 0) 0 9 (nI (p + 1))) := by
        have hc' : ¬ f_X9_in (Z 5 p - 48) (nI lo) (nI hi) = 0 := hc
        unfold p_X9_digit
        rw [a6, a7, a8, c1 (by omega), if_neg hle, if_pos rfl, if_neg hc']
        simp only [updM_ss, u9, u10, if_true, nI_1, ex]
      rw [et]
      have fq : FQ Z (updM (updM Z 0 10 0) 0 9 (nI (p + 1))) := FQ.u10.tr FQ.u9
      have fc : FC W (updM W 0 4 (W 0 4 + 1)) := FC.u4
      dsimp only
      refine ⟨Or.inl ⟨x, x1, x2, ex, rfl, h.mv fc fq (by rw [updM_ss, a2, nI_1]) updM_ss (by rw [updM_sn (by decide), updM_ss]) (by omega)⟩, fc, fq, okk⟩
  · have hle : nI n ≤ nI p := nI_le (by omega) (by omega)
    have hz : f_X8_within ((-5) - 48) (nI lo) (nI hi) = 0 := low0 (by decide) (by omega)
    have hz2 : f_X9_in (-5) (nI lo) (nI hi) = 0 := low0 (by decide) (by omega)
    rw [e, hz, if_pos rfl, bad _ hz2 (if_pos hle)]
    exact ⟨Or.inr ⟨rfl, rfl, rfl, w1⟩, FC.rf, fq1, okk⟩
end PARSE
