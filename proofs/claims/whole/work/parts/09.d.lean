/-! values, stations, tickets of the text: both sides -/
section PARSE2
variable {W W' Z Z' : gM} {n p p' m : Nat}
theorem dig_add {c : Int32} {x y : Nat} (h : c - 48 = nI y) : (10 * nI x + c) - 48 = nI (10 * x + y) := by
  rw [Int32.sub_eq_add_neg, Int32.add_assoc, ← Int32.sub_eq_add_neg, h]
  show nI 10 * nI x + nI y = _
  rw [nI_mul, nI_add]
theorem in_4857 (c : Int32) : f_X9_in c 48 57 = f_X8_within (c - 48) 0 9 ∨ True := Or.inr trivial
/-- a sign is a digit on both sides alike -/
theorem dig_in (c : Int32) (hc : 0 ≤ c.toInt ∧ c.toInt < 65536) : f_X9_in c 48 57 = f_X8_within (c - 48) (nI 0) (nI 9) := by
  unfold f_X9_in f_X8_within
  have e48 : (48 : Int32).toInt = 48 := by decide
  have e57 : (57 : Int32).toInt = 57 := by decide
  have e0 : (nI 0).toInt = 0 := by decide +kernel
  have e9 : (nI 9).toInt = 9 := by decide +kernel
  have hsub : (c - 48).toInt = c.toInt - 48 := by
    rw [Int32.toInt_sub, e48]
    rw [Int.bmod_eq_of_le (by omega) (by omega)]
  have i1 : (c < 48) ↔ (c - 48 < nI 0) := by
    rw [Int32.lt_iff_toInt_lt, Int32.lt_iff_toInt_lt, hsub, e48, e0]
    omega
  have i2 : (57 < c) ↔ (nI 9 < c - 48) := by
    rw [Int32.lt_iff_toInt_lt, Int32.lt_iff_toInt_lt, hsub, e57, e9]
    omega
  by_cases h1 : c < 48
  · rw [if_pos h1, if_pos (i1.mp h1)]
  · rw [if_neg h1, if_neg (fun z => h1 (i1.mpr z))]
    by_cases h2 : 57 < c
    · rw [if_pos h2, if_pos (i2.mp h2)]
    · rw [if_neg h2, if_neg (fun z => h2 (i2.mpr z))]
/-- the signs are chars -/
def CH (Z : gM) : Prop := ∀ k, k < 60 → 0 ≤ (Z 5 k).toInt ∧ (Z 5 k).toInt < 65536
theorem value_loop : ∀ d k f1 f2 (W Z : gM) (p x : Nat), k + d = 4 → d < f1 → d < f2 → 1 ≤ x → x ≤ 100000 → TP W Z n p m → CH Z → ∃ x' W' Z' p', lf_X6_readValue_16 (fun X2 x_1 _ => (x_1, X2)) f1 W (nI x) k = (nI x', W') ∧ lf_X9_readValue_10 (fun X2 x_1 _ => (x_1, X2)) f2 Z (nI x) (k + 1) = (nI x', Z') ∧ TP W' Z' n p' m ∧ p ≤ p' ∧ FC W W' ∧ FQ Z Z' ∧ lok_X9_readValue_10 (fun _ _ _ => True) f2 Z (nI x) (k + 1) := by
  sorry
end PARSE2
