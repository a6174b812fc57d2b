/-! the law from its entry -/
theorem ev_new : refB B0 = true := by decide +kernel
theorem U0_06 : U0 0 6 = nI 0 := by decide +kernel
theorem U0_07 : U0 0 7 = 0 := by decide +kernel
theorem KA_U0 : KA U0 := by
  intro k hk hk2
  rcases (show k = 0 ∨ k = 1 ∨ k = 3 ∨ k = 4 ∨ k = 5 ∨ k = 6 by omega) with rfl | rfl | rfl | rfl | rfl | rfl <;> decide +kernel
