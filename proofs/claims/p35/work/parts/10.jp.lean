/-! the constructor of the reference: its six rows, its first numbers -/
/-- n cells of the reference in the making, at the heap's end -/
def p_lin : Nat → Nat → gM → gM
  | 0, _, Z => Z
  | n + 1, k, Z => p_lin n (k + 1) (updM Z 1 (10 + 8 * k) 8)
def p_sea : Nat → Nat → gM → gM
  | 0, _, Z => Z
  | n + 1, k, Z => p_sea n (k + 1) (updM Z 1 (26 + k) (-5))
theorem p_lin_o : ∀ n k Z, p_lin n k Z 0 = Z 0 := by
  intro n
  induction n with
  | zero => intro k Z; rfl
  | succ n ih =>
    intro k Z
    show p_lin n (k + 1) _ 0 = _
    rw [ih, updM_o (by decide)]
theorem j_lin : ∀ k, k < 2 → (10 + 8 * nI k + 0 : Int32) = nI (10 + 8 * k) := by decide +kernel
theorem j_sea : ∀ k, k < 48 → (26 + nI k : Int32) = nI (26 + k) := by decide +kernel
def mN1 (X : gM) : gM := updM (newR X 1) 0 0 1
def mN2 (X : gM) : gM := updM (newR X 2) 0 1 1
def mN3 (X : gM) : gM := updM (newR X 3) 0 3 1
def mN4 (X : gM) : gM := updM (newR X 4) 0 5 1
def mN5 (X : gM) : gM := updM (newR X 5) 0 6 1
def mN6 (X : gM) : gM := updM (newR X 6) 0 11 1
def mN7 (X : gM) : gM := updM (updM X 1 6 10) 1 7 3
def V0 : gM := p_sea 48 0 (p_lin 2 0 (mN7 (mN6 (mN5 (mN4 (mN3 (mN2 (mN1 gZ))))))))
set_option maxHeartbeats 4000000 in
set_option maxRecDepth 100000 in
/-- MercuryLineModel() -/
theorem V0_0 : V0 0 0 = 1 ∧ V0 0 1 = 1 ∧ V0 0 3 = 1 ∧ V0 0 5 = 1 ∧ V0 0 6 = 1 ∧ V0 0 11 = 1 ∧ V0 0 2 = 0 ∧ V0 0 4 = 0 ∧ V0 0 7 = 0 := by decide +kernel
theorem V0_r0 : ∀ i, i < 974 → V0 1 i = r0 i := by decide +kernel
/-- a new object and a new reference stand to each other as the steps want it -/
theorem Rl_new : Rl U0 V0 := Rl_start U0_r0 U0_log.1 U0_log.2 V0_r0 U0_0.2.2.2.2.2.2.1 U0_0.2.2.2.2.2.2.2 U0_h U0_t V0_0.2.2.2.2.2.2.1 V0_0.2.2.2.2.2.2.2.1 V0_0.2.2.2.2.2.2.2.2

