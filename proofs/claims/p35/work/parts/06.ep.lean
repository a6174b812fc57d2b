def p_X9_goLine (X : gM) (a1 : Int32) : gM :=
  if (X 1 (((10 + (8 * a1)) + 2).toNatClampNeg)) + (X 1 (((10 + (8 * a1)) + 3).toNatClampNeg)) < 10 then
    if (-10) < (X 1 (((10 + (8 * a1)) + 2).toNatClampNeg)) + (X 1 (((10 + (8 * a1)) + 3).toNatClampNeg)) then
      let X1 := updM X 1 (((10 + (8 * a1)) + 2).toNatClampNeg) ((X 1 (((10 + (8 * a1)) + 2).toNatClampNeg)) + (X 1 (((10 + (8 * a1)) + 3).toNatClampNeg)))
      let X2 := updM X1 1 (((10 + (8 * a1)) + 1).toNatClampNeg) (((X1 1 (((10 + (8 * a1)) + 1).toNatClampNeg)) + 1) - ((X1 1 (((10 + (8 * a1)) + 1).toNatClampNeg)) + 1) / (X1 1 (((10 + (8 * a1)) + 0).toNatClampNeg)) * (X1 1 (((10 + (8 * a1)) + 0).toNatClampNeg)))
      X2
    else
      let X3 := updM X 1 (((10 + (8 * a1)) + 2).toNatClampNeg) (((X 1 (((10 + (8 * a1)) + 2).toNatClampNeg)) + (X 1 (((10 + (8 * a1)) + 3).toNatClampNeg))) + 10)
      let X4 := updM X3 1 (((10 + (8 * a1)) + 1).toNatClampNeg) (((X3 1 (((10 + (8 * a1)) + 1).toNatClampNeg)) + 2) - ((X3 1 (((10 + (8 * a1)) + 1).toNatClampNeg)) + 2) / (X3 1 (((10 + (8 * a1)) + 0).toNatClampNeg)) * (X3 1 (((10 + (8 * a1)) + 0).toNatClampNeg)))
      let X5 := updM X4 1 (((10 + (8 * a1)) + 6).toNatClampNeg) ((X4 1 (((10 + (8 * a1)) + 6).toNatClampNeg)) + 1)
      let X6 := p_X9_logs X5 7 (-5) a1 (-5)
      X6
  else
    let X7 := updM X 1 (((10 + (8 * a1)) + 2).toNatClampNeg) (((X 1 (((10 + (8 * a1)) + 2).toNatClampNeg)) + (X 1 (((10 + (8 * a1)) + 3).toNatClampNeg))) - 10)
    let X8 := updM X7 1 (((10 + (8 * a1)) + 1).toNatClampNeg) (((X7 1 (((10 + (8 * a1)) + 1).toNatClampNeg)) + 0) - ((X7 1 (((10 + (8 * a1)) + 1).toNatClampNeg)) + 0) / (X7 1 (((10 + (8 * a1)) + 0).toNatClampNeg)) * (X7 1 (((10 + (8 * a1)) + 0).toNatClampNeg)))
    let X9 := updM X8 1 (((10 + (8 * a1)) + 5).toNatClampNeg) ((X8 1 (((10 + (8 * a1)) + 5).toNatClampNeg)) + 1)
    let X10 := p_X9_logs X9 6 (-5) a1 (-5)
    X10
def ok_X9_goLine (X : gM) (a1 : Int32) : Prop :=
  (vp_in ((10 + (8 * a1)) + 2) 974) ∧
  (vp_in ((10 + (8 * a1)) + 3) 974) ∧
  (if (X 1 (((10 + (8 * a1)) + 2).toNatClampNeg)) + (X 1 (((10 + (8 * a1)) + 3).toNatClampNeg)) < 10 then
    (if (-10) < (X 1 (((10 + (8 * a1)) + 2).toNatClampNeg)) + (X 1 (((10 + (8 * a1)) + 3).toNatClampNeg)) then
      (vp_in ((10 + (8 * a1)) + 2) 974) ∧
      ∀ X1 : gM, X1 = updM X 1 (((10 + (8 * a1)) + 2).toNatClampNeg) ((X 1 (((10 + (8 * a1)) + 2).toNatClampNeg)) + (X 1 (((10 + (8 * a1)) + 3).toNatClampNeg))) →
      (vp_in ((10 + (8 * a1)) + 1) 974) ∧
      (vp_in ((10 + (8 * a1)) + 0) 974) ∧
      (¬ (X1 1 (((10 + (8 * a1)) + 0).toNatClampNeg)) = 0) ∧
      (vp_in ((10 + (8 * a1)) + 1) 974) ∧
      True
    else
      (vp_in ((10 + (8 * a1)) + 2) 974) ∧
      ∀ X3 : gM, X3 = updM X 1 (((10 + (8 * a1)) + 2).toNatClampNeg) (((X 1 (((10 + (8 * a1)) + 2).toNatClampNeg)) + (X 1 (((10 + (8 * a1)) + 3).toNatClampNeg))) + 10) →
      (vp_in ((10 + (8 * a1)) + 1) 974) ∧
      (vp_in ((10 + (8 * a1)) + 0) 974) ∧
      (¬ (X3 1 (((10 + (8 * a1)) + 0).toNatClampNeg)) = 0) ∧
      (vp_in ((10 + (8 * a1)) + 1) 974) ∧
      ∀ X4 : gM, X4 = updM X3 1 (((10 + (8 * a1)) + 1).toNatClampNeg) (((X3 1 (((10 + (8 * a1)) + 1).toNatClampNeg)) + 2) - ((X3 1 (((10 + (8 * a1)) + 1).toNatClampNeg)) + 2) / (X3 1 (((10 + (8 * a1)) + 0).toNatClampNeg)) * (X3 1 (((10 + (8 * a1)) + 0).toNatClampNeg))) →
      (vp_in ((10 + (8 * a1)) + 6) 974) ∧
      (vp_in ((10 + (8 * a1)) + 6) 974) ∧
      ∀ X5 : gM, X5 = updM X4 1 (((10 + (8 * a1)) + 6).toNatClampNeg) ((X4 1 (((10 + (8 * a1)) + 6).toNatClampNeg)) + 1) →
      (ok_X9_logs X5 7 (-5) a1 (-5)) ∧
      True)
  else
    (vp_in ((10 + (8 * a1)) + 2) 974) ∧
    ∀ X7 : gM, X7 = updM X 1 (((10 + (8 * a1)) + 2).toNatClampNeg) (((X 1 (((10 + (8 * a1)) + 2).toNatClampNeg)) + (X 1 (((10 + (8 * a1)) + 3).toNatClampNeg))) - 10) →
    (vp_in ((10 + (8 * a1)) + 1) 974) ∧
    (vp_in ((10 + (8 * a1)) + 0) 974) ∧
    (¬ (X7 1 (((10 + (8 * a1)) + 0).toNatClampNeg)) = 0) ∧
    (vp_in ((10 + (8 * a1)) + 1) 974) ∧
    ∀ X8 : gM, X8 = updM X7 1 (((10 + (8 * a1)) + 1).toNatClampNeg) (((X7 1 (((10 + (8 * a1)) + 1).toNatClampNeg)) + 0) - ((X7 1 (((10 + (8 * a1)) + 1).toNatClampNeg)) + 0) / (X7 1 (((10 + (8 * a1)) + 0).toNatClampNeg)) * (X7 1 (((10 + (8 * a1)) + 0).toNatClampNeg))) →
    (vp_in ((10 + (8 * a1)) + 5) 974) ∧
    (vp_in ((10 + (8 * a1)) + 5) 974) ∧
    ∀ X9 : gM, X9 = updM X8 1 (((10 + (8 * a1)) + 5).toNatClampNeg) ((X8 1 (((10 + (8 * a1)) + 5).toNatClampNeg)) + 1) →
    (ok_X9_logs X9 6 (-5) a1 (-5)) ∧
    True)
def lf_X9_goTick_13 (k_1 : Nat) (K : (gM) → (Nat) → (gM)) : Nat → (gM) → (Nat) → (gM)
  | 0, Z, k_2 => K Z k_2
  | n + 1, Z, k_2 =>
    if f_X9_ofLine Z (nI k_1) 4 ≤ nI k_2 then
      K Z k_2
    else
      let X1 := p_X9_goStation Z (nI ((10 * k_1) + k_2))
      lf_X9_goTick_13 k_1 K n X1 (k_2 + 1)
def lok_X9_goTick_13 (k_1 : Nat) (KO : (gM) → (Nat) → Prop) : Nat → (gM) → (Nat) → Prop
  | 0, Z, k_2 => True
  | n + 1, Z, k_2 =>
    (ok_X9_ofLine Z (nI k_1) 4) ∧
    (if f_X9_ofLine Z (nI k_1) 4 ≤ nI k_2 then
      KO Z k_2
    else
      (ok_X9_goStation Z (nI ((10 * k_1) + k_2))) ∧
      ∀ X1 : gM, X1 = p_X9_goStation Z (nI ((10 * k_1) + k_2)) →
      lok_X9_goTick_13 k_1 KO n X1 (k_2 + 1))
def lf_X9_goTick_6  (K : (gM) → (Nat) → (gM)) : Nat → (gM) → (Nat) → (gM)
  | 0, Z, k_1 => K Z k_1
  | n + 1, Z, k_1 =>
    if 2 ≤ nI k_1 then
      K Z k_1
    else
      lf_X9_goTick_13 k_1 (fun X1 k_2w4 =>
            lf_X9_goTick_6 K n X1 (k_1 + 1)) 2147483648 Z 0
def lok_X9_goTick_6  (KO : (gM) → (Nat) → Prop) : Nat → (gM) → (Nat) → Prop
  | 0, Z, k_1 => True
  | n + 1, Z, k_1 =>
    (if 2 ≤ nI k_1 then
      KO Z k_1
    else
      lok_X9_goTick_13 k_1 (fun X1 k_2w4 =>
            lok_X9_goTick_6 KO n X1 (k_1 + 1)) 2147483648 Z 0)
def p_X9_goTick (X : gM) : gM :=
  let X1 := p_X9_goOrders X
  lf_X9_goTick_6  (fun X2 k_1w2 =>
        let X3 := p_X9_goLine X2 0
        let X4 := p_X9_goLine X3 1
        let X5 := updM X4 1 0 ((X4 1 0) + 1)
        X5) 2147483648 X1 0
def ok_X9_goTick (X : gM) : Prop :=
  (ok_X9_goOrders X) ∧
  ∀ X1 : gM, X1 = p_X9_goOrders X →
  lok_X9_goTick_6  (fun X2 k_1w2 =>
        (ok_X9_goLine X2 0) ∧
        ∀ X3 : gM, X3 = p_X9_goLine X2 0 →
        (ok_X9_goLine X3 1) ∧
        True) 2147483648 X1 0
