def lf_X9_callOf_8 (X : gM) (a1 : Int32) (a2 : Int32) (y_3 : Int32) (K : (Nat) → (Int32)) : Nat → (Nat) → (Int32)
  | 0, k_4 => K k_4
  | n + 1, k_4 =>
    if X 1 ((y_3 + 5).toNatClampNeg) ≤ nI k_4 then
      K k_4
    else
      if X 1 (((y_3 + 6) + (nI k_4)).toNatClampNeg) = a2 then
        nI k_4
      else
        lf_X9_callOf_8 X a1 a2 y_3 K n (k_4 + 1)
def lok_X9_callOf_8 (X : gM) (a1 : Int32) (a2 : Int32) (y_3 : Int32) (KO : (Nat) → Prop) : Nat → (Nat) → Prop
  | 0, k_4 => True
  | n + 1, k_4 =>
    (vp_in (y_3 + 5) 974) ∧
    (if X 1 ((y_3 + 5).toNatClampNeg) ≤ nI k_4 then
      KO k_4
    else
      (vp_in ((y_3 + 6) + (nI k_4)) 974) ∧
      (if X 1 (((y_3 + 6) + (nI k_4)).toNatClampNeg) = a2 then
        True
      else
        lok_X9_callOf_8 X a1 a2 y_3 KO n (k_4 + 1)))
def f_X9_callOf (X : gM) (a1 : Int32) (a2 : Int32) : Int32 :=
  lf_X9_callOf_8 X a1 a2 (f_X9_stationAt a1) (fun k_4w1 =>
        (-5)) 2147483648 0
def ok_X9_callOf (X : gM) (a1 : Int32) (a2 : Int32) : Prop :=
  lok_X9_callOf_8 X a1 a2 (f_X9_stationAt a1) (fun k_4w1 =>
        True) 2147483648 0
def lf_X9_dropCall_20 (a1 : Int32) (a2 : Int32) (y_3 : Int32) (K : (gM) → (Int32) → (gM)) : Nat → (gM) → (Int32) → (gM)
  | 0, Z, x_4 => K Z x_4
  | n + 1, Z, x_4 =>
    if Z 1 ((y_3 + 5).toNatClampNeg) ≤ x_4 then
      K Z x_4
    else
      let X1 := updM Z 1 (((y_3 + 6) + x_4).toNatClampNeg) (Z 1 ((((y_3 + 6) + x_4) + 1).toNatClampNeg))
      lf_X9_dropCall_20 a1 a2 y_3 K n X1 (x_4 + 1)
def lok_X9_dropCall_20 (a1 : Int32) (a2 : Int32) (y_3 : Int32) (KO : (gM) → (Int32) → Prop) : Nat → (gM) → (Int32) → Prop
  | 0, Z, x_4 => True
  | n + 1, Z, x_4 =>
    (vp_in (y_3 + 5) 974) ∧
    (if Z 1 ((y_3 + 5).toNatClampNeg) ≤ x_4 then
      KO Z x_4
    else
      (vp_in (((y_3 + 6) + x_4) + 1) 974) ∧
      (vp_in ((y_3 + 6) + x_4) 974) ∧
      ∀ X1 : gM, X1 = updM Z 1 (((y_3 + 6) + x_4).toNatClampNeg) (Z 1 ((((y_3 + 6) + x_4) + 1).toNatClampNeg)) →
      lok_X9_dropCall_20 a1 a2 y_3 KO n X1 (x_4 + 1))
def p_X9_dropCall (X : gM) (a1 : Int32) (a2 : Int32) : gM :=
  let X1 := updM X 1 (((f_X9_stationAt a1) + 5).toNatClampNeg) ((X 1 (((f_X9_stationAt a1) + 5).toNatClampNeg)) - 1)
  lf_X9_dropCall_20 a1 a2 (f_X9_stationAt a1) (fun X2 x_4w3 =>
        X2) 4294967296 X1 a2
def ok_X9_dropCall (X : gM) (a1 : Int32) (a2 : Int32) : Prop :=
  (vp_in ((f_X9_stationAt a1) + 5) 974) ∧
  (vp_in ((f_X9_stationAt a1) + 5) 974) ∧
  ∀ X1 : gM, X1 = updM X 1 (((f_X9_stationAt a1) + 5).toNatClampNeg) ((X 1 (((f_X9_stationAt a1) + 5).toNatClampNeg)) - 1) →
  lok_X9_dropCall_20 a1 a2 (f_X9_stationAt a1) (fun X2 x_4w3 =>
        True) 4294967296 X1 a2
def lf_X9_goOrders_2  (K : (gM) → (Nat) → (gM)) : Nat → (gM) → (Nat) → (gM)
  | 0, Z, k_1 => K Z k_1
  | n + 1, Z, k_1 =>
    if Z 1 2 ≤ nI k_1 then
      K Z k_1
    else
      if Z 1 ((nI ((194 + (10 * k_1)) + 4)).toNatClampNeg) = 1 then
        lf_X9_goOrders_2 K n Z (k_1 + 1)
      else
        if ((Z 1 0) - (Z 1 ((nI ((194 + (10 * k_1)) + 1)).toNatClampNeg))) - ((Z 1 0) - (Z 1 ((nI ((194 + (10 * k_1)) + 1)).toNatClampNeg))) / (Z 1 ((nI ((194 + (10 * k_1)) + 0)).toNatClampNeg)) * (Z 1 ((nI ((194 + (10 * k_1)) + 0)).toNatClampNeg)) = 0 then
          if Z 1 1 = 40 then
            let X4 := updM Z 1 ((nI ((194 + (10 * k_1)) + 3)).toNatClampNeg) ((Z 1 ((nI ((194 + (10 * k_1)) + 3)).toNatClampNeg)) + 1)
            lf_X9_goOrders_2 K n X4 (k_1 + 1)
          else
            let X1 := (p_X9_comes Z (Z 1 ((nI ((194 + (10 * k_1)) + 5)).toNatClampNeg)) (Z 1 ((nI ((194 + (10 * k_1)) + 7)).toNatClampNeg)) (Z 1 ((nI ((194 + (10 * k_1)) + 6)).toNatClampNeg)) (Z 1 ((nI ((194 + (10 * k_1)) + 8)).toNatClampNeg)) (Z 1 ((nI ((194 + (10 * k_1)) + 9)).toNatClampNeg))).2
            if 0 ≤ (p_X9_comes Z (Z 1 ((nI ((194 + (10 * k_1)) + 5)).toNatClampNeg)) (Z 1 ((nI ((194 + (10 * k_1)) + 7)).toNatClampNeg)) (Z 1 ((nI ((194 + (10 * k_1)) + 6)).toNatClampNeg)) (Z 1 ((nI ((194 + (10 * k_1)) + 8)).toNatClampNeg)) (Z 1 ((nI ((194 + (10 * k_1)) + 9)).toNatClampNeg))).1 then
              let X2 := updM X1 1 ((nI ((194 + (10 * k_1)) + 2)).toNatClampNeg) ((X1 1 ((nI ((194 + (10 * k_1)) + 2)).toNatClampNeg)) + 1)
              lf_X9_goOrders_2 K n X2 (k_1 + 1)
            else
              let X3 := updM X1 1 ((nI ((194 + (10 * k_1)) + 2)).toNatClampNeg) ((X1 1 ((nI ((194 + (10 * k_1)) + 2)).toNatClampNeg)) + 0)
              lf_X9_goOrders_2 K n X3 (k_1 + 1)
        else
          lf_X9_goOrders_2 K n Z (k_1 + 1)
def lok_X9_goOrders_2  (KO : (gM) → (Nat) → Prop) : Nat → (gM) → (Nat) → Prop
  | 0, Z, k_1 => True
  | n + 1, Z, k_1 =>
    (if Z 1 2 ≤ nI k_1 then
      KO Z k_1
    else
      (vp_in (nI ((194 + (10 * k_1)) + 4)) 974) ∧
      (if Z 1 ((nI ((194 + (10 * k_1)) + 4)).toNatClampNeg) = 1 then
        lok_X9_goOrders_2 KO n Z (k_1 + 1)
      else
        (vp_in (nI ((194 + (10 * k_1)) + 1)) 974) ∧
        (vp_in (nI ((194 + (10 * k_1)) + 0)) 974) ∧
        (¬ (Z 1 ((nI ((194 + (10 * k_1)) + 0)).toNatClampNeg)) = 0) ∧
        (if ((Z 1 0) - (Z 1 ((nI ((194 + (10 * k_1)) + 1)).toNatClampNeg))) - ((Z 1 0) - (Z 1 ((nI ((194 + (10 * k_1)) + 1)).toNatClampNeg))) / (Z 1 ((nI ((194 + (10 * k_1)) + 0)).toNatClampNeg)) * (Z 1 ((nI ((194 + (10 * k_1)) + 0)).toNatClampNeg)) = 0 then
          (if Z 1 1 = 40 then
            (vp_in (nI ((194 + (10 * k_1)) + 3)) 974) ∧
            (vp_in (nI ((194 + (10 * k_1)) + 3)) 974) ∧
            ∀ X4 : gM, X4 = updM Z 1 ((nI ((194 + (10 * k_1)) + 3)).toNatClampNeg) ((Z 1 ((nI ((194 + (10 * k_1)) + 3)).toNatClampNeg)) + 1) →
            lok_X9_goOrders_2 KO n X4 (k_1 + 1)
          else
            (vp_in (nI ((194 + (10 * k_1)) + 5)) 974) ∧
            (vp_in (nI ((194 + (10 * k_1)) + 7)) 974) ∧
            (vp_in (nI ((194 + (10 * k_1)) + 6)) 974) ∧
            (vp_in (nI ((194 + (10 * k_1)) + 8)) 974) ∧
            (vp_in (nI ((194 + (10 * k_1)) + 9)) 974) ∧
            (ok_X9_comes Z (Z 1 ((nI ((194 + (10 * k_1)) + 5)).toNatClampNeg)) (Z 1 ((nI ((194 + (10 * k_1)) + 7)).toNatClampNeg)) (Z 1 ((nI ((194 + (10 * k_1)) + 6)).toNatClampNeg)) (Z 1 ((nI ((194 + (10 * k_1)) + 8)).toNatClampNeg)) (Z 1 ((nI ((194 + (10 * k_1)) + 9)).toNatClampNeg))) ∧
            ∀ X1 : gM, X1 = (p_X9_comes Z (Z 1 ((nI ((194 + (10 * k_1)) + 5)).toNatClampNeg)) (Z 1 ((nI ((194 + (10 * k_1)) + 7)).toNatClampNeg)) (Z 1 ((nI ((194 + (10 * k_1)) + 6)).toNatClampNeg)) (Z 1 ((nI ((194 + (10 * k_1)) + 8)).toNatClampNeg)) (Z 1 ((nI ((194 + (10 * k_1)) + 9)).toNatClampNeg))).2 →
            (vp_in (nI ((194 + (10 * k_1)) + 2)) 974) ∧
            (if 0 ≤ (p_X9_comes Z (Z 1 ((nI ((194 + (10 * k_1)) + 5)).toNatClampNeg)) (Z 1 ((nI ((194 + (10 * k_1)) + 7)).toNatClampNeg)) (Z 1 ((nI ((194 + (10 * k_1)) + 6)).toNatClampNeg)) (Z 1 ((nI ((194 + (10 * k_1)) + 8)).toNatClampNeg)) (Z 1 ((nI ((194 + (10 * k_1)) + 9)).toNatClampNeg))).1 then
              (vp_in (nI ((194 + (10 * k_1)) + 2)) 974) ∧
              ∀ X2 : gM, X2 = updM X1 1 ((nI ((194 + (10 * k_1)) + 2)).toNatClampNeg) ((X1 1 ((nI ((194 + (10 * k_1)) + 2)).toNatClampNeg)) + 1) →
              lok_X9_goOrders_2 KO n X2 (k_1 + 1)
            else
              (vp_in (nI ((194 + (10 * k_1)) + 2)) 974) ∧
              ∀ X3 : gM, X3 = updM X1 1 ((nI ((194 + (10 * k_1)) + 2)).toNatClampNeg) ((X1 1 ((nI ((194 + (10 * k_1)) + 2)).toNatClampNeg)) + 0) →
              lok_X9_goOrders_2 KO n X3 (k_1 + 1)))
        else
          lok_X9_goOrders_2 KO n Z (k_1 + 1))))
def p_X9_goOrders (X : gM) : gM :=
  lf_X9_goOrders_2  (fun X1 k_1w1 =>
        X1) 2147483648 X 0
def ok_X9_goOrders (X : gM) : Prop :=
  lok_X9_goOrders_2  (fun X1 k_1w1 =>
        True) 2147483648 X 0
