def lf_X9_records_51  (K : (gM) → (Nat) → (gM)) : Nat → (gM) → (Nat) → (gM)
  | 0, Z, k_1 => K Z k_1
  | n + 1, Z, k_1 =>
    if 974 ≤ nI k_1 then
      K Z k_1
    else
      let X1 := updM Z 2 (((974 * (Z 0 2)) + (nI k_1)).toNatClampNeg) (Z 1 k_1)
      lf_X9_records_51 K n X1 (k_1 + 1)
def lok_X9_records_51  (KO : (gM) → (Nat) → Prop) : Nat → (gM) → (Nat) → Prop
  | 0, Z, k_1 => True
  | n + 1, Z, k_1 =>
    (if 974 ≤ nI k_1 then
      KO Z k_1
    else
      (vp_in ((974 * (Z 0 2)) + (nI k_1)) 3896) ∧
      ∀ X1 : gM, X1 = updM Z 2 (((974 * (Z 0 2)) + (nI k_1)).toNatClampNeg) (Z 1 k_1) →
      lok_X9_records_51 KO n X1 (k_1 + 1))
def lf_X9_records_10  (K : (gM) → (Nat) → (gM)) : Nat → (gM) → (Nat) → (gM)
  | 0, Z, k_1 => K Z k_1
  | n + 1, Z, k_1 =>
    if 2922 ≤ nI k_1 then
      K Z k_1
    else
      let X1 := updM Z 2 k_1 (Z 2 ((nI (k_1 + 974)).toNatClampNeg))
      lf_X9_records_10 K n X1 (k_1 + 1)
def lok_X9_records_10  (KO : (gM) → (Nat) → Prop) : Nat → (gM) → (Nat) → Prop
  | 0, Z, k_1 => True
  | n + 1, Z, k_1 =>
    (if 2922 ≤ nI k_1 then
      KO Z k_1
    else
      (vp_in (nI (k_1 + 974)) 3896) ∧
      ∀ X1 : gM, X1 = updM Z 2 k_1 (Z 2 ((nI (k_1 + 974)).toNatClampNeg)) →
      lok_X9_records_10 KO n X1 (k_1 + 1))
def p_X9_records (X : gM) : gM :=
  if X 0 2 = 4 then
    lf_X9_records_10  (fun X3 k_1w3 =>
          let X4 := updM X3 0 2 ((X3 0 2) - 1)
          lf_X9_records_51  (fun X5 k_1w4 =>
          let X6 := updM X5 0 2 ((X5 0 2) + 1)
          X6) 2147483648 X4 0) 2147483648 X 0
  else
    lf_X9_records_51  (fun X1 k_1w2 =>
          let X2 := updM X1 0 2 ((X1 0 2) + 1)
          X2) 2147483648 X 0
def ok_X9_records (X : gM) : Prop :=
  (if X 0 2 = 4 then
    lok_X9_records_10  (fun X3 k_1w3 =>
          ∀ X4 : gM, X4 = updM X3 0 2 ((X3 0 2) - 1) →
          lok_X9_records_51  (fun X5 k_1w4 =>
          True) 2147483648 X4 0) 2147483648 X 0
  else
    lok_X9_records_51  (fun X1 k_1w2 =>
          True) 2147483648 X 0)
def lf_X9_build_40 (a1 : Int32) (a2 : Int32) (Z : gM) (K : (Int32) → (Nat) → (Int32 × gM)) : Nat → (Int32) → (Nat) → (Int32 × gM)
  | 0, x_3, k_4 => K x_3 k_4
  | n + 1, x_3, k_4 =>
    if f_X9_ofLine Z a1 4 ≤ nI k_4 then
      K x_3 k_4
    else
      if x_3 = 0 then
        lf_X9_build_40 a1 a2 Z K n 0 (k_4 + 1)
      else
        if a2 ≤ Z 1 (((f_X9_stationAt ((10 * a1) + (nI k_4))) + 0).toNatClampNeg) then
          lf_X9_build_40 a1 a2 Z K n 0 (k_4 + 1)
        else
          lf_X9_build_40 a1 a2 Z K n 1 (k_4 + 1)
def lok_X9_build_40 (a1 : Int32) (a2 : Int32) (Z : gM) (KO : (Int32) → (Nat) → Prop) : Nat → (Int32) → (Nat) → Prop
  | 0, x_3, k_4 => True
  | n + 1, x_3, k_4 =>
    (ok_X9_ofLine Z a1 4) ∧
    (if f_X9_ofLine Z a1 4 ≤ nI k_4 then
      KO x_3 k_4
    else
      (if x_3 = 0 then
        lok_X9_build_40 a1 a2 Z KO n 0 (k_4 + 1)
      else
        (vp_in ((f_X9_stationAt ((10 * a1) + (nI k_4))) + 0) 974) ∧
        (if a2 ≤ Z 1 (((f_X9_stationAt ((10 * a1) + (nI k_4))) + 0).toNatClampNeg) then
          lok_X9_build_40 a1 a2 Z KO n 0 (k_4 + 1)
        else
          lok_X9_build_40 a1 a2 Z KO n 1 (k_4 + 1))))
def p_X9_build (X : gM) (a1 : Int32) (a2 : Int32) : Int32 × gM :=
  if f_X9_isLine a1 = 0 then
    ((-1), X)
  else
    if f_X9_in a2 2 24 = 0 then
      ((-2), X)
    else
      if f_X9_on X a1 1 = 0 then
        lf_X9_build_40 a1 a2 X (fun x_3w13 k_4w13 =>
              if x_3w13 = 0 then
                ((-4), X)
              else
                if f_X9_ofLine X a1 0 = a2 then
                  ((-5), X)
                else
                  let X5 := p_X9_records X
                  let X6 := updM X5 1 (((10 + (8 * a1)) + 0).toNatClampNeg) a2
                  let X7 := updM X6 1 (((10 + (8 * a1)) + 1).toNatClampNeg) 0
                  let X8 := updM X7 1 (((10 + (8 * a1)) + 2).toNatClampNeg) 0
                  (f_X9_ofLine X a1 0, X8)) 2147483648 1 0
      else
        lf_X9_build_40 a1 a2 X (fun x_3w5 k_4w5 =>
              if x_3w5 = 0 then
                ((-4), X)
              else
                if f_X9_ofLine X a1 0 = a2 then
                  ((-5), X)
                else
                  let X1 := p_X9_records X
                  let X2 := updM X1 1 (((10 + (8 * a1)) + 0).toNatClampNeg) a2
                  let X3 := updM X2 1 (((10 + (8 * a1)) + 1).toNatClampNeg) 0
                  let X4 := updM X3 1 (((10 + (8 * a1)) + 2).toNatClampNeg) 0
                  (f_X9_ofLine X a1 0, X4)) 2147483648 0 0
def ok_X9_build (X : gM) (a1 : Int32) (a2 : Int32) : Prop :=
  (if f_X9_isLine a1 = 0 then
    True
  else
    (if f_X9_in a2 2 24 = 0 then
      True
    else
      (ok_X9_on X a1 1) ∧
      (if f_X9_on X a1 1 = 0 then
        lok_X9_build_40 a1 a2 X (fun x_3w13 k_4w13 =>
              (if x_3w13 = 0 then
                True
              else
                (ok_X9_ofLine X a1 0) ∧
                (if f_X9_ofLine X a1 0 = a2 then
                  True
                else
                  (ok_X9_records X) ∧
                  ∀ X5 : gM, X5 = p_X9_records X →
                  (vp_in ((10 + (8 * a1)) + 0) 974) ∧
                  ∀ X6 : gM, X6 = updM X5 1 (((10 + (8 * a1)) + 0).toNatClampNeg) a2 →
                  (vp_in ((10 + (8 * a1)) + 1) 974) ∧
                  ∀ X7 : gM, X7 = updM X6 1 (((10 + (8 * a1)) + 1).toNatClampNeg) 0 →
                  (vp_in ((10 + (8 * a1)) + 2) 974) ∧
                  True))) 2147483648 1 0
      else
        lok_X9_build_40 a1 a2 X (fun x_3w5 k_4w5 =>
              (if x_3w5 = 0 then
                True
              else
                (ok_X9_ofLine X a1 0) ∧
                (if f_X9_ofLine X a1 0 = a2 then
                  True
                else
                  (ok_X9_records X) ∧
                  ∀ X1 : gM, X1 = p_X9_records X →
                  (vp_in ((10 + (8 * a1)) + 0) 974) ∧
                  ∀ X2 : gM, X2 = updM X1 1 (((10 + (8 * a1)) + 0).toNatClampNeg) a2 →
                  (vp_in ((10 + (8 * a1)) + 1) 974) ∧
                  ∀ X3 : gM, X3 = updM X2 1 (((10 + (8 * a1)) + 1).toNatClampNeg) 0 →
                  (vp_in ((10 + (8 * a1)) + 2) 974) ∧
                  True))) 2147483648 0 0)))
def lf_X9_addStation_38 (a1 : Int32) (a2 : Int32) (Z : gM) (y_3 : Int32) (K : (Nat) → (Int32 × gM)) : Nat → (Nat) → (Int32 × gM)
  | 0, k_4 => K k_4
  | n + 1, k_4 =>
    if y_3 ≤ nI k_4 then
      K k_4
    else
      if Z 1 (((f_X9_stationAt ((10 * a1) + (nI k_4))) + 0).toNatClampNeg) = a2 then
        ((-4), Z)
      else
        lf_X9_addStation_38 a1 a2 Z y_3 K n (k_4 + 1)
def lok_X9_addStation_38 (a1 : Int32) (a2 : Int32) (Z : gM) (y_3 : Int32) (KO : (Nat) → Prop) : Nat → (Nat) → Prop
  | 0, k_4 => True
  | n + 1, k_4 =>
    (if y_3 ≤ nI k_4 then
      KO k_4
    else
      (vp_in ((f_X9_stationAt ((10 * a1) + (nI k_4))) + 0) 974) ∧
      (if Z 1 (((f_X9_stationAt ((10 * a1) + (nI k_4))) + 0).toNatClampNeg) = a2 then
        True
      else
        lok_X9_addStation_38 a1 a2 Z y_3 KO n (k_4 + 1)))
def lf_X9_addStation_101 (a1 : Int32) (a2 : Int32) (y_3 : Int32) (y_4 : Int32) (K : (gM) → (Nat) → (Int32 × gM)) : Nat → (gM) → (Nat) → (Int32 × gM)
  | 0, Z, k_5 => K Z k_5
  | n + 1, Z, k_5 =>
    if 10 ≤ nI k_5 then
      K Z k_5
    else
      let X1 := updM Z 1 ((y_4 + (nI k_5)).toNatClampNeg) 0
      lf_X9_addStation_101 a1 a2 y_3 y_4 K n X1 (k_5 + 1)
def lok_X9_addStation_101 (a1 : Int32) (a2 : Int32) (y_3 : Int32) (y_4 : Int32) (KO : (gM) → (Nat) → Prop) : Nat → (gM) → (Nat) → Prop
  | 0, Z, k_5 => True
  | n + 1, Z, k_5 =>
    (if 10 ≤ nI k_5 then
      KO Z k_5
    else
      (vp_in (y_4 + (nI k_5)) 974) ∧
      ∀ X1 : gM, X1 = updM Z 1 ((y_4 + (nI k_5)).toNatClampNeg) 0 →
      lok_X9_addStation_101 a1 a2 y_3 y_4 KO n X1 (k_5 + 1))
def p_X9_addStation (X : gM) (a1 : Int32) (a2 : Int32) : Int32 × gM :=
  if f_X9_isLine a1 = 0 then
    ((-1), X)
  else
    if f_X9_in a2 0 ((f_X9_ofLine X a1 0) - 1) = 0 then
      ((-2), X)
    else
      lf_X9_addStation_38 a1 a2 X (f_X9_ofLine X a1 4) (fun k_4w5 =>
            if f_X9_ofLine X a1 4 = 6 then
              ((-3), X)
            else
              let X1 := p_X9_records X
              lf_X9_addStation_101 a1 a2 (f_X9_ofLine X a1 4) (f_X9_stationAt ((10 * a1) + (f_X9_ofLine X a1 4))) (fun X2 k_5w8 =>
              let X3 := updM X2 1 (((f_X9_stationAt ((10 * a1) + (f_X9_ofLine X a1 4))) + 0).toNatClampNeg) a2
              let X4 := updM X3 1 (((10 + (8 * a1)) + 4).toNatClampNeg) ((X3 1 (((10 + (8 * a1)) + 4).toNatClampNeg)) + 1)
              (f_X9_ofLine X a1 4, X4)) 2147483648 X1 0) 2147483648 0
def ok_X9_addStation (X : gM) (a1 : Int32) (a2 : Int32) : Prop :=
  (if f_X9_isLine a1 = 0 then
    True
  else
    (ok_X9_ofLine X a1 0) ∧
    (if f_X9_in a2 0 ((f_X9_ofLine X a1 0) - 1) = 0 then
      True
    else
      (ok_X9_ofLine X a1 4) ∧
      lok_X9_addStation_38 a1 a2 X (f_X9_ofLine X a1 4) (fun k_4w5 =>
            (if f_X9_ofLine X a1 4 = 6 then
              True
            else
              (ok_X9_records X) ∧
              ∀ X1 : gM, X1 = p_X9_records X →
              lok_X9_addStation_101 a1 a2 (f_X9_ofLine X a1 4) (f_X9_stationAt ((10 * a1) + (f_X9_ofLine X a1 4))) (fun X2 k_5w8 =>
              (vp_in ((f_X9_stationAt ((10 * a1) + (f_X9_ofLine X a1 4))) + 0) 974) ∧
              ∀ X3 : gM, X3 = updM X2 1 (((f_X9_stationAt ((10 * a1) + (f_X9_ofLine X a1 4))) + 0).toNatClampNeg) a2 →
              (vp_in ((10 + (8 * a1)) + 4) 974) ∧
              (vp_in ((10 + (8 * a1)) + 4) 974) ∧
              True) 2147483648 X1 0)) 2147483648 0))
def p_X9_setHeat (X : gM) (a1 : Int32) (a2 : Int32) : Int32 × gM :=
  if f_X9_isLine a1 = 0 then
    ((-1), X)
  else
    if f_X9_in a2 (-10) 10 = 0 then
      ((-2), X)
    else
      if a2 - (f_X9_ofLine X a1 3) = 0 then
        ((-5), X)
      else
        let X1 := p_X9_records X
        let X2 := updM X1 1 (((10 + (8 * a1)) + 3).toNatClampNeg) a2
        if 0 ≤ a2 - (f_X9_ofLine X a1 3) then
          (a2 - (f_X9_ofLine X a1 3), X2)
        else
          (-(a2 - (f_X9_ofLine X a1 3)), X2)
def ok_X9_setHeat (X : gM) (a1 : Int32) (a2 : Int32) : Prop :=
  (if f_X9_isLine a1 = 0 then
    True
  else
    (if f_X9_in a2 (-10) 10 = 0 then
      True
    else
      (ok_X9_ofLine X a1 3) ∧
      (if a2 - (f_X9_ofLine X a1 3) = 0 then
        True
      else
        (ok_X9_records X) ∧
        ∀ X1 : gM, X1 = p_X9_records X →
        (vp_in ((10 + (8 * a1)) + 3) 974) ∧
        True)))
def p_X9_sets (X : gM) (a1 : Int32) (a2 : Int32) : Int32 × gM :=
  if X 1 a1.toNatClampNeg = a2 then
    ((-5), X)
  else
    let X1 := p_X9_records X
    let X2 := updM X1 1 a1.toNatClampNeg a2
    (X 1 a1.toNatClampNeg, X2)
def ok_X9_sets (X : gM) (a1 : Int32) (a2 : Int32) : Prop :=
  (vp_in (a1) 974) ∧
  (if X 1 a1.toNatClampNeg = a2 then
    True
  else
    (ok_X9_records X) ∧
    ∀ X1 : gM, X1 = p_X9_records X →
    (vp_in (a1) 974) ∧
    True)
def p_X9_setFare (X : gM) (a1 : Int32) : Int32 × gM :=
  if f_X9_in a1 1 99 = 0 then
    ((-2), X)
  else
    let X1 := (p_X9_sets X 6 a1).2
    ((p_X9_sets X 6 a1).1, X1)
def ok_X9_setFare (X : gM) (a1 : Int32) : Prop :=
  (if f_X9_in a1 1 99 = 0 then
    True
  else
    (ok_X9_sets X 6 a1) ∧
    True)
def p_X9_setPatience (X : gM) (a1 : Int32) : Int32 × gM :=
  if f_X9_in a1 0 50 = 0 then
    ((-2), X)
  else
    let X1 := (p_X9_sets X 7 a1).2
    ((p_X9_sets X 7 a1).1, X1)
def ok_X9_setPatience (X : gM) (a1 : Int32) : Prop :=
  (if f_X9_in a1 0 50 = 0 then
    True
  else
    (ok_X9_sets X 7 a1) ∧
    True)
def lf_X9_drain_29 (a1 : Int32) (y_2 : Int32) (K : (gM) → (Nat) → (Int32 × gM)) : Nat → (gM) → (Nat) → (Int32 × gM)
  | 0, Z, k_3 => K Z k_3
  | n + 1, Z, k_3 =>
    if f_X9_ofLine Z a1 0 ≤ nI k_3 then
      K Z k_3
    else
      if f_X9_seat Z a1 (nI k_3) = (-5) then
        lf_X9_drain_29 a1 y_2 K n Z (k_3 + 1)
      else
        let X1 := p_X9_ends Z (f_X9_seat Z a1 (nI k_3)) 7 (-5) (f_X9_of Z (f_X9_seat Z a1 (nI k_3)) 5)
        let X2 := p_X9_logs X1 8 (f_X9_seat Z a1 (nI k_3)) a1 (-5)
        lf_X9_drain_29 a1 y_2 K n X2 (k_3 + 1)
def lok_X9_drain_29 (a1 : Int32) (y_2 : Int32) (KO : (gM) → (Nat) → Prop) : Nat → (gM) → (Nat) → Prop
  | 0, Z, k_3 => True
  | n + 1, Z, k_3 =>
    (ok_X9_ofLine Z a1 0) ∧
    (if f_X9_ofLine Z a1 0 ≤ nI k_3 then
      KO Z k_3
    else
      (ok_X9_seat Z a1 (nI k_3)) ∧
      (if f_X9_seat Z a1 (nI k_3) = (-5) then
        lok_X9_drain_29 a1 y_2 KO n Z (k_3 + 1)
      else
        (ok_X9_of Z (f_X9_seat Z a1 (nI k_3)) 5) ∧
        (ok_X9_ends Z (f_X9_seat Z a1 (nI k_3)) 7 (-5) (f_X9_of Z (f_X9_seat Z a1 (nI k_3)) 5)) ∧
        ∀ X1 : gM, X1 = p_X9_ends Z (f_X9_seat Z a1 (nI k_3)) 7 (-5) (f_X9_of Z (f_X9_seat Z a1 (nI k_3)) 5) →
        (ok_X9_logs X1 8 (f_X9_seat Z a1 (nI k_3)) a1 (-5)) ∧
        ∀ X2 : gM, X2 = p_X9_logs X1 8 (f_X9_seat Z a1 (nI k_3)) a1 (-5) →
        lok_X9_drain_29 a1 y_2 KO n X2 (k_3 + 1)))
def p_X9_drain (X : gM) (a1 : Int32) : Int32 × gM :=
  if f_X9_isLine a1 = 0 then
    ((-1), X)
  else
    if f_X9_on X a1 1 = 0 then
      ((-5), X)
    else
      let X1 := p_X9_records X
      lf_X9_drain_29 a1 (f_X9_on X a1 1) (fun X2 k_3w5 =>
            (f_X9_on X a1 1, X2)) 2147483648 X1 0
def ok_X9_drain (X : gM) (a1 : Int32) : Prop :=
  (if f_X9_isLine a1 = 0 then
    True
  else
    (ok_X9_on X a1 1) ∧
    (if f_X9_on X a1 1 = 0 then
      True
    else
      (ok_X9_records X) ∧
      ∀ X1 : gM, X1 = p_X9_records X →
      lok_X9_drain_29 a1 (f_X9_on X a1 1) (fun X2 k_3w5 =>
            True) 2147483648 X1 0))
