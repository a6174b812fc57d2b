def p_X9_type (X : gM) (a1 : Int32) : Int32 × gM :=
  if X 0 7 = 60 then
    ((-3), X)
  else
    let X1 := updM X 5 ((X 0 7).toNatClampNeg) (vp_nar .char a1)
    let X2 := updM X1 0 7 ((X1 0 7) + 1)
    (X2 0 7, X2)
def ok_X9_type (X : gM) (a1 : Int32) : Prop :=
  (if X 0 7 = 60 then
    True
  else
    (vp_in (X 0 7) 60) ∧
    True)
def p_X9_clearText (X : gM) : Int32 × gM :=
  let X1 := updM X 0 7 0
  (X 0 7, X1)
def p_X9_takes (X : gM) (a1 : Int32) : gM :=
  if X 0 10 = 0 then
    if X 0 7 ≤ X 0 9 then
      let X4 := updM X 0 10 1
      if X4 0 10 = 0 then
        let X5 := updM X4 0 9 ((X4 0 9) + 1)
        X5
      else
        let X6 := updM X4 0 9 ((X4 0 9) + 0)
        X6
    else
      if X 5 ((X 0 9).toNatClampNeg) = a1 then
        let X7 := updM X 0 10 0
        if X7 0 10 = 0 then
          let X8 := updM X7 0 9 ((X7 0 9) + 1)
          X8
        else
          let X9 := updM X7 0 9 ((X7 0 9) + 0)
          X9
      else
        let X10 := updM X 0 10 1
        if X10 0 10 = 0 then
          let X11 := updM X10 0 9 ((X10 0 9) + 1)
          X11
        else
          let X12 := updM X10 0 9 ((X10 0 9) + 0)
          X12
  else
    let X1 := updM X 0 10 1
    if X1 0 10 = 0 then
      let X2 := updM X1 0 9 ((X1 0 9) + 1)
      X2
    else
      let X3 := updM X1 0 9 ((X1 0 9) + 0)
      X3
def ok_X9_takes (X : gM) (a1 : Int32) : Prop :=
  (if X 0 10 = 0 then
    (if X 0 7 ≤ X 0 9 then
      True
    else
      (vp_in (X 0 9) 60) ∧
      True)
  else
    True)
def p_X9_digit (X : gM) (a1 : Int32) (a2 : Int32) : Int32 × gM :=
  if X 0 7 ≤ X 0 9 then
    if X 0 10 = 0 then
      if f_X9_in (-5) a1 a2 = 0 then
        let X7 := updM X 0 10 1
        if X7 0 10 = 0 then
          let X8 := updM X7 0 9 ((X7 0 9) + 1)
          if X8 0 10 = 0 then
            ((-5), X8)
          else
            (0, X8)
        else
          let X9 := updM X7 0 9 ((X7 0 9) + 0)
          if X9 0 10 = 0 then
            ((-5), X9)
          else
            (0, X9)
      else
        let X4 := updM X 0 10 0
        if X4 0 10 = 0 then
          let X5 := updM X4 0 9 ((X4 0 9) + 1)
          if X5 0 10 = 0 then
            ((-5), X5)
          else
            (0, X5)
        else
          let X6 := updM X4 0 9 ((X4 0 9) + 0)
          if X6 0 10 = 0 then
            ((-5), X6)
          else
            (0, X6)
    else
      let X1 := updM X 0 10 1
      if X1 0 10 = 0 then
        let X2 := updM X1 0 9 ((X1 0 9) + 1)
        if X2 0 10 = 0 then
          ((-5), X2)
        else
          (0, X2)
      else
        let X3 := updM X1 0 9 ((X1 0 9) + 0)
        if X3 0 10 = 0 then
          ((-5), X3)
        else
          (0, X3)
  else
    if X 0 10 = 0 then
      if f_X9_in ((X 5 ((X 0 9).toNatClampNeg)) - 48) a1 a2 = 0 then
        let X16 := updM X 0 10 1
        if X16 0 10 = 0 then
          let X17 := updM X16 0 9 ((X16 0 9) + 1)
          if X17 0 10 = 0 then
            ((X 5 ((X 0 9).toNatClampNeg)) - 48, X17)
          else
            (0, X17)
        else
          let X18 := updM X16 0 9 ((X16 0 9) + 0)
          if X18 0 10 = 0 then
            ((X 5 ((X 0 9).toNatClampNeg)) - 48, X18)
          else
            (0, X18)
      else
        let X13 := updM X 0 10 0
        if X13 0 10 = 0 then
          let X14 := updM X13 0 9 ((X13 0 9) + 1)
          if X14 0 10 = 0 then
            ((X 5 ((X 0 9).toNatClampNeg)) - 48, X14)
          else
            (0, X14)
        else
          let X15 := updM X13 0 9 ((X13 0 9) + 0)
          if X15 0 10 = 0 then
            ((X 5 ((X 0 9).toNatClampNeg)) - 48, X15)
          else
            (0, X15)
    else
      let X10 := updM X 0 10 1
      if X10 0 10 = 0 then
        let X11 := updM X10 0 9 ((X10 0 9) + 1)
        if X11 0 10 = 0 then
          ((X 5 ((X 0 9).toNatClampNeg)) - 48, X11)
        else
          (0, X11)
      else
        let X12 := updM X10 0 9 ((X10 0 9) + 0)
        if X12 0 10 = 0 then
          ((X 5 ((X 0 9).toNatClampNeg)) - 48, X12)
        else
          (0, X12)
def ok_X9_digit (X : gM) (a1 : Int32) (a2 : Int32) : Prop :=
  (if X 0 7 ≤ X 0 9 then
    True
  else
    (vp_in (X 0 9) 60) ∧
    True)
def lf_X9_readValue_10  (K : (gM) → (Int32) → (Nat) → (Int32 × gM)) : Nat → (gM) → (Int32) → (Nat) → (Int32 × gM)
  | 0, Z, x_1, k_2 => K Z x_1 k_2
  | n + 1, Z, x_1, k_2 =>
    if 5 ≤ nI k_2 then
      K Z x_1 k_2
    else
      if x_1 ≤ 0 then
        K Z x_1 k_2
      else
        if Z 0 7 ≤ Z 0 9 then
          K Z x_1 k_2
        else
          if f_X9_in (Z 5 ((Z 0 9).toNatClampNeg)) 48 57 = 0 then
            K Z x_1 k_2
          else
            let X1 := updM Z 0 9 ((Z 0 9) + 1)
            lf_X9_readValue_10 K n X1 (((10 * x_1) + (Z 5 ((Z 0 9).toNatClampNeg))) - 48) (k_2 + 1)
def lok_X9_readValue_10  (KO : (gM) → (Int32) → (Nat) → Prop) : Nat → (gM) → (Int32) → (Nat) → Prop
  | 0, Z, x_1, k_2 => True
  | n + 1, Z, x_1, k_2 =>
    (if 5 ≤ nI k_2 then
      KO Z x_1 k_2
    else
      (if x_1 ≤ 0 then
        KO Z x_1 k_2
      else
        (if Z 0 7 ≤ Z 0 9 then
          KO Z x_1 k_2
        else
          (vp_in (Z 0 9) 60) ∧
          (if f_X9_in (Z 5 ((Z 0 9).toNatClampNeg)) 48 57 = 0 then
            KO Z x_1 k_2
          else
            (vp_in (Z 0 9) 60) ∧
            ∀ X1 : gM, X1 = updM Z 0 9 ((Z 0 9) + 1) →
            lok_X9_readValue_10 KO n X1 (((10 * x_1) + (Z 5 ((Z 0 9).toNatClampNeg))) - 48) (k_2 + 1)))))
def p_X9_readValue (X : gM) : Int32 × gM :=
  let X1 := (p_X9_digit X 0 9).2
  lf_X9_readValue_10  (fun X2 x_1w2 k_2w2 =>
        (x_1w2, X2)) 2147483648 X1 ((p_X9_digit X 0 9).1) 1
def ok_X9_readValue (X : gM) : Prop :=
  (ok_X9_digit X 0 9) ∧
  ∀ X1 : gM, X1 = (p_X9_digit X 0 9).2 →
  lok_X9_readValue_10  (fun X2 x_1w2 k_2w2 =>
        True) 2147483648 X1 ((p_X9_digit X 0 9).1) 1
def p_X9_readStation (X : gM) : Int32 × gM :=
  let X1 := (p_X9_digit X 0 1).2
  let X2 := (p_X9_digit X1 0 5).2
  ((10 * ((p_X9_digit X 0 1).1)) + ((p_X9_digit X1 0 5).1), X2)
def ok_X9_readStation (X : gM) : Prop :=
  (ok_X9_digit X 0 1) ∧
  ∀ X1 : gM, X1 = (p_X9_digit X 0 1).2 →
  (ok_X9_digit X1 0 5) ∧
  True
def p_X9_readTicket (X : gM) : gM :=
  let X1 := (p_X9_readValue X).2
  let X2 := updM X1 6 ((5 * (X 0 12)).toNatClampNeg) ((p_X9_readValue X).1)
  let X3 := p_X9_takes X2 44
  let X4 := (p_X9_digit X3 1 3).2
  let X5 := updM X4 6 (((5 * (X 0 12)) + 1).toNatClampNeg) ((p_X9_digit X3 1 3).1)
  let X6 := p_X9_takes X5 44
  let X7 := (p_X9_readStation X6).2
  let X8 := updM X7 6 (((5 * (X 0 12)) + 2).toNatClampNeg) ((p_X9_readStation X6).1)
  let X9 := p_X9_takes X8 62
  let X10 := (p_X9_readStation X9).2
  let X11 := updM X10 6 (((5 * (X 0 12)) + 3).toNatClampNeg) ((p_X9_readStation X9).1)
  let X12 := p_X9_takes X11 42
  let X13 := (p_X9_digit X12 1 9).2
  let X14 := updM X13 6 (((5 * (X 0 12)) + 4).toNatClampNeg) ((p_X9_digit X12 1 9).1)
  let X15 := updM X14 0 12 ((X14 0 12) + 1)
  X15
def ok_X9_readTicket (X : gM) : Prop :=
  (ok_X9_readValue X) ∧
  ∀ X1 : gM, X1 = (p_X9_readValue X).2 →
  (vp_in (5 * (X 0 12)) 30) ∧
  ∀ X2 : gM, X2 = updM X1 6 ((5 * (X 0 12)).toNatClampNeg) ((p_X9_readValue X).1) →
  (ok_X9_takes X2 44) ∧
  ∀ X3 : gM, X3 = p_X9_takes X2 44 →
  (ok_X9_digit X3 1 3) ∧
  ∀ X4 : gM, X4 = (p_X9_digit X3 1 3).2 →
  (vp_in ((5 * (X 0 12)) + 1) 30) ∧
  ∀ X5 : gM, X5 = updM X4 6 (((5 * (X 0 12)) + 1).toNatClampNeg) ((p_X9_digit X3 1 3).1) →
  (ok_X9_takes X5 44) ∧
  ∀ X6 : gM, X6 = p_X9_takes X5 44 →
  (ok_X9_readStation X6) ∧
  ∀ X7 : gM, X7 = (p_X9_readStation X6).2 →
  (vp_in ((5 * (X 0 12)) + 2) 30) ∧
  ∀ X8 : gM, X8 = updM X7 6 (((5 * (X 0 12)) + 2).toNatClampNeg) ((p_X9_readStation X6).1) →
  (ok_X9_takes X8 62) ∧
  ∀ X9 : gM, X9 = p_X9_takes X8 62 →
  (ok_X9_readStation X9) ∧
  ∀ X10 : gM, X10 = (p_X9_readStation X9).2 →
  (vp_in ((5 * (X 0 12)) + 3) 30) ∧
  ∀ X11 : gM, X11 = updM X10 6 (((5 * (X 0 12)) + 3).toNatClampNeg) ((p_X9_readStation X9).1) →
  (ok_X9_takes X11 42) ∧
  ∀ X12 : gM, X12 = p_X9_takes X11 42 →
  (ok_X9_digit X12 1 9) ∧
  ∀ X13 : gM, X13 = (p_X9_digit X12 1 9).2 →
  (vp_in ((5 * (X 0 12)) + 4) 30) ∧
  True
def lf_X9_readAll_19  (K : (gM) → (gM)) : Nat → (gM) → (gM)
  | 0, Z => K Z
  | n + 1, Z =>
    if Z 0 10 = 0 then
      if Z 0 7 ≤ Z 0 9 then
        K Z
      else
        let X1 := p_X9_takes Z 59
        if X1 0 10 = 0 then
          let X2 := p_X9_readTicket X1
          lf_X9_readAll_19 K n X2
        else
          lf_X9_readAll_19 K n X1
    else
      K Z
def lok_X9_readAll_19  (KO : (gM) → Prop) : Nat → (gM) → Prop
  | 0, Z => False
  | n + 1, Z =>
    (if Z 0 10 = 0 then
      (if Z 0 7 ≤ Z 0 9 then
        KO Z
      else
        (ok_X9_takes Z 59) ∧
        ∀ X1 : gM, X1 = p_X9_takes Z 59 →
        (if X1 0 10 = 0 then
          (ok_X9_readTicket X1) ∧
          ∀ X2 : gM, X2 = p_X9_readTicket X1 →
          lok_X9_readAll_19 KO n X2
        else
          lok_X9_readAll_19 KO n X1))
    else
      KO Z)
def p_X9_readAll (X : gM) : gM :=
  let X1 := updM X 0 9 0
  let X2 := updM X1 0 10 0
  let X3 := updM X2 0 12 0
  let X4 := p_X9_readTicket X3
  lf_X9_readAll_19  (fun X5 =>
        X5) 70 X4
def ok_X9_readAll (X : gM) : Prop :=
  ∀ X1 : gM, X1 = updM X 0 9 0 →
  ∀ X2 : gM, X2 = updM X1 0 10 0 →
  ∀ X3 : gM, X3 = updM X2 0 12 0 →
  (ok_X9_readTicket X3) ∧
  ∀ X4 : gM, X4 = p_X9_readTicket X3 →
  lok_X9_readAll_19  (fun X5 =>
        True) 70 X4
def lf_X9_readTickets_21 (Z : gM) (K : (Int32) → (Int32 × gM)) : Nat → (Int32) → (Int32 × gM)
  | 0, x_1 => K x_1
  | n + 1, x_1 =>
    if 5 * (Z 0 12) ≤ x_1 then
      K x_1
    else
      if 0 ≤ f_X9_against Z (Z 6 x_1.toNatClampNeg) (Z 6 ((x_1 + 1).toNatClampNeg)) (Z 6 ((x_1 + 2).toNatClampNeg)) (Z 6 ((x_1 + 3).toNatClampNeg)) (Z 6 ((x_1 + 4).toNatClampNeg)) then
        lf_X9_readTickets_21 Z K n (x_1 + 5)
      else
        (f_X9_against Z (Z 6 x_1.toNatClampNeg) (Z 6 ((x_1 + 1).toNatClampNeg)) (Z 6 ((x_1 + 2).toNatClampNeg)) (Z 6 ((x_1 + 3).toNatClampNeg)) (Z 6 ((x_1 + 4).toNatClampNeg)), Z)
def lok_X9_readTickets_21 (Z : gM) (KO : (Int32) → Prop) : Nat → (Int32) → Prop
  | 0, x_1 => False
  | n + 1, x_1 =>
    (if 5 * (Z 0 12) ≤ x_1 then
      KO x_1
    else
      (vp_in (x_1) 30) ∧
      (vp_in (x_1 + 1) 30) ∧
      (vp_in (x_1 + 2) 30) ∧
      (vp_in (x_1 + 3) 30) ∧
      (vp_in (x_1 + 4) 30) ∧
      (ok_X9_against Z (Z 6 x_1.toNatClampNeg) (Z 6 ((x_1 + 1).toNatClampNeg)) (Z 6 ((x_1 + 2).toNatClampNeg)) (Z 6 ((x_1 + 3).toNatClampNeg)) (Z 6 ((x_1 + 4).toNatClampNeg))) ∧
      (if 0 ≤ f_X9_against Z (Z 6 x_1.toNatClampNeg) (Z 6 ((x_1 + 1).toNatClampNeg)) (Z 6 ((x_1 + 2).toNatClampNeg)) (Z 6 ((x_1 + 3).toNatClampNeg)) (Z 6 ((x_1 + 4).toNatClampNeg)) then
        lok_X9_readTickets_21 Z KO n (x_1 + 5)
      else
        True))
def lf_X9_readTickets_113  (K : (gM) → (Int32) → (Int32) → (Int32 × gM)) : Nat → (gM) → (Int32) → (Int32) → (Int32 × gM)
  | 0, Z, x_1, x_2 => K Z x_1 x_2
  | n + 1, Z, x_1, x_2 =>
    if 5 * (Z 0 12) ≤ x_2 then
      K Z x_1 x_2
    else
      let X1 := (p_X9_comes Z (Z 6 x_2.toNatClampNeg) (Z 6 ((x_2 + 1).toNatClampNeg)) (Z 6 ((x_2 + 2).toNatClampNeg)) (Z 6 ((x_2 + 3).toNatClampNeg)) (Z 6 ((x_2 + 4).toNatClampNeg))).2
      lf_X9_readTickets_113 K n X1 (x_1 + (f_X9_of X1 ((p_X9_comes Z (Z 6 x_2.toNatClampNeg) (Z 6 ((x_2 + 1).toNatClampNeg)) (Z 6 ((x_2 + 2).toNatClampNeg)) (Z 6 ((x_2 + 3).toNatClampNeg)) (Z 6 ((x_2 + 4).toNatClampNeg))).1) 5)) (x_2 + 5)
def lok_X9_readTickets_113  (KO : (gM) → (Int32) → (Int32) → Prop) : Nat → (gM) → (Int32) → (Int32) → Prop
  | 0, Z, x_1, x_2 => False
  | n + 1, Z, x_1, x_2 =>
    (if 5 * (Z 0 12) ≤ x_2 then
      KO Z x_1 x_2
    else
      (vp_in (x_2) 30) ∧
      (vp_in (x_2 + 1) 30) ∧
      (vp_in (x_2 + 2) 30) ∧
      (vp_in (x_2 + 3) 30) ∧
      (vp_in (x_2 + 4) 30) ∧
      (ok_X9_comes Z (Z 6 x_2.toNatClampNeg) (Z 6 ((x_2 + 1).toNatClampNeg)) (Z 6 ((x_2 + 2).toNatClampNeg)) (Z 6 ((x_2 + 3).toNatClampNeg)) (Z 6 ((x_2 + 4).toNatClampNeg))) ∧
      ∀ X1 : gM, X1 = (p_X9_comes Z (Z 6 x_2.toNatClampNeg) (Z 6 ((x_2 + 1).toNatClampNeg)) (Z 6 ((x_2 + 2).toNatClampNeg)) (Z 6 ((x_2 + 3).toNatClampNeg)) (Z 6 ((x_2 + 4).toNatClampNeg))).2 →
      (ok_X9_of X1 ((p_X9_comes Z (Z 6 x_2.toNatClampNeg) (Z 6 ((x_2 + 1).toNatClampNeg)) (Z 6 ((x_2 + 2).toNatClampNeg)) (Z 6 ((x_2 + 3).toNatClampNeg)) (Z 6 ((x_2 + 4).toNatClampNeg))).1) 5) ∧
      lok_X9_readTickets_113 KO n X1 (x_1 + (f_X9_of X1 ((p_X9_comes Z (Z 6 x_2.toNatClampNeg) (Z 6 ((x_2 + 1).toNatClampNeg)) (Z 6 ((x_2 + 2).toNatClampNeg)) (Z 6 ((x_2 + 3).toNatClampNeg)) (Z 6 ((x_2 + 4).toNatClampNeg))).1) 5)) (x_2 + 5))
def p_X9_readTickets (X : gM) : Int32 × gM :=
  let X1 := p_X9_readAll X
  if X1 0 10 = 0 then
    lf_X9_readTickets_21 X1 (fun x_1w3 =>
          if (X1 1 1) + (X1 0 12) ≤ 40 then
            let X2 := p_X9_records X1
            lf_X9_readTickets_113  (fun X3 x_1w6 x_2w6 =>
            (x_1w6, X3)) 4294967296 X2 0 0
          else
            ((-3), X1)) 4294967296 0
  else
    ((-100) - (X1 0 9), X1)
def ok_X9_readTickets (X : gM) : Prop :=
  (ok_X9_readAll X) ∧
  ∀ X1 : gM, X1 = p_X9_readAll X →
  (if X1 0 10 = 0 then
    lok_X9_readTickets_21 X1 (fun x_1w3 =>
          (if (X1 1 1) + (X1 0 12) ≤ 40 then
            (ok_X9_records X1) ∧
            ∀ X2 : gM, X2 = p_X9_records X1 →
            lok_X9_readTickets_113  (fun X3 x_1w6 x_2w6 =>
            True) 4294967296 X2 0 0
          else
            True)) 4294967296 0
  else
    True)
