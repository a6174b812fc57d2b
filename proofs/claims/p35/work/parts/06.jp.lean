def lf_X9_fateOf_2 (a1 : Int32) (a2 : Int32) (K : (gM) → (Nat) → (Int32 × gM)) : Nat → (gM) → (Nat) → (Int32 × gM)
  | 0, Z, k_3 => K Z k_3
  | n + 1, Z, k_3 =>
    if 300 < nI k_3 then
      K Z k_3
    else
      let X1 := p_X9_goTick Z
      if f_X9_of X1 a1 6 < 3 then
        lf_X9_fateOf_2 a1 a2 K n X1 (k_3 + 1)
      else
        if a2 = 0 then
          (f_X9_of X1 a1 6, X1)
        else
          if a2 = 1 then
            (nI k_3, X1)
          else
            if a2 = 2 then
              (f_X9_of X1 a1 12, X1)
            else
              (f_X9_of X1 a1 4, X1)
def lok_X9_fateOf_2 (a1 : Int32) (a2 : Int32) (KO : (gM) → (Nat) → Prop) : Nat → (gM) → (Nat) → Prop
  | 0, Z, k_3 => True
  | n + 1, Z, k_3 =>
    (if 300 < nI k_3 then
      KO Z k_3
    else
      (ok_X9_goTick Z) ∧
      ∀ X1 : gM, X1 = p_X9_goTick Z →
      (ok_X9_of X1 a1 6) ∧
      (if f_X9_of X1 a1 6 < 3 then
        lok_X9_fateOf_2 a1 a2 KO n X1 (k_3 + 1)
      else
        (if a2 = 0 then
          (ok_X9_of X1 a1 6) ∧
          True
        else
          (if a2 = 1 then
            True
          else
            (if a2 = 2 then
              (ok_X9_of X1 a1 12) ∧
              True
            else
              (ok_X9_of X1 a1 4) ∧
              True)))))
def p_X9_fateOf (X : gM) (a1 : Int32) (a2 : Int32) : Int32 × gM :=
  lf_X9_fateOf_2 a1 a2 (fun X1 k_3w1 =>
        ((-5), X1)) 2147483648 X 1
def ok_X9_fateOf (X : gM) (a1 : Int32) (a2 : Int32) : Prop :=
  lok_X9_fateOf_2 a1 a2 (fun X1 k_3w1 =>
        True) 2147483648 X 1
def lf_X9_fate_38 (a1 : Int32) (a2 : Int32) (K : (gM) → (Nat) → (Int32 × gM)) : Nat → (gM) → (Nat) → (Int32 × gM)
  | 0, Z, k_3 => K Z k_3
  | n + 1, Z, k_3 =>
    if 974 ≤ nI k_3 then
      K Z k_3
    else
      let X1 := updM Z 4 k_3 (Z 1 k_3)
      lf_X9_fate_38 a1 a2 K n X1 (k_3 + 1)
def lok_X9_fate_38 (a1 : Int32) (a2 : Int32) (KO : (gM) → (Nat) → Prop) : Nat → (gM) → (Nat) → Prop
  | 0, Z, k_3 => True
  | n + 1, Z, k_3 =>
    (if 974 ≤ nI k_3 then
      KO Z k_3
    else
      ∀ X1 : gM, X1 = updM Z 4 k_3 (Z 1 k_3) →
      lok_X9_fate_38 a1 a2 KO n X1 (k_3 + 1))
def lf_X9_fate_73 (a1 : Int32) (a2 : Int32) (y_3 : Int32) (K : (gM) → (Nat) → (Int32 × gM)) : Nat → (gM) → (Nat) → (Int32 × gM)
  | 0, Z, k_4 => K Z k_4
  | n + 1, Z, k_4 =>
    if 974 ≤ nI k_4 then
      K Z k_4
    else
      let X1 := updM Z 1 k_4 (Z 4 k_4)
      lf_X9_fate_73 a1 a2 y_3 K n X1 (k_4 + 1)
def lok_X9_fate_73 (a1 : Int32) (a2 : Int32) (y_3 : Int32) (KO : (gM) → (Nat) → Prop) : Nat → (gM) → (Nat) → Prop
  | 0, Z, k_4 => True
  | n + 1, Z, k_4 =>
    (if 974 ≤ nI k_4 then
      KO Z k_4
    else
      ∀ X1 : gM, X1 = updM Z 1 k_4 (Z 4 k_4) →
      lok_X9_fate_73 a1 a2 y_3 KO n X1 (k_4 + 1))
def p_X9_fate (X : gM) (a1 : Int32) (a2 : Int32) : Int32 × gM :=
  if f_X9_isTicket X a1 = 0 then
    ((-1), X)
  else
    if f_X9_in a2 0 3 = 0 then
      ((-2), X)
    else
      if f_X9_of X a1 6 < 3 then
        lf_X9_fate_38 a1 a2 (fun X1 k_3w5 =>
              let X2 := (p_X9_fateOf X1 a1 a2).2
              lf_X9_fate_73 a1 a2 ((p_X9_fateOf X1 a1 a2).1) (fun X3 k_4w7 =>
              ((p_X9_fateOf X1 a1 a2).1, X3)) 2147483648 X2 0) 2147483648 X 0
      else
        ((-4), X)
def ok_X9_fate (X : gM) (a1 : Int32) (a2 : Int32) : Prop :=
  (if f_X9_isTicket X a1 = 0 then
    True
  else
    (if f_X9_in a2 0 3 = 0 then
      True
    else
      (ok_X9_of X a1 6) ∧
      (if f_X9_of X a1 6 < 3 then
        lok_X9_fate_38 a1 a2 (fun X1 k_3w5 =>
              (ok_X9_fateOf X1 a1 a2) ∧
              ∀ X2 : gM, X2 = (p_X9_fateOf X1 a1 a2).2 →
              lok_X9_fate_73 a1 a2 ((p_X9_fateOf X1 a1 a2).1) (fun X3 k_4w7 =>
              True) 2147483648 X2 0) 2147483648 X 0
      else
        True)))
def p_X9_beginAlone (X : gM) (a1 : Int32) : gM :=
  let X1 := updM X 0 13 (f_X9_ofLine X a1 1)
  let X2 := updM X1 0 14 (f_X9_ofLine X1 a1 2)
  X2
def ok_X9_beginAlone (X : gM) (a1 : Int32) : Prop :=
  (ok_X9_ofLine X a1 1) ∧
  ∀ X1 : gM, X1 = updM X 0 13 (f_X9_ofLine X a1 1) →
  (ok_X9_ofLine X1 a1 2) ∧
  True
def p_X9_goAlone (X : gM) (a1 : Int32) : gM :=
  let X1 := updM X 0 14 ((X 0 14) + (f_X9_ofLine X a1 3))
  if X1 0 14 < 10 then
    if (-10) < X1 0 14 then
      let X2 := updM X1 0 14 ((X1 0 14) - 0)
      let X3 := updM X2 0 13 (((X2 0 13) + 1) - ((X2 0 13) + 1) / (f_X9_ofLine X2 a1 0) * (f_X9_ofLine X2 a1 0))
      X3
    else
      let X4 := updM X1 0 14 ((X1 0 14) - (-10))
      let X5 := updM X4 0 13 (((X4 0 13) + 2) - ((X4 0 13) + 2) / (f_X9_ofLine X4 a1 0) * (f_X9_ofLine X4 a1 0))
      X5
  else
    let X6 := updM X1 0 14 ((X1 0 14) - 10)
    let X7 := updM X6 0 13 (((X6 0 13) + 0) - ((X6 0 13) + 0) / (f_X9_ofLine X6 a1 0) * (f_X9_ofLine X6 a1 0))
    X7
def ok_X9_goAlone (X : gM) (a1 : Int32) : Prop :=
  (ok_X9_ofLine X a1 3) ∧
  ∀ X1 : gM, X1 = updM X 0 14 ((X 0 14) + (f_X9_ofLine X a1 3)) →
  (if X1 0 14 < 10 then
    (if (-10) < X1 0 14 then
      ∀ X2 : gM, X2 = updM X1 0 14 ((X1 0 14) - 0) →
      (ok_X9_ofLine X2 a1 0) ∧
      (¬ (f_X9_ofLine X2 a1 0) = 0) ∧
      True
    else
      ∀ X4 : gM, X4 = updM X1 0 14 ((X1 0 14) - (-10)) →
      (ok_X9_ofLine X4 a1 0) ∧
      (¬ (f_X9_ofLine X4 a1 0) = 0) ∧
      True)
  else
    ∀ X6 : gM, X6 = updM X1 0 14 ((X1 0 14) - 10) →
    (ok_X9_ofLine X6 a1 0) ∧
    (¬ (f_X9_ofLine X6 a1 0) = 0) ∧
    True)
def f_X9_slotAlone (X : gM) (a1 : Int32) : Int32 :=
  ((X 0 13) + (X 1 (((f_X9_stationAt a1) + 0).toNatClampNeg))) - ((X 0 13) + (X 1 (((f_X9_stationAt a1) + 0).toNatClampNeg))) / (f_X9_ofLine X (a1 / 10) 0) * (f_X9_ofLine X (a1 / 10) 0)
def ok_X9_slotAlone (X : gM) (a1 : Int32) : Prop :=
  (vp_in ((f_X9_stationAt a1) + 0) 974) ∧
  (ok_X9_ofLine X (a1 / 10) 0) ∧
  (¬ (f_X9_ofLine X (a1 / 10) 0) = 0) ∧
  True
def lf_X9_slotIn_34 (a1 : Int32) (a2 : Int32) (K : (gM) → (Nat) → (Int32 × gM)) : Nat → (gM) → (Nat) → (Int32 × gM)
  | 0, Z, k_3 => K Z k_3
  | n + 1, Z, k_3 =>
    if a2 ≤ nI k_3 then
      K Z k_3
    else
      let X1 := p_X9_goAlone Z (a1 / 10)
      lf_X9_slotIn_34 a1 a2 K n X1 (k_3 + 1)
def lok_X9_slotIn_34 (a1 : Int32) (a2 : Int32) (KO : (gM) → (Nat) → Prop) : Nat → (gM) → (Nat) → Prop
  | 0, Z, k_3 => True
  | n + 1, Z, k_3 =>
    (if a2 ≤ nI k_3 then
      KO Z k_3
    else
      (ok_X9_goAlone Z (a1 / 10)) ∧
      ∀ X1 : gM, X1 = p_X9_goAlone Z (a1 / 10) →
      lok_X9_slotIn_34 a1 a2 KO n X1 (k_3 + 1))
def p_X9_slotIn (X : gM) (a1 : Int32) (a2 : Int32) : Int32 × gM :=
  if f_X9_isStation X a1 = 0 then
    ((-1), X)
  else
    if f_X9_in a2 0 300 = 0 then
      ((-2), X)
    else
      let X1 := p_X9_beginAlone X (a1 / 10)
      lf_X9_slotIn_34 a1 a2 (fun X2 k_3w5 =>
            (f_X9_slotAlone X2 a1, X2)) 2147483648 X1 0
def ok_X9_slotIn (X : gM) (a1 : Int32) (a2 : Int32) : Prop :=
  (ok_X9_isStation X a1) ∧
  (if f_X9_isStation X a1 = 0 then
    True
  else
    (if f_X9_in a2 0 300 = 0 then
      True
    else
      (ok_X9_beginAlone X (a1 / 10)) ∧
      ∀ X1 : gM, X1 = p_X9_beginAlone X (a1 / 10) →
      lok_X9_slotIn_34 a1 a2 (fun X2 k_3w5 =>
            (ok_X9_slotAlone X2 a1) ∧
            True) 2147483648 X1 0))
def lf_X9_lapsNeeded_57 (a1 : Int32) (a2 : Int32) (y_3 : Int32) (y_4 : Int32) (K : (gM) → (Int32) → (Nat) → (Int32 × gM)) : Nat → (gM) → (Int32) → (Nat) → (Int32 × gM)
  | 0, Z, x_5, k_6 => K Z x_5 k_6
  | n + 1, Z, x_5, k_6 =>
    if 300 ≤ nI k_6 then
      K Z x_5 k_6
    else
      if 10 ≤ x_5 then
        K Z x_5 k_6
      else
        let X1 := p_X9_goAlone Z y_3
        if f_X9_slotAlone X1 a2 = y_4 then
          (x_5, X1)
        else
          if f_X9_slotAlone X1 a1 = y_4 then
            lf_X9_lapsNeeded_57 a1 a2 y_3 y_4 K n X1 (x_5 + 1) (k_6 + 1)
          else
            lf_X9_lapsNeeded_57 a1 a2 y_3 y_4 K n X1 (x_5 + 0) (k_6 + 1)
def lok_X9_lapsNeeded_57 (a1 : Int32) (a2 : Int32) (y_3 : Int32) (y_4 : Int32) (KO : (gM) → (Int32) → (Nat) → Prop) : Nat → (gM) → (Int32) → (Nat) → Prop
  | 0, Z, x_5, k_6 => True
  | n + 1, Z, x_5, k_6 =>
    (if 300 ≤ nI k_6 then
      KO Z x_5 k_6
    else
      (if 10 ≤ x_5 then
        KO Z x_5 k_6
      else
        (ok_X9_goAlone Z y_3) ∧
        ∀ X1 : gM, X1 = p_X9_goAlone Z y_3 →
        (ok_X9_slotAlone X1 a2) ∧
        (if f_X9_slotAlone X1 a2 = y_4 then
          True
        else
          (ok_X9_slotAlone X1 a1) ∧
          (if f_X9_slotAlone X1 a1 = y_4 then
            lok_X9_lapsNeeded_57 a1 a2 y_3 y_4 KO n X1 (x_5 + 1) (k_6 + 1)
          else
            lok_X9_lapsNeeded_57 a1 a2 y_3 y_4 KO n X1 (x_5 + 0) (k_6 + 1)))))
def p_X9_lapsNeeded (X : gM) (a1 : Int32) (a2 : Int32) : Int32 × gM :=
  if f_X9_isStation X a1 = 0 then
    ((-1), X)
  else
    if f_X9_isStation X a2 = 0 then
      ((-1), X)
    else
      if a1 = a2 then
        ((-2), X)
      else
        if a2 / 10 = a1 / 10 then
          let X1 := p_X9_beginAlone X (a1 / 10)
          lf_X9_lapsNeeded_57 a1 a2 (a1 / 10) (f_X9_slotAlone X1 a1) (fun X2 x_5w9 k_6w9 =>
                ((-5), X2)) 2147483648 X1 1 0
        else
          ((-2), X)
def ok_X9_lapsNeeded (X : gM) (a1 : Int32) (a2 : Int32) : Prop :=
  (ok_X9_isStation X a1) ∧
  (if f_X9_isStation X a1 = 0 then
    True
  else
    (ok_X9_isStation X a2) ∧
    (if f_X9_isStation X a2 = 0 then
      True
    else
      (if a1 = a2 then
        True
      else
        (if a2 / 10 = a1 / 10 then
          (ok_X9_beginAlone X (a1 / 10)) ∧
          ∀ X1 : gM, X1 = p_X9_beginAlone X (a1 / 10) →
          (ok_X9_slotAlone X1 a1) ∧
          lok_X9_lapsNeeded_57 a1 a2 (a1 / 10) (f_X9_slotAlone X1 a1) (fun X2 x_5w9 k_6w9 =>
                True) 2147483648 X1 1 0
        else
          True))))
def f_X9_event (X : gM) (a1 : Int32) (a2 : Int32) : Int32 :=
  if a1 < 0 then
    (-2)
  else
    if f_X9_in a2 0 4 = 0 then
      (-2)
    else
      if X 1 9 ≤ a1 then
        (-5)
      else
        X 1 (((234 + (5 * a1)) + a2).toNatClampNeg)
def ok_X9_event (X : gM) (a1 : Int32) (a2 : Int32) : Prop :=
  (if a1 < 0 then
    True
  else
    (if f_X9_in a2 0 4 = 0 then
      True
    else
      (if X 1 9 ≤ a1 then
        True
      else
        (vp_in ((234 + (5 * a1)) + a2) 974) ∧
        True)))
def f_X9_count (X : gM) (a1 : Int32) : Int32 :=
  if f_X9_in a1 2 10 = 0 then
    if a1 = 0 then
      X 1 0
    else
      if a1 = 1 then
        X 1 1
      else
        if a1 = 2 then
          (-2)
        else
          if a1 = 3 then
            (-2)
          else
            if a1 = 4 then
              (-2)
            else
              if a1 = 5 then
                (-2)
              else
                if a1 = 6 then
                  (-2)
                else
                  if a1 = 7 then
                    (-2)
                  else
                    if a1 = 8 then
                      (-2)
                    else
                      if a1 = 9 then
                        (-2)
                      else
                        if a1 = 10 then
                          (-2)
                        else
                          if a1 = 11 then
                            X 1 3
                          else
                            if a1 = 12 then
                              X 1 4
                            else
                              if a1 = 13 then
                                X 1 5
                              else
                                if a1 = 14 then
                                  ((X 1 3) - (X 1 4)) - (X 1 5)
                                else
                                  if a1 = 15 then
                                    X 1 6
                                  else
                                    if a1 = 16 then
                                      X 1 7
                                    else
                                      if a1 = 17 then
                                        X 1 2
                                      else
                                        if a1 = 18 then
                                          X 1 8
                                        else
                                          if a1 = 19 then
                                            X 0 2
                                          else
                                            if a1 = 20 then
                                              X 0 7
                                            else
                                              (-2)
  else
    f_X9_inState X (a1 - 2)
def ok_X9_count (X : gM) (a1 : Int32) : Prop :=
  (if f_X9_in a1 2 10 = 0 then
    True
  else
    (ok_X9_inState X (a1 - 2)) ∧
    True)
