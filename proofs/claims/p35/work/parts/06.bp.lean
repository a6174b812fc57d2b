def f_X9_slotAt (X : gM) (a1 : Int32) : Int32 :=
  ((f_X9_ofLine X (a1 / 10) 1) + (X 1 (((f_X9_stationAt a1) + 0).toNatClampNeg))) - ((f_X9_ofLine X (a1 / 10) 1) + (X 1 (((f_X9_stationAt a1) + 0).toNatClampNeg))) / (f_X9_ofLine X (a1 / 10) 0) * (f_X9_ofLine X (a1 / 10) 0)
def ok_X9_slotAt (X : gM) (a1 : Int32) : Prop :=
  (ok_X9_ofLine X (a1 / 10) 1) ∧
  (vp_in ((f_X9_stationAt a1) + 0) 974) ∧
  (ok_X9_ofLine X (a1 / 10) 0) ∧
  (¬ (f_X9_ofLine X (a1 / 10) 0) = 0) ∧
  True
def lf_X9_inState_4 (X : gM) (a1 : Int32) (K : (Int32) → (Nat) → (Int32)) : Nat → (Int32) → (Nat) → (Int32)
  | 0, x_2, k_3 => K x_2 k_3
  | n + 1, x_2, k_3 =>
    if X 1 1 ≤ nI k_3 then
      K x_2 k_3
    else
      if f_X9_of X (nI k_3) 6 = a1 then
        lf_X9_inState_4 X a1 K n (x_2 + 1) (k_3 + 1)
      else
        lf_X9_inState_4 X a1 K n (x_2 + 0) (k_3 + 1)
def lok_X9_inState_4 (X : gM) (a1 : Int32) (KO : (Int32) → (Nat) → Prop) : Nat → (Int32) → (Nat) → Prop
  | 0, x_2, k_3 => True
  | n + 1, x_2, k_3 =>
    (if X 1 1 ≤ nI k_3 then
      KO x_2 k_3
    else
      (ok_X9_of X (nI k_3) 6) ∧
      (if f_X9_of X (nI k_3) 6 = a1 then
        lok_X9_inState_4 X a1 KO n (x_2 + 1) (k_3 + 1)
      else
        lok_X9_inState_4 X a1 KO n (x_2 + 0) (k_3 + 1)))
def f_X9_inState (X : gM) (a1 : Int32) : Int32 :=
  lf_X9_inState_4 X a1 (fun x_2w1 k_3w1 =>
        x_2w1) 2147483648 0 0
def ok_X9_inState (X : gM) (a1 : Int32) : Prop :=
  lok_X9_inState_4 X a1 (fun x_2w1 k_3w1 =>
        True) 2147483648 0 0
def lf_X9_on_5 (X : gM) (a1 : Int32) (a2 : Int32) (K : (Int32) → (Nat) → (Int32)) : Nat → (Int32) → (Nat) → (Int32)
  | 0, x_3, k_4 => K x_3 k_4
  | n + 1, x_3, k_4 =>
    if X 1 1 ≤ nI k_4 then
      K x_3 k_4
    else
      if f_X9_of X (nI k_4) 6 = a2 then
        if f_X9_of X (nI k_4) 7 = a1 then
          lf_X9_on_5 X a1 a2 K n (x_3 + 1) (k_4 + 1)
        else
          lf_X9_on_5 X a1 a2 K n (x_3 + 0) (k_4 + 1)
      else
        lf_X9_on_5 X a1 a2 K n (x_3 + 0) (k_4 + 1)
def lok_X9_on_5 (X : gM) (a1 : Int32) (a2 : Int32) (KO : (Int32) → (Nat) → Prop) : Nat → (Int32) → (Nat) → Prop
  | 0, x_3, k_4 => True
  | n + 1, x_3, k_4 =>
    (if X 1 1 ≤ nI k_4 then
      KO x_3 k_4
    else
      (ok_X9_of X (nI k_4) 6) ∧
      (if f_X9_of X (nI k_4) 6 = a2 then
        (ok_X9_of X (nI k_4) 7) ∧
        (if f_X9_of X (nI k_4) 7 = a1 then
          lok_X9_on_5 X a1 a2 KO n (x_3 + 1) (k_4 + 1)
        else
          lok_X9_on_5 X a1 a2 KO n (x_3 + 0) (k_4 + 1))
      else
        lok_X9_on_5 X a1 a2 KO n (x_3 + 0) (k_4 + 1)))
def f_X9_on (X : gM) (a1 : Int32) (a2 : Int32) : Int32 :=
  lf_X9_on_5 X a1 a2 (fun x_3w1 k_4w1 =>
        x_3w1) 2147483648 0 0
def ok_X9_on (X : gM) (a1 : Int32) (a2 : Int32) : Prop :=
  lok_X9_on_5 X a1 a2 (fun x_3w1 k_4w1 =>
        True) 2147483648 0 0
def f_X9_isWaiting (X : gM) (a1 : Int32) (a2 : Int32) : Int32 :=
  if f_X9_of X a1 6 = 0 then
    if f_X9_of X a1 2 = a2 then
      1
    else
      0
  else
    0
def ok_X9_isWaiting (X : gM) (a1 : Int32) (a2 : Int32) : Prop :=
  (ok_X9_of X a1 6) ∧
  (if f_X9_of X a1 6 = 0 then
    (ok_X9_of X a1 2) ∧
    True
  else
    True)
def lf_X9_ahead_5 (X : gM) (a1 : Int32) (a2 : Int32) (K : (Int32) → (Nat) → (Int32)) : Nat → (Int32) → (Nat) → (Int32)
  | 0, x_3, k_4 => K x_3 k_4
  | n + 1, x_3, k_4 =>
    if X 1 1 ≤ nI k_4 then
      K x_3 k_4
    else
      if f_X9_of X a1 1 < f_X9_of X (nI k_4) 1 then
        if f_X9_isWaiting X (nI k_4) a2 = 0 then
          lf_X9_ahead_5 X a1 a2 K n (x_3 + 0) (k_4 + 1)
        else
          lf_X9_ahead_5 X a1 a2 K n (x_3 + 1) (k_4 + 1)
      else
        if f_X9_of X (nI k_4) 1 = f_X9_of X a1 1 then
          if a1 ≤ nI k_4 then
            lf_X9_ahead_5 X a1 a2 K n (x_3 + 0) (k_4 + 1)
          else
            if f_X9_isWaiting X (nI k_4) a2 = 0 then
              lf_X9_ahead_5 X a1 a2 K n (x_3 + 0) (k_4 + 1)
            else
              lf_X9_ahead_5 X a1 a2 K n (x_3 + 1) (k_4 + 1)
        else
          lf_X9_ahead_5 X a1 a2 K n (x_3 + 0) (k_4 + 1)
def lok_X9_ahead_5 (X : gM) (a1 : Int32) (a2 : Int32) (KO : (Int32) → (Nat) → Prop) : Nat → (Int32) → (Nat) → Prop
  | 0, x_3, k_4 => True
  | n + 1, x_3, k_4 =>
    (if X 1 1 ≤ nI k_4 then
      KO x_3 k_4
    else
      (ok_X9_of X (nI k_4) 1) ∧
      (ok_X9_of X a1 1) ∧
      (if f_X9_of X a1 1 < f_X9_of X (nI k_4) 1 then
        (ok_X9_isWaiting X (nI k_4) a2) ∧
        (if f_X9_isWaiting X (nI k_4) a2 = 0 then
          lok_X9_ahead_5 X a1 a2 KO n (x_3 + 0) (k_4 + 1)
        else
          lok_X9_ahead_5 X a1 a2 KO n (x_3 + 1) (k_4 + 1))
      else
        (ok_X9_of X (nI k_4) 1) ∧
        (ok_X9_of X a1 1) ∧
        (if f_X9_of X (nI k_4) 1 = f_X9_of X a1 1 then
          (if a1 ≤ nI k_4 then
            lok_X9_ahead_5 X a1 a2 KO n (x_3 + 0) (k_4 + 1)
          else
            (ok_X9_isWaiting X (nI k_4) a2) ∧
            (if f_X9_isWaiting X (nI k_4) a2 = 0 then
              lok_X9_ahead_5 X a1 a2 KO n (x_3 + 0) (k_4 + 1)
            else
              lok_X9_ahead_5 X a1 a2 KO n (x_3 + 1) (k_4 + 1)))
        else
          lok_X9_ahead_5 X a1 a2 KO n (x_3 + 0) (k_4 + 1))))
def f_X9_ahead (X : gM) (a1 : Int32) (a2 : Int32) : Int32 :=
  lf_X9_ahead_5 X a1 a2 (fun x_3w1 k_4w1 =>
        x_3w1) 2147483648 0 0
def ok_X9_ahead (X : gM) (a1 : Int32) (a2 : Int32) : Prop :=
  lok_X9_ahead_5 X a1 a2 (fun x_3w1 k_4w1 =>
        True) 2147483648 0 0
def lf_X9_firstWaiting_5 (X : gM) (a1 : Int32) (K : (Int32) → (Nat) → (Int32)) : Nat → (Int32) → (Nat) → (Int32)
  | 0, x_2, k_3 => K x_2 k_3
  | n + 1, x_2, k_3 =>
    if X 1 1 ≤ nI k_3 then
      K x_2 k_3
    else
      if f_X9_isWaiting X (nI k_3) a1 = 0 then
        lf_X9_firstWaiting_5 X a1 K n x_2 (k_3 + 1)
      else
        if x_2 = (-5) then
          lf_X9_firstWaiting_5 X a1 K n (nI k_3) (k_3 + 1)
        else
          if f_X9_of X (nI k_3) 1 ≤ f_X9_of X x_2 1 then
            lf_X9_firstWaiting_5 X a1 K n x_2 (k_3 + 1)
          else
            lf_X9_firstWaiting_5 X a1 K n (nI k_3) (k_3 + 1)
def lok_X9_firstWaiting_5 (X : gM) (a1 : Int32) (KO : (Int32) → (Nat) → Prop) : Nat → (Int32) → (Nat) → Prop
  | 0, x_2, k_3 => True
  | n + 1, x_2, k_3 =>
    (if X 1 1 ≤ nI k_3 then
      KO x_2 k_3
    else
      (ok_X9_isWaiting X (nI k_3) a1) ∧
      (if f_X9_isWaiting X (nI k_3) a1 = 0 then
        lok_X9_firstWaiting_5 X a1 KO n x_2 (k_3 + 1)
      else
        (if x_2 = (-5) then
          lok_X9_firstWaiting_5 X a1 KO n (nI k_3) (k_3 + 1)
        else
          (ok_X9_of X (nI k_3) 1) ∧
          (ok_X9_of X x_2 1) ∧
          (if f_X9_of X (nI k_3) 1 ≤ f_X9_of X x_2 1 then
            lok_X9_firstWaiting_5 X a1 KO n x_2 (k_3 + 1)
          else
            lok_X9_firstWaiting_5 X a1 KO n (nI k_3) (k_3 + 1)))))
def f_X9_firstWaiting (X : gM) (a1 : Int32) : Int32 :=
  lf_X9_firstWaiting_5 X a1 (fun x_2w1 k_3w1 =>
        x_2w1) 2147483648 (-5) 0
def ok_X9_firstWaiting (X : gM) (a1 : Int32) : Prop :=
  lok_X9_firstWaiting_5 X a1 (fun x_2w1 k_3w1 =>
        True) 2147483648 (-5) 0
def lf_X9_firstInHall_5 (X : gM) (a1 : Int32) (K : (Int32) → (Nat) → (Int32)) : Nat → (Int32) → (Nat) → (Int32)
  | 0, x_2, k_3 => K x_2 k_3
  | n + 1, x_2, k_3 =>
    if X 1 1 ≤ nI k_3 then
      K x_2 k_3
    else
      if f_X9_of X (nI k_3) 6 = 2 then
        if f_X9_of X (nI k_3) 7 = a1 then
          if x_2 = (-5) then
            lf_X9_firstInHall_5 X a1 K n (nI k_3) (k_3 + 1)
          else
            if f_X9_of X (nI k_3) 1 ≤ f_X9_of X x_2 1 then
              lf_X9_firstInHall_5 X a1 K n x_2 (k_3 + 1)
            else
              lf_X9_firstInHall_5 X a1 K n (nI k_3) (k_3 + 1)
        else
          lf_X9_firstInHall_5 X a1 K n x_2 (k_3 + 1)
      else
        lf_X9_firstInHall_5 X a1 K n x_2 (k_3 + 1)
def lok_X9_firstInHall_5 (X : gM) (a1 : Int32) (KO : (Int32) → (Nat) → Prop) : Nat → (Int32) → (Nat) → Prop
  | 0, x_2, k_3 => True
  | n + 1, x_2, k_3 =>
    (if X 1 1 ≤ nI k_3 then
      KO x_2 k_3
    else
      (ok_X9_of X (nI k_3) 6) ∧
      (if f_X9_of X (nI k_3) 6 = 2 then
        (ok_X9_of X (nI k_3) 7) ∧
        (if f_X9_of X (nI k_3) 7 = a1 then
          (if x_2 = (-5) then
            lok_X9_firstInHall_5 X a1 KO n (nI k_3) (k_3 + 1)
          else
            (ok_X9_of X (nI k_3) 1) ∧
            (ok_X9_of X x_2 1) ∧
            (if f_X9_of X (nI k_3) 1 ≤ f_X9_of X x_2 1 then
              lok_X9_firstInHall_5 X a1 KO n x_2 (k_3 + 1)
            else
              lok_X9_firstInHall_5 X a1 KO n (nI k_3) (k_3 + 1)))
        else
          lok_X9_firstInHall_5 X a1 KO n x_2 (k_3 + 1))
      else
        lok_X9_firstInHall_5 X a1 KO n x_2 (k_3 + 1)))
def f_X9_firstInHall (X : gM) (a1 : Int32) : Int32 :=
  lf_X9_firstInHall_5 X a1 (fun x_2w1 k_3w1 =>
        x_2w1) 2147483648 (-5) 0
def ok_X9_firstInHall (X : gM) (a1 : Int32) : Prop :=
  lok_X9_firstInHall_5 X a1 (fun x_2w1 k_3w1 =>
        True) 2147483648 (-5) 0
def f_X9_nextAt (X : gM) (a1 : Int32) : Int32 :=
  if a1 - a1 / 10 * 10 = 0 then
    if f_X9_firstInHall X (a1 / 10) = (-5) then
      f_X9_firstWaiting X a1
    else
      f_X9_firstInHall X (a1 / 10)
  else
    f_X9_firstWaiting X a1
def ok_X9_nextAt (X : gM) (a1 : Int32) : Prop :=
  (if a1 - a1 / 10 * 10 = 0 then
    (ok_X9_firstInHall X (a1 / 10)) ∧
    (if f_X9_firstInHall X (a1 / 10) = (-5) then
      (ok_X9_firstWaiting X a1) ∧
      True
    else
      True)
  else
    (ok_X9_firstWaiting X a1) ∧
    True)
def lf_X9_logs_4 (a1 : Int32) (a2 : Int32) (a3 : Int32) (a4 : Int32) (K : (gM) → (Nat) → (gM)) : Nat → (gM) → (Nat) → (gM)
  | 0, Z, k_5 => K Z k_5
  | n + 1, Z, k_5 =>
    if nI k_5 ≤ 4 then
      K Z k_5
    else
      let X1 := updM Z 1 (234 + k_5) (Z 1 ((234 + k_5) - 5))
      lf_X9_logs_4 a1 a2 a3 a4 K n X1 (k_5 - 1)
def lok_X9_logs_4 (a1 : Int32) (a2 : Int32) (a3 : Int32) (a4 : Int32) (KO : (gM) → (Nat) → Prop) : Nat → (gM) → (Nat) → Prop
  | 0, Z, k_5 => True
  | n + 1, Z, k_5 =>
    (if nI k_5 ≤ 4 then
      KO Z k_5
    else
      ∀ X1 : gM, X1 = updM Z 1 (234 + k_5) (Z 1 ((234 + k_5) - 5)) →
      lok_X9_logs_4 a1 a2 a3 a4 KO n X1 (k_5 - 1))
def p_X9_logs (X : gM) (a1 : Int32) (a2 : Int32) (a3 : Int32) (a4 : Int32) : gM :=
  lf_X9_logs_4 a1 a2 a3 a4 (fun X1 k_5w1 =>
        let X2 := updM X1 1 234 a1
        let X3 := updM X2 1 235 a2
        let X4 := updM X3 1 236 a3
        let X5 := updM X4 1 237 a4
        let X6 := updM X5 1 238 (X5 1 0)
        if 12 ≤ X6 1 9 then
          let X7 := updM X6 1 9 ((X6 1 9) + 0)
          X7
        else
          let X8 := updM X6 1 9 ((X6 1 9) + 1)
          X8) 60 X 59
def ok_X9_logs (X : gM) (a1 : Int32) (a2 : Int32) (a3 : Int32) (a4 : Int32) : Prop :=
  lok_X9_logs_4 a1 a2 a3 a4 (fun X1 k_5w1 =>
        True) 60 X 59
def p_X9_rises (X : gM) (a1 : Int32) : gM :=
  if f_X9_of X a1 6 = 1 then
    let X3 := updM X 1 (((26 + (24 * (f_X9_of X a1 7))) + (f_X9_of X a1 8)).toNatClampNeg) (-5)
    let X4 := p_X9_put X3 a1 7 (-5)
    let X5 := p_X9_put X4 a1 8 (-5)
    X5
  else
    let X1 := p_X9_put X a1 7 (-5)
    let X2 := p_X9_put X1 a1 8 (-5)
    X2
def ok_X9_rises (X : gM) (a1 : Int32) : Prop :=
  (ok_X9_of X a1 6) ∧
  (if f_X9_of X a1 6 = 1 then
    (ok_X9_of X a1 7) ∧
    (ok_X9_of X a1 8) ∧
    (vp_in ((26 + (24 * (f_X9_of X a1 7))) + (f_X9_of X a1 8)) 974) ∧
    ∀ X3 : gM, X3 = updM X 1 (((26 + (24 * (f_X9_of X a1 7))) + (f_X9_of X a1 8)).toNatClampNeg) (-5) →
    (ok_X9_put X3 a1 7 (-5)) ∧
    ∀ X4 : gM, X4 = p_X9_put X3 a1 7 (-5) →
    (ok_X9_put X4 a1 8 (-5)) ∧
    True
  else
    (ok_X9_put X a1 7 (-5)) ∧
    ∀ X1 : gM, X1 = p_X9_put X a1 7 (-5) →
    (ok_X9_put X1 a1 8 (-5)) ∧
    True)
def p_X9_ends (X : gM) (a1 : Int32) (a2 : Int32) (a3 : Int32) (a4 : Int32) : gM :=
  let X1 := p_X9_rises X a1
  let X2 := p_X9_put X1 a1 6 a2
  let X3 := p_X9_put X2 a1 11 (X2 1 0)
  let X4 := p_X9_put X3 a1 12 a3
  let X5 := updM X4 1 5 ((X4 1 5) + a4)
  let X6 := updM X5 1 4 ((X5 1 4) + ((f_X9_of X5 a1 5) - a4))
  X6
def ok_X9_ends (X : gM) (a1 : Int32) (a2 : Int32) (a3 : Int32) (a4 : Int32) : Prop :=
  (ok_X9_rises X a1) ∧
  ∀ X1 : gM, X1 = p_X9_rises X a1 →
  (ok_X9_put X1 a1 6 a2) ∧
  ∀ X2 : gM, X2 = p_X9_put X1 a1 6 a2 →
  (ok_X9_put X2 a1 11 (X2 1 0)) ∧
  ∀ X3 : gM, X3 = p_X9_put X2 a1 11 (X2 1 0) →
  (ok_X9_put X3 a1 12 a3) ∧
  ∀ X4 : gM, X4 = p_X9_put X3 a1 12 a3 →
  ∀ X5 : gM, X5 = updM X4 1 5 ((X4 1 5) + a4) →
  (ok_X9_of X5 a1 5) ∧
  True
def p_X9_boards (X : gM) (a1 : Int32) (a2 : Int32) (a3 : Int32) : gM :=
  let X1 := p_X9_put X a1 6 1
  let X2 := p_X9_put X1 a1 7 (a2 / 10)
  let X3 := p_X9_put X2 a1 8 a3
  let X4 := p_X9_put X3 a1 16 (a2 - a2 / 10 * 10)
  if f_X9_of X4 a1 10 = (-5) then
    let X9 := p_X9_put X4 a1 10 (X4 1 0)
    let X10 := updM X9 1 (((26 + (24 * (a2 / 10))) + a3).toNatClampNeg) a1
    let X11 := updM X10 1 (((f_X9_stationAt a2) + 1).toNatClampNeg) ((X10 1 (((f_X9_stationAt a2) + 1).toNatClampNeg)) + 1)
    let X12 := p_X9_logs X11 0 a1 (a2 / 10) a2
    X12
  else
    let X5 := p_X9_put X4 a1 10 (f_X9_of X4 a1 10)
    let X6 := updM X5 1 (((26 + (24 * (a2 / 10))) + a3).toNatClampNeg) a1
    let X7 := updM X6 1 (((f_X9_stationAt a2) + 1).toNatClampNeg) ((X6 1 (((f_X9_stationAt a2) + 1).toNatClampNeg)) + 1)
    let X8 := p_X9_logs X7 0 a1 (a2 / 10) a2
    X8
def ok_X9_boards (X : gM) (a1 : Int32) (a2 : Int32) (a3 : Int32) : Prop :=
  (ok_X9_put X a1 6 1) ∧
  ∀ X1 : gM, X1 = p_X9_put X a1 6 1 →
  (ok_X9_put X1 a1 7 (a2 / 10)) ∧
  ∀ X2 : gM, X2 = p_X9_put X1 a1 7 (a2 / 10) →
  (ok_X9_put X2 a1 8 a3) ∧
  ∀ X3 : gM, X3 = p_X9_put X2 a1 8 a3 →
  (ok_X9_put X3 a1 16 (a2 - a2 / 10 * 10)) ∧
  ∀ X4 : gM, X4 = p_X9_put X3 a1 16 (a2 - a2 / 10 * 10) →
  (ok_X9_of X4 a1 10) ∧
  (if f_X9_of X4 a1 10 = (-5) then
    (ok_X9_put X4 a1 10 (X4 1 0)) ∧
    ∀ X9 : gM, X9 = p_X9_put X4 a1 10 (X4 1 0) →
    (vp_in ((26 + (24 * (a2 / 10))) + a3) 974) ∧
    ∀ X10 : gM, X10 = updM X9 1 (((26 + (24 * (a2 / 10))) + a3).toNatClampNeg) a1 →
    (vp_in ((f_X9_stationAt a2) + 1) 974) ∧
    (vp_in ((f_X9_stationAt a2) + 1) 974) ∧
    ∀ X11 : gM, X11 = updM X10 1 (((f_X9_stationAt a2) + 1).toNatClampNeg) ((X10 1 (((f_X9_stationAt a2) + 1).toNatClampNeg)) + 1) →
    (ok_X9_logs X11 0 a1 (a2 / 10) a2) ∧
    True
  else
    (ok_X9_of X4 a1 10) ∧
    (ok_X9_put X4 a1 10 (f_X9_of X4 a1 10)) ∧
    ∀ X5 : gM, X5 = p_X9_put X4 a1 10 (f_X9_of X4 a1 10) →
    (vp_in ((26 + (24 * (a2 / 10))) + a3) 974) ∧
    ∀ X6 : gM, X6 = updM X5 1 (((26 + (24 * (a2 / 10))) + a3).toNatClampNeg) a1 →
    (vp_in ((f_X9_stationAt a2) + 1) 974) ∧
    (vp_in ((f_X9_stationAt a2) + 1) 974) ∧
    ∀ X7 : gM, X7 = updM X6 1 (((f_X9_stationAt a2) + 1).toNatClampNeg) ((X6 1 (((f_X9_stationAt a2) + 1).toNatClampNeg)) + 1) →
    (ok_X9_logs X7 0 a1 (a2 / 10) a2) ∧
    True)
def f_X9_cost (X : gM) (a1 : Int32) (a2 : Int32) : Int32 :=
  if a1 = 3 then
    ((a1 * a2) * (X 1 6)) + 25
  else
    ((a1 * a2) * (X 1 6)) + 0
def lf_X9_comes_21 (a1 : Int32) (a2 : Int32) (a3 : Int32) (a4 : Int32) (a5 : Int32) (y_6 : Int32) (K : (gM) → (Nat) → (Int32 × gM)) : Nat → (gM) → (Nat) → (Int32 × gM)
  | 0, Z, k_7 => K Z k_7
  | n + 1, Z, k_7 =>
    if 17 ≤ nI k_7 then
      K Z k_7
    else
      let X1 := p_X9_put Z y_6 (nI k_7) (-5)
      lf_X9_comes_21 a1 a2 a3 a4 a5 y_6 K n X1 (k_7 + 1)
def lok_X9_comes_21 (a1 : Int32) (a2 : Int32) (a3 : Int32) (a4 : Int32) (a5 : Int32) (y_6 : Int32) (KO : (gM) → (Nat) → Prop) : Nat → (gM) → (Nat) → Prop
  | 0, Z, k_7 => True
  | n + 1, Z, k_7 =>
    (if 17 ≤ nI k_7 then
      KO Z k_7
    else
      (ok_X9_put Z y_6 (nI k_7) (-5)) ∧
      ∀ X1 : gM, X1 = p_X9_put Z y_6 (nI k_7) (-5) →
      lok_X9_comes_21 a1 a2 a3 a4 a5 y_6 KO n X1 (k_7 + 1))
def p_X9_comes (X : gM) (a1 : Int32) (a2 : Int32) (a3 : Int32) (a4 : Int32) (a5 : Int32) : Int32 × gM :=
  let X1 := updM X 1 1 ((X 1 1) + 1)
  lf_X9_comes_21 a1 a2 a3 a4 a5 (X 1 1) (fun X2 k_7w1 =>
        let X3 := p_X9_put X2 (X 1 1) 0 a1
        let X4 := p_X9_put X3 (X 1 1) 1 a2
        let X5 := p_X9_put X4 (X 1 1) 2 a3
        let X6 := p_X9_put X5 (X 1 1) 3 a4
        let X7 := p_X9_put X6 (X 1 1) 4 a5
        let X8 := p_X9_put X7 (X 1 1) 5 (f_X9_cost X7 a2 a5)
        let X9 := p_X9_put X8 (X 1 1) 6 0
        let X10 := p_X9_put X9 (X 1 1) 9 (X9 1 0)
        let X11 := p_X9_put X10 (X 1 1) 14 a5
        let X12 := p_X9_put X11 (X 1 1) 15 (X11 1 0)
        let X13 := updM X12 1 3 ((X12 1 3) + (f_X9_of X12 (X 1 1) 5))
        (X 1 1, X13)) 2147483648 X1 0
def ok_X9_comes (X : gM) (a1 : Int32) (a2 : Int32) (a3 : Int32) (a4 : Int32) (a5 : Int32) : Prop :=
  ∀ X1 : gM, X1 = updM X 1 1 ((X 1 1) + 1) →
  lok_X9_comes_21 a1 a2 a3 a4 a5 (X 1 1) (fun X2 k_7w1 =>
        (ok_X9_put X2 (X 1 1) 0 a1) ∧
        ∀ X3 : gM, X3 = p_X9_put X2 (X 1 1) 0 a1 →
        (ok_X9_put X3 (X 1 1) 1 a2) ∧
        ∀ X4 : gM, X4 = p_X9_put X3 (X 1 1) 1 a2 →
        (ok_X9_put X4 (X 1 1) 2 a3) ∧
        ∀ X5 : gM, X5 = p_X9_put X4 (X 1 1) 2 a3 →
        (ok_X9_put X5 (X 1 1) 3 a4) ∧
        ∀ X6 : gM, X6 = p_X9_put X5 (X 1 1) 3 a4 →
        (ok_X9_put X6 (X 1 1) 4 a5) ∧
        ∀ X7 : gM, X7 = p_X9_put X6 (X 1 1) 4 a5 →
        (ok_X9_put X7 (X 1 1) 5 (f_X9_cost X7 a2 a5)) ∧
        ∀ X8 : gM, X8 = p_X9_put X7 (X 1 1) 5 (f_X9_cost X7 a2 a5) →
        (ok_X9_put X8 (X 1 1) 6 0) ∧
        ∀ X9 : gM, X9 = p_X9_put X8 (X 1 1) 6 0 →
        (ok_X9_put X9 (X 1 1) 9 (X9 1 0)) ∧
        ∀ X10 : gM, X10 = p_X9_put X9 (X 1 1) 9 (X9 1 0) →
        (ok_X9_put X10 (X 1 1) 14 a5) ∧
        ∀ X11 : gM, X11 = p_X9_put X10 (X 1 1) 14 a5 →
        (ok_X9_put X11 (X 1 1) 15 (X11 1 0)) ∧
        ∀ X12 : gM, X12 = p_X9_put X11 (X 1 1) 15 (X11 1 0) →
        (ok_X9_of X12 (X 1 1) 5) ∧
        True) 2147483648 X1 0
