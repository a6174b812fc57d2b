def f_X9_against (X : gM) (a1 : Int32) (a2 : Int32) (a3 : Int32) (a4 : Int32) (a5 : Int32) : Int32 :=
  if f_X9_isStation X a3 = 0 then
    (-1)
  else
    if f_X9_isStation X a4 = 0 then
      (-1)
    else
      if f_X9_isWord a1 = 0 then
        (-2)
      else
        if f_X9_in a2 1 3 = 0 then
          (-2)
        else
          if f_X9_in a5 1 9 = 0 then
            (-2)
          else
            if a3 = a4 then
              (-2)
            else
              0
def ok_X9_against (X : gM) (a1 : Int32) (a2 : Int32) (a3 : Int32) (a4 : Int32) (a5 : Int32) : Prop :=
  (ok_X9_isStation X a3) ∧
  (if f_X9_isStation X a3 = 0 then
    True
  else
    (ok_X9_isStation X a4) ∧
    True)
def p_X9_book (X : gM) (a1 : Int32) (a2 : Int32) (a3 : Int32) (a4 : Int32) (a5 : Int32) : Int32 × gM :=
  if 0 ≤ f_X9_against X a1 a2 a3 a4 a5 then
    if X 1 1 = 40 then
      ((-3), X)
    else
      let X1 := p_X9_records X
      let X2 := (p_X9_comes X1 a1 a2 a3 a4 a5).2
      ((p_X9_comes X1 a1 a2 a3 a4 a5).1, X2)
  else
    (f_X9_against X a1 a2 a3 a4 a5, X)
def ok_X9_book (X : gM) (a1 : Int32) (a2 : Int32) (a3 : Int32) (a4 : Int32) (a5 : Int32) : Prop :=
  (ok_X9_against X a1 a2 a3 a4 a5) ∧
  (if 0 ≤ f_X9_against X a1 a2 a3 a4 a5 then
    (if X 1 1 = 40 then
      True
    else
      (ok_X9_records X) ∧
      ∀ X1 : gM, X1 = p_X9_records X →
      (ok_X9_comes X1 a1 a2 a3 a4 a5) ∧
      True)
  else
    True)
def p_X9_cancel (X : gM) (a1 : Int32) : Int32 × gM :=
  if f_X9_isTicket X a1 = 0 then
    ((-1), X)
  else
    if f_X9_of X a1 6 < 3 then
      let X1 := p_X9_records X
      if f_X9_of X1 a1 6 = 1 then
        let X3 := p_X9_ends X1 a1 8 (-5) ((f_X9_of X1 a1 5) / 2)
        ((f_X9_of X1 a1 5) / 2, X3)
      else
        let X2 := p_X9_ends X1 a1 8 (-5) (f_X9_of X1 a1 5)
        (f_X9_of X1 a1 5, X2)
    else
      ((-4), X)
def ok_X9_cancel (X : gM) (a1 : Int32) : Prop :=
  (if f_X9_isTicket X a1 = 0 then
    True
  else
    (ok_X9_of X a1 6) ∧
    (if f_X9_of X a1 6 < 3 then
      (ok_X9_records X) ∧
      ∀ X1 : gM, X1 = p_X9_records X →
      (ok_X9_of X1 a1 6) ∧
      (if f_X9_of X1 a1 6 = 1 then
        (ok_X9_of X1 a1 5) ∧
        (ok_X9_ends X1 a1 8 (-5) ((f_X9_of X1 a1 5) / 2)) ∧
        True
      else
        (ok_X9_of X1 a1 5) ∧
        (ok_X9_ends X1 a1 8 (-5) (f_X9_of X1 a1 5)) ∧
        True)
    else
      True))
def p_X9_call (X : gM) (a1 : Int32) (a2 : Int32) : Int32 × gM :=
  if f_X9_isStation X a1 = 0 then
    ((-1), X)
  else
    if f_X9_isWord a2 = 0 then
      ((-2), X)
    else
      if X 1 (((f_X9_stationAt a1) + 5).toNatClampNeg) = 3 then
        ((-3), X)
      else
        let X1 := p_X9_records X
        let X2 := updM X1 1 ((((f_X9_stationAt a1) + 6) + (X1 1 (((f_X9_stationAt a1) + 5).toNatClampNeg))).toNatClampNeg) a2
        let X3 := updM X2 1 (((f_X9_stationAt a1) + 5).toNatClampNeg) ((X2 1 (((f_X9_stationAt a1) + 5).toNatClampNeg)) + 1)
        (X3 1 (((f_X9_stationAt a1) + 5).toNatClampNeg), X3)
def ok_X9_call (X : gM) (a1 : Int32) (a2 : Int32) : Prop :=
  (ok_X9_isStation X a1) ∧
  (if f_X9_isStation X a1 = 0 then
    True
  else
    (if f_X9_isWord a2 = 0 then
      True
    else
      (vp_in ((f_X9_stationAt a1) + 5) 974) ∧
      (if X 1 (((f_X9_stationAt a1) + 5).toNatClampNeg) = 3 then
        True
      else
        (ok_X9_records X) ∧
        ∀ X1 : gM, X1 = p_X9_records X →
        (vp_in ((f_X9_stationAt a1) + 5) 974) ∧
        (vp_in (((f_X9_stationAt a1) + 6) + (X1 1 (((f_X9_stationAt a1) + 5).toNatClampNeg))) 974) ∧
        ∀ X2 : gM, X2 = updM X1 1 ((((f_X9_stationAt a1) + 6) + (X1 1 (((f_X9_stationAt a1) + 5).toNatClampNeg))).toNatClampNeg) a2 →
        (vp_in ((f_X9_stationAt a1) + 5) 974) ∧
        (vp_in ((f_X9_stationAt a1) + 5) 974) ∧
        ∀ X3 : gM, X3 = updM X2 1 (((f_X9_stationAt a1) + 5).toNatClampNeg) ((X2 1 (((f_X9_stationAt a1) + 5).toNatClampNeg)) + 1) →
        (vp_in ((f_X9_stationAt a1) + 5) 974) ∧
        True)))
def p_X9_callBack (X : gM) (a1 : Int32) : Int32 × gM :=
  if f_X9_isStation X a1 = 0 then
    ((-1), X)
  else
    if X 1 (((f_X9_stationAt a1) + 5).toNatClampNeg) = 0 then
      ((-5), X)
    else
      let X1 := p_X9_records X
      let X2 := p_X9_dropCall X1 a1 0
      (X1 1 (((f_X9_stationAt a1) + 6).toNatClampNeg), X2)
def ok_X9_callBack (X : gM) (a1 : Int32) : Prop :=
  (ok_X9_isStation X a1) ∧
  (if f_X9_isStation X a1 = 0 then
    True
  else
    (vp_in ((f_X9_stationAt a1) + 5) 974) ∧
    (if X 1 (((f_X9_stationAt a1) + 5).toNatClampNeg) = 0 then
      True
    else
      (ok_X9_records X) ∧
      ∀ X1 : gM, X1 = p_X9_records X →
      (vp_in ((f_X9_stationAt a1) + 6) 974) ∧
      (ok_X9_dropCall X1 a1 0) ∧
      True))
def p_X9_order (X : gM) (a1 : Int32) (a2 : Int32) : Int32 × gM :=
  if f_X9_isTicket X a1 = 0 then
    ((-1), X)
  else
    if f_X9_in a2 1 50 = 0 then
      ((-2), X)
    else
      if X 1 2 = 4 then
        ((-3), X)
      else
        let X1 := p_X9_records X
        let X2 := updM X1 1 (((194 + (10 * (X1 1 2))) + 0).toNatClampNeg) a2
        let X3 := updM X2 1 (((194 + (10 * (X1 1 2))) + 1).toNatClampNeg) (X2 1 0)
        let X4 := updM X3 1 (((194 + (10 * (X1 1 2))) + 2).toNatClampNeg) 0
        let X5 := updM X4 1 (((194 + (10 * (X1 1 2))) + 3).toNatClampNeg) 0
        let X6 := updM X5 1 (((194 + (10 * (X1 1 2))) + 4).toNatClampNeg) 0
        let X7 := updM X6 1 (((194 + (10 * (X1 1 2))) + 5).toNatClampNeg) (f_X9_of X6 a1 0)
        let X8 := updM X7 1 (((194 + (10 * (X1 1 2))) + 6).toNatClampNeg) (f_X9_of X7 a1 2)
        let X9 := updM X8 1 (((194 + (10 * (X1 1 2))) + 7).toNatClampNeg) (f_X9_of X8 a1 1)
        let X10 := updM X9 1 (((194 + (10 * (X1 1 2))) + 8).toNatClampNeg) (f_X9_of X9 a1 3)
        let X11 := updM X10 1 (((194 + (10 * (X1 1 2))) + 9).toNatClampNeg) (f_X9_of X10 a1 14)
        let X12 := updM X11 1 2 ((X11 1 2) + 1)
        ((X12 1 2) - 1, X12)
def ok_X9_order (X : gM) (a1 : Int32) (a2 : Int32) : Prop :=
  (if f_X9_isTicket X a1 = 0 then
    True
  else
    (if f_X9_in a2 1 50 = 0 then
      True
    else
      (if X 1 2 = 4 then
        True
      else
        (ok_X9_records X) ∧
        ∀ X1 : gM, X1 = p_X9_records X →
        (vp_in ((194 + (10 * (X1 1 2))) + 0) 974) ∧
        ∀ X2 : gM, X2 = updM X1 1 (((194 + (10 * (X1 1 2))) + 0).toNatClampNeg) a2 →
        (vp_in ((194 + (10 * (X1 1 2))) + 1) 974) ∧
        ∀ X3 : gM, X3 = updM X2 1 (((194 + (10 * (X1 1 2))) + 1).toNatClampNeg) (X2 1 0) →
        (vp_in ((194 + (10 * (X1 1 2))) + 2) 974) ∧
        ∀ X4 : gM, X4 = updM X3 1 (((194 + (10 * (X1 1 2))) + 2).toNatClampNeg) 0 →
        (vp_in ((194 + (10 * (X1 1 2))) + 3) 974) ∧
        ∀ X5 : gM, X5 = updM X4 1 (((194 + (10 * (X1 1 2))) + 3).toNatClampNeg) 0 →
        (vp_in ((194 + (10 * (X1 1 2))) + 4) 974) ∧
        ∀ X6 : gM, X6 = updM X5 1 (((194 + (10 * (X1 1 2))) + 4).toNatClampNeg) 0 →
        (ok_X9_of X6 a1 0) ∧
        (vp_in ((194 + (10 * (X1 1 2))) + 5) 974) ∧
        ∀ X7 : gM, X7 = updM X6 1 (((194 + (10 * (X1 1 2))) + 5).toNatClampNeg) (f_X9_of X6 a1 0) →
        (ok_X9_of X7 a1 2) ∧
        (vp_in ((194 + (10 * (X1 1 2))) + 6) 974) ∧
        ∀ X8 : gM, X8 = updM X7 1 (((194 + (10 * (X1 1 2))) + 6).toNatClampNeg) (f_X9_of X7 a1 2) →
        (ok_X9_of X8 a1 1) ∧
        (vp_in ((194 + (10 * (X1 1 2))) + 7) 974) ∧
        ∀ X9 : gM, X9 = updM X8 1 (((194 + (10 * (X1 1 2))) + 7).toNatClampNeg) (f_X9_of X8 a1 1) →
        (ok_X9_of X9 a1 3) ∧
        (vp_in ((194 + (10 * (X1 1 2))) + 8) 974) ∧
        ∀ X10 : gM, X10 = updM X9 1 (((194 + (10 * (X1 1 2))) + 8).toNatClampNeg) (f_X9_of X9 a1 3) →
        (ok_X9_of X10 a1 14) ∧
        (vp_in ((194 + (10 * (X1 1 2))) + 9) 974) ∧
        True)))
def p_X9_endOrder (X : gM) (a1 : Int32) : Int32 × gM :=
  if f_X9_isOrder X a1 = 0 then
    ((-1), X)
  else
    if X 1 (((194 + (10 * a1)) + 4).toNatClampNeg) = 1 then
      ((-5), X)
    else
      let X1 := p_X9_records X
      let X2 := updM X1 1 (((194 + (10 * a1)) + 4).toNatClampNeg) 1
      (X2 1 (((194 + (10 * a1)) + 2).toNatClampNeg), X2)
def ok_X9_endOrder (X : gM) (a1 : Int32) : Prop :=
  (if f_X9_isOrder X a1 = 0 then
    True
  else
    (vp_in ((194 + (10 * a1)) + 4) 974) ∧
    (if X 1 (((194 + (10 * a1)) + 4).toNatClampNeg) = 1 then
      True
    else
      (ok_X9_records X) ∧
      ∀ X1 : gM, X1 = p_X9_records X →
      (vp_in ((194 + (10 * a1)) + 4) 974) ∧
      ∀ X2 : gM, X2 = updM X1 1 (((194 + (10 * a1)) + 4).toNatClampNeg) 1 →
      (vp_in ((194 + (10 * a1)) + 2) 974) ∧
      True))
def lf_X9_tick_24 (a1 : Int32) (K : (gM) → (Nat) → (Int32 × gM)) : Nat → (gM) → (Nat) → (Int32 × gM)
  | 0, Z, k_2 => K Z k_2
  | n + 1, Z, k_2 =>
    if a1 ≤ nI k_2 then
      K Z k_2
    else
      let X1 := p_X9_goTick Z
      lf_X9_tick_24 a1 K n X1 (k_2 + 1)
def lok_X9_tick_24 (a1 : Int32) (KO : (gM) → (Nat) → Prop) : Nat → (gM) → (Nat) → Prop
  | 0, Z, k_2 => True
  | n + 1, Z, k_2 =>
    (if a1 ≤ nI k_2 then
      KO Z k_2
    else
      (ok_X9_goTick Z) ∧
      ∀ X1 : gM, X1 = p_X9_goTick Z →
      lok_X9_tick_24 a1 KO n X1 (k_2 + 1))
def p_X9_tick (X : gM) (a1 : Int32) : Int32 × gM :=
  if f_X9_in a1 1 60 = 0 then
    ((-2), X)
  else
    let X1 := p_X9_records X
    let X2 := updM X1 0 8 0
    lf_X9_tick_24 a1 (fun X3 k_2w3 =>
          (X3 0 8, X3)) 2147483648 X2 0
def ok_X9_tick (X : gM) (a1 : Int32) : Prop :=
  (if f_X9_in a1 1 60 = 0 then
    True
  else
    (ok_X9_records X) ∧
    ∀ X1 : gM, X1 = p_X9_records X →
    ∀ X2 : gM, X2 = updM X1 0 8 0 →
    lok_X9_tick_24 a1 (fun X3 k_2w3 =>
          True) 2147483648 X2 0)
