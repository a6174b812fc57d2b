def lf_X9_undo_22  (K : (gM) → (Nat) → (Int32 × gM)) : Nat → (gM) → (Nat) → (Int32 × gM)
  | 0, Z, k_1 => K Z k_1
  | n + 1, Z, k_1 =>
    if 974 ≤ nI k_1 then
      K Z k_1
    else
      let X1 := updM Z 1 k_1 (Z 2 (((974 * (Z 0 2)) + (nI k_1)).toNatClampNeg))
      lf_X9_undo_22 K n X1 (k_1 + 1)
def lok_X9_undo_22  (KO : (gM) → (Nat) → Prop) : Nat → (gM) → (Nat) → Prop
  | 0, Z, k_1 => True
  | n + 1, Z, k_1 =>
    (if 974 ≤ nI k_1 then
      KO Z k_1
    else
      (vp_in ((974 * (Z 0 2)) + (nI k_1)) 3896) ∧
      ∀ X1 : gM, X1 = updM Z 1 k_1 (Z 2 (((974 * (Z 0 2)) + (nI k_1)).toNatClampNeg)) →
      lok_X9_undo_22 KO n X1 (k_1 + 1))
def p_X9_undo (X : gM) : Int32 × gM :=
  if X 0 2 = 0 then
    ((-5), X)
  else
    let X1 := updM X 0 2 ((X 0 2) - 1)
    lf_X9_undo_22  (fun X2 k_1w2 =>
          (X2 0 2, X2)) 2147483648 X1 0
def ok_X9_undo (X : gM) : Prop :=
  (if X 0 2 = 0 then
    True
  else
    ∀ X1 : gM, X1 = updM X 0 2 ((X 0 2) - 1) →
    lok_X9_undo_22  (fun X2 k_1w2 =>
          True) 2147483648 X1 0)
def lf_X9_keep_2  (K : (gM) → (Nat) → (Int32 × gM)) : Nat → (gM) → (Nat) → (Int32 × gM)
  | 0, Z, k_1 => K Z k_1
  | n + 1, Z, k_1 =>
    if 974 ≤ nI k_1 then
      K Z k_1
    else
      let X1 := updM Z 3 k_1 (Z 1 k_1)
      lf_X9_keep_2 K n X1 (k_1 + 1)
def lok_X9_keep_2  (KO : (gM) → (Nat) → Prop) : Nat → (gM) → (Nat) → Prop
  | 0, Z, k_1 => True
  | n + 1, Z, k_1 =>
    (if 974 ≤ nI k_1 then
      KO Z k_1
    else
      ∀ X1 : gM, X1 = updM Z 3 k_1 (Z 1 k_1) →
      lok_X9_keep_2 KO n X1 (k_1 + 1))
def p_X9_keep (X : gM) : Int32 × gM :=
  lf_X9_keep_2  (fun X1 k_1w1 =>
        let X2 := updM X1 0 4 1
        (X2 1 0, X2)) 2147483648 X 0
def ok_X9_keep (X : gM) : Prop :=
  lok_X9_keep_2  (fun X1 k_1w1 =>
        True) 2147483648 X 0
def lf_X9_restore_16  (K : (gM) → (Nat) → (Int32 × gM)) : Nat → (gM) → (Nat) → (Int32 × gM)
  | 0, Z, k_1 => K Z k_1
  | n + 1, Z, k_1 =>
    if 974 ≤ nI k_1 then
      K Z k_1
    else
      let X1 := updM Z 1 k_1 (Z 3 k_1)
      lf_X9_restore_16 K n X1 (k_1 + 1)
def lok_X9_restore_16  (KO : (gM) → (Nat) → Prop) : Nat → (gM) → (Nat) → Prop
  | 0, Z, k_1 => True
  | n + 1, Z, k_1 =>
    (if 974 ≤ nI k_1 then
      KO Z k_1
    else
      ∀ X1 : gM, X1 = updM Z 1 k_1 (Z 3 k_1) →
      lok_X9_restore_16 KO n X1 (k_1 + 1))
def p_X9_restore (X : gM) : Int32 × gM :=
  if X 0 4 = 0 then
    ((-5), X)
  else
    let X1 := p_X9_records X
    lf_X9_restore_16  (fun X2 k_1w3 =>
          (X2 1 0, X2)) 2147483648 X1 0
def ok_X9_restore (X : gM) : Prop :=
  (if X 0 4 = 0 then
    True
  else
    (ok_X9_records X) ∧
    ∀ X1 : gM, X1 = p_X9_records X →
    lok_X9_restore_16  (fun X2 k_1w3 =>
          True) 2147483648 X1 0)
def f_X9_line (X : gM) (a1 : Int32) (a2 : Int32) : Int32 :=
  if f_X9_isLine a1 = 0 then
    (-1)
  else
    if a2 = 0 then
      f_X9_ofLine X a1 a2
    else
      if a2 = 1 then
        f_X9_ofLine X a1 a2
      else
        if a2 = 2 then
          (f_X9_ofLine X a1 a2) + 100
        else
          if a2 = 3 then
            (f_X9_ofLine X a1 a2) + 100
          else
            if a2 = 4 then
              f_X9_ofLine X a1 a2
            else
              if a2 = 5 then
                f_X9_on X a1 1
              else
                if a2 = 6 then
                  f_X9_on X a1 2
                else
                  if a2 = 7 then
                    f_X9_ofLine X a1 5
                  else
                    if a2 = 8 then
                      f_X9_ofLine X a1 6
                    else
                      (-2)
def ok_X9_line (X : gM) (a1 : Int32) (a2 : Int32) : Prop :=
  (if f_X9_isLine a1 = 0 then
    True
  else
    (if a2 = 0 then
      (ok_X9_ofLine X a1 a2) ∧
      True
    else
      (if a2 = 1 then
        (ok_X9_ofLine X a1 a2) ∧
        True
      else
        (if a2 = 2 then
          (ok_X9_ofLine X a1 a2) ∧
          True
        else
          (if a2 = 3 then
            (ok_X9_ofLine X a1 a2) ∧
            True
          else
            (if a2 = 4 then
              (ok_X9_ofLine X a1 a2) ∧
              True
            else
              (if a2 = 5 then
                (ok_X9_on X a1 1) ∧
                True
              else
                (if a2 = 6 then
                  (ok_X9_on X a1 2) ∧
                  True
                else
                  (if a2 = 7 then
                    (ok_X9_ofLine X a1 5) ∧
                    True
                  else
                    (if a2 = 8 then
                      (ok_X9_ofLine X a1 6) ∧
                      True
                    else
                      True))))))))))
def f_X9_slot (X : gM) (a1 : Int32) (a2 : Int32) : Int32 :=
  if f_X9_isLine a1 = 0 then
    (-1)
  else
    if f_X9_in a2 0 ((f_X9_ofLine X a1 0) - 1) = 0 then
      (-2)
    else
      f_X9_seat X a1 a2
def ok_X9_slot (X : gM) (a1 : Int32) (a2 : Int32) : Prop :=
  (if f_X9_isLine a1 = 0 then
    True
  else
    (ok_X9_ofLine X a1 0) ∧
    (if f_X9_in a2 0 ((f_X9_ofLine X a1 0) - 1) = 0 then
      True
    else
      (ok_X9_seat X a1 a2) ∧
      True))
def lf_X9_waitMany_4 (X : gM) (a1 : Int32) (K : (Int32) → (Nat) → (Int32)) : Nat → (Int32) → (Nat) → (Int32)
  | 0, x_2, k_3 => K x_2 k_3
  | n + 1, x_2, k_3 =>
    if X 1 1 ≤ nI k_3 then
      K x_2 k_3
    else
      if f_X9_isWaiting X (nI k_3) a1 = 0 then
        lf_X9_waitMany_4 X a1 K n (x_2 + 0) (k_3 + 1)
      else
        lf_X9_waitMany_4 X a1 K n (x_2 + 1) (k_3 + 1)
def lok_X9_waitMany_4 (X : gM) (a1 : Int32) (KO : (Int32) → (Nat) → Prop) : Nat → (Int32) → (Nat) → Prop
  | 0, x_2, k_3 => True
  | n + 1, x_2, k_3 =>
    (if X 1 1 ≤ nI k_3 then
      KO x_2 k_3
    else
      (ok_X9_isWaiting X (nI k_3) a1) ∧
      (if f_X9_isWaiting X (nI k_3) a1 = 0 then
        lok_X9_waitMany_4 X a1 KO n (x_2 + 0) (k_3 + 1)
      else
        lok_X9_waitMany_4 X a1 KO n (x_2 + 1) (k_3 + 1)))
def f_X9_waitMany (X : gM) (a1 : Int32) : Int32 :=
  lf_X9_waitMany_4 X a1 (fun x_2w1 k_3w1 =>
        x_2w1) 2147483648 0 0
def ok_X9_waitMany (X : gM) (a1 : Int32) : Prop :=
  lok_X9_waitMany_4 X a1 (fun x_2w1 k_3w1 =>
        True) 2147483648 0 0
def f_X9_station (X : gM) (a1 : Int32) (a2 : Int32) : Int32 :=
  if f_X9_isStation X a1 = 0 then
    (-1)
  else
    if a2 = 0 then
      X 1 (((f_X9_stationAt a1) + 0).toNatClampNeg)
    else
      if a2 = 1 then
        f_X9_slotAt X a1
      else
        if a2 = 2 then
          f_X9_waitMany X a1
        else
          if a2 = 3 then
            X 1 ((((f_X9_stationAt a1) + a2) - 2).toNatClampNeg)
          else
            if a2 = 4 then
              X 1 ((((f_X9_stationAt a1) + a2) - 2).toNatClampNeg)
            else
              if a2 = 5 then
                X 1 ((((f_X9_stationAt a1) + a2) - 2).toNatClampNeg)
              else
                if a2 = 6 then
                  X 1 ((((f_X9_stationAt a1) + a2) - 2).toNatClampNeg)
                else
                  if a2 = 7 then
                    X 1 ((((f_X9_stationAt a1) + a2) - 2).toNatClampNeg)
                  else
                    if a2 = 8 then
                      f_X9_nextAt X a1
                    else
                      (-2)
def ok_X9_station (X : gM) (a1 : Int32) (a2 : Int32) : Prop :=
  (ok_X9_isStation X a1) ∧
  (if f_X9_isStation X a1 = 0 then
    True
  else
    (if a2 = 0 then
      (vp_in ((f_X9_stationAt a1) + 0) 974) ∧
      True
    else
      (if a2 = 1 then
        (ok_X9_slotAt X a1) ∧
        True
      else
        (if a2 = 2 then
          (ok_X9_waitMany X a1) ∧
          True
        else
          (if a2 = 3 then
            (vp_in (((f_X9_stationAt a1) + a2) - 2) 974) ∧
            True
          else
            (if a2 = 4 then
              (vp_in (((f_X9_stationAt a1) + a2) - 2) 974) ∧
              True
            else
              (if a2 = 5 then
                (vp_in (((f_X9_stationAt a1) + a2) - 2) 974) ∧
                True
              else
                (if a2 = 6 then
                  (vp_in (((f_X9_stationAt a1) + a2) - 2) 974) ∧
                  True
                else
                  (if a2 = 7 then
                    (vp_in (((f_X9_stationAt a1) + a2) - 2) 974) ∧
                    True
                  else
                    (if a2 = 8 then
                      (ok_X9_nextAt X a1) ∧
                      True
                    else
                      True))))))))))
def lf_X9_waiting_19 (X : gM) (a1 : Int32) (a2 : Int32) (K : (Nat) → (Int32)) : Nat → (Nat) → (Int32)
  | 0, k_3 => K k_3
  | n + 1, k_3 =>
    if X 1 1 ≤ nI k_3 then
      K k_3
    else
      if f_X9_isWaiting X (nI k_3) a1 = 0 then
        lf_X9_waiting_19 X a1 a2 K n (k_3 + 1)
      else
        if f_X9_ahead X (nI k_3) a1 = a2 then
          nI k_3
        else
          lf_X9_waiting_19 X a1 a2 K n (k_3 + 1)
def lok_X9_waiting_19 (X : gM) (a1 : Int32) (a2 : Int32) (KO : (Nat) → Prop) : Nat → (Nat) → Prop
  | 0, k_3 => True
  | n + 1, k_3 =>
    (if X 1 1 ≤ nI k_3 then
      KO k_3
    else
      (ok_X9_isWaiting X (nI k_3) a1) ∧
      (if f_X9_isWaiting X (nI k_3) a1 = 0 then
        lok_X9_waiting_19 X a1 a2 KO n (k_3 + 1)
      else
        (ok_X9_ahead X (nI k_3) a1) ∧
        (if f_X9_ahead X (nI k_3) a1 = a2 then
          True
        else
          lok_X9_waiting_19 X a1 a2 KO n (k_3 + 1))))
def f_X9_waiting (X : gM) (a1 : Int32) (a2 : Int32) : Int32 :=
  if f_X9_isStation X a1 = 0 then
    (-1)
  else
    if 0 ≤ a2 then
      lf_X9_waiting_19 X a1 a2 (fun k_3w4 =>
            (-5)) 2147483648 0
    else
      (-2)
def ok_X9_waiting (X : gM) (a1 : Int32) (a2 : Int32) : Prop :=
  (ok_X9_isStation X a1) ∧
  (if f_X9_isStation X a1 = 0 then
    True
  else
    (if 0 ≤ a2 then
      lok_X9_waiting_19 X a1 a2 (fun k_3w4 =>
            True) 2147483648 0
    else
      True))
def f_X9_calls (X : gM) (a1 : Int32) (a2 : Int32) : Int32 :=
  if f_X9_isStation X a1 = 0 then
    (-1)
  else
    if 0 ≤ a2 then
      if X 1 (((f_X9_stationAt a1) + 5).toNatClampNeg) ≤ a2 then
        (-5)
      else
        X 1 ((((f_X9_stationAt a1) + 6) + a2).toNatClampNeg)
    else
      (-2)
def ok_X9_calls (X : gM) (a1 : Int32) (a2 : Int32) : Prop :=
  (ok_X9_isStation X a1) ∧
  (if f_X9_isStation X a1 = 0 then
    True
  else
    (if 0 ≤ a2 then
      (vp_in ((f_X9_stationAt a1) + 5) 974) ∧
      (if X 1 (((f_X9_stationAt a1) + 5).toNatClampNeg) ≤ a2 then
        True
      else
        (vp_in (((f_X9_stationAt a1) + 6) + a2) 974) ∧
        True)
    else
      True))
def f_X9_ticket (X : gM) (a1 : Int32) (a2 : Int32) : Int32 :=
  if f_X9_isTicket X a1 = 0 then
    (-1)
  else
    if f_X9_in a2 0 13 = 0 then
      (-2)
    else
      f_X9_of X a1 a2
def ok_X9_ticket (X : gM) (a1 : Int32) (a2 : Int32) : Prop :=
  (if f_X9_isTicket X a1 = 0 then
    True
  else
    (if f_X9_in a2 0 13 = 0 then
      True
    else
      (ok_X9_of X a1 a2) ∧
      True))
def f_X9_ordered (X : gM) (a1 : Int32) (a2 : Int32) : Int32 :=
  if f_X9_isOrder X a1 = 0 then
    (-1)
  else
    if f_X9_in a2 0 6 = 0 then
      (-2)
    else
      X 1 (((194 + (10 * a1)) + a2).toNatClampNeg)
def ok_X9_ordered (X : gM) (a1 : Int32) (a2 : Int32) : Prop :=
  (if f_X9_isOrder X a1 = 0 then
    True
  else
    (if f_X9_in a2 0 6 = 0 then
      True
    else
      (vp_in ((194 + (10 * a1)) + a2) 974) ∧
      True))
def f_X9_price (X : gM) (a1 : Int32) (a2 : Int32) : Int32 :=
  if f_X9_in a1 1 3 = 0 then
    (-2)
  else
    if f_X9_in a2 1 9 = 0 then
      (-2)
    else
      f_X9_cost X a1 a2
