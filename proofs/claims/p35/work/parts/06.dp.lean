def p_X9_comesTo (X : gM) (a1 : Int32) (a2 : Int32) : gM :=
  if f_X9_of X a1 3 = a2 then
    let X19 := p_X9_ends X a1 3 a2 0
    let X20 := updM X19 1 8 ((X19 1 8) ^^^ (f_X9_of X19 a1 0))
    let X21 := updM X20 1 (((f_X9_stationAt a2) + 2).toNatClampNeg) ((X20 1 (((f_X9_stationAt a2) + 2).toNatClampNeg)) + 1)
    let X22 := updM X21 0 8 ((X21 0 8) + 1)
    let X23 := p_X9_logs X22 1 a1 (a2 / 10) a2
    X23
  else
    if f_X9_callOf X a2 (f_X9_of X a1 0) = (-5) then
      if (f_X9_of X a1 3) / 10 = a2 / 10 then
        if f_X9_of X a1 16 = a2 - a2 / 10 * 10 then
          let X1 := p_X9_put X a1 4 ((f_X9_of X a1 4) - 1)
          if f_X9_of X1 a1 4 = 0 then
            let X2 := p_X9_ends X1 a1 6 a2 (f_X9_of X1 a1 5)
            let X3 := p_X9_logs X2 4 a1 (a2 / 10) a2
            X3
          else
            X1
        else
          X
      else
        if a2 - a2 / 10 * 10 = 0 then
          if 3 ≤ f_X9_on X (1 - (a2 / 10)) 2 then
            if f_X9_of X a1 16 = a2 - a2 / 10 * 10 then
              let X7 := p_X9_put X a1 4 ((f_X9_of X a1 4) - 1)
              if f_X9_of X7 a1 4 = 0 then
                let X8 := p_X9_ends X7 a1 6 a2 (f_X9_of X7 a1 5)
                let X9 := p_X9_logs X8 4 a1 (a2 / 10) a2
                X9
              else
                X7
            else
              X
          else
            let X10 := p_X9_rises X a1
            let X11 := p_X9_put X10 a1 6 2
            let X12 := p_X9_put X11 a1 7 (1 - (a2 / 10))
            let X13 := p_X9_put X12 a1 15 (X12 1 0)
            let X14 := p_X9_logs X13 3 a1 (a2 / 10) a2
            X14
        else
          if f_X9_of X a1 16 = a2 - a2 / 10 * 10 then
            let X4 := p_X9_put X a1 4 ((f_X9_of X a1 4) - 1)
            if f_X9_of X4 a1 4 = 0 then
              let X5 := p_X9_ends X4 a1 6 a2 (f_X9_of X4 a1 5)
              let X6 := p_X9_logs X5 4 a1 (a2 / 10) a2
              X6
            else
              X4
          else
            X
    else
      let X15 := p_X9_ends X a1 4 a2 (f_X9_of X a1 5)
      let X16 := p_X9_dropCall X15 a2 (f_X9_callOf X a2 (f_X9_of X a1 0))
      let X17 := updM X16 1 (((f_X9_stationAt a2) + 3).toNatClampNeg) ((X16 1 (((f_X9_stationAt a2) + 3).toNatClampNeg)) + 1)
      let X18 := p_X9_logs X17 2 a1 (a2 / 10) a2
      X18
def ok_X9_comesTo (X : gM) (a1 : Int32) (a2 : Int32) : Prop :=
  (ok_X9_of X a1 0) ∧
  (ok_X9_callOf X a2 (f_X9_of X a1 0)) ∧
  (ok_X9_of X a1 3) ∧
  (if f_X9_of X a1 3 = a2 then
    (ok_X9_ends X a1 3 a2 0) ∧
    ∀ X19 : gM, X19 = p_X9_ends X a1 3 a2 0 →
    (ok_X9_of X19 a1 0) ∧
    ∀ X20 : gM, X20 = updM X19 1 8 ((X19 1 8) ^^^ (f_X9_of X19 a1 0)) →
    (vp_in ((f_X9_stationAt a2) + 2) 974) ∧
    (vp_in ((f_X9_stationAt a2) + 2) 974) ∧
    ∀ X21 : gM, X21 = updM X20 1 (((f_X9_stationAt a2) + 2).toNatClampNeg) ((X20 1 (((f_X9_stationAt a2) + 2).toNatClampNeg)) + 1) →
    ∀ X22 : gM, X22 = updM X21 0 8 ((X21 0 8) + 1) →
    (ok_X9_logs X22 1 a1 (a2 / 10) a2) ∧
    True
  else
    (if f_X9_callOf X a2 (f_X9_of X a1 0) = (-5) then
      (ok_X9_of X a1 3) ∧
      (if (f_X9_of X a1 3) / 10 = a2 / 10 then
        (ok_X9_of X a1 16) ∧
        (if f_X9_of X a1 16 = a2 - a2 / 10 * 10 then
          (ok_X9_of X a1 4) ∧
          (ok_X9_put X a1 4 ((f_X9_of X a1 4) - 1)) ∧
          ∀ X1 : gM, X1 = p_X9_put X a1 4 ((f_X9_of X a1 4) - 1) →
          (ok_X9_of X1 a1 4) ∧
          (if f_X9_of X1 a1 4 = 0 then
            (ok_X9_of X1 a1 5) ∧
            (ok_X9_ends X1 a1 6 a2 (f_X9_of X1 a1 5)) ∧
            ∀ X2 : gM, X2 = p_X9_ends X1 a1 6 a2 (f_X9_of X1 a1 5) →
            (ok_X9_logs X2 4 a1 (a2 / 10) a2) ∧
            True
          else
            True)
        else
          True)
      else
        (if a2 - a2 / 10 * 10 = 0 then
          (ok_X9_on X (1 - (a2 / 10)) 2) ∧
          (if 3 ≤ f_X9_on X (1 - (a2 / 10)) 2 then
            (ok_X9_of X a1 16) ∧
            (if f_X9_of X a1 16 = a2 - a2 / 10 * 10 then
              (ok_X9_of X a1 4) ∧
              (ok_X9_put X a1 4 ((f_X9_of X a1 4) - 1)) ∧
              ∀ X7 : gM, X7 = p_X9_put X a1 4 ((f_X9_of X a1 4) - 1) →
              (ok_X9_of X7 a1 4) ∧
              (if f_X9_of X7 a1 4 = 0 then
                (ok_X9_of X7 a1 5) ∧
                (ok_X9_ends X7 a1 6 a2 (f_X9_of X7 a1 5)) ∧
                ∀ X8 : gM, X8 = p_X9_ends X7 a1 6 a2 (f_X9_of X7 a1 5) →
                (ok_X9_logs X8 4 a1 (a2 / 10) a2) ∧
                True
              else
                True)
            else
              True)
          else
            (ok_X9_rises X a1) ∧
            ∀ X10 : gM, X10 = p_X9_rises X a1 →
            (ok_X9_put X10 a1 6 2) ∧
            ∀ X11 : gM, X11 = p_X9_put X10 a1 6 2 →
            (ok_X9_put X11 a1 7 (1 - (a2 / 10))) ∧
            ∀ X12 : gM, X12 = p_X9_put X11 a1 7 (1 - (a2 / 10)) →
            (ok_X9_put X12 a1 15 (X12 1 0)) ∧
            ∀ X13 : gM, X13 = p_X9_put X12 a1 15 (X12 1 0) →
            (ok_X9_logs X13 3 a1 (a2 / 10) a2) ∧
            True)
        else
          (ok_X9_of X a1 16) ∧
          (if f_X9_of X a1 16 = a2 - a2 / 10 * 10 then
            (ok_X9_of X a1 4) ∧
            (ok_X9_put X a1 4 ((f_X9_of X a1 4) - 1)) ∧
            ∀ X4 : gM, X4 = p_X9_put X a1 4 ((f_X9_of X a1 4) - 1) →
            (ok_X9_of X4 a1 4) ∧
            (if f_X9_of X4 a1 4 = 0 then
              (ok_X9_of X4 a1 5) ∧
              (ok_X9_ends X4 a1 6 a2 (f_X9_of X4 a1 5)) ∧
              ∀ X5 : gM, X5 = p_X9_ends X4 a1 6 a2 (f_X9_of X4 a1 5) →
              (ok_X9_logs X5 4 a1 (a2 / 10) a2) ∧
              True
            else
              True)
          else
            True)))
    else
      (ok_X9_of X a1 5) ∧
      (ok_X9_ends X a1 4 a2 (f_X9_of X a1 5)) ∧
      ∀ X15 : gM, X15 = p_X9_ends X a1 4 a2 (f_X9_of X a1 5) →
      (ok_X9_dropCall X15 a2 (f_X9_callOf X a2 (f_X9_of X a1 0))) ∧
      ∀ X16 : gM, X16 = p_X9_dropCall X15 a2 (f_X9_callOf X a2 (f_X9_of X a1 0)) →
      (vp_in ((f_X9_stationAt a2) + 3) 974) ∧
      (vp_in ((f_X9_stationAt a2) + 3) 974) ∧
      ∀ X17 : gM, X17 = updM X16 1 (((f_X9_stationAt a2) + 3).toNatClampNeg) ((X16 1 (((f_X9_stationAt a2) + 3).toNatClampNeg)) + 1) →
      (ok_X9_logs X17 2 a1 (a2 / 10) a2) ∧
      True))
def p_X9_shoves (X : gM) (a1 : Int32) (a2 : Int32) (a3 : Int32) : gM :=
  let X1 := p_X9_ends X a1 5 a3 (f_X9_of X a1 5)
  let X2 := p_X9_put X1 a1 13 a2
  let X3 := updM X2 1 (((f_X9_stationAt a3) + 4).toNatClampNeg) ((X2 1 (((f_X9_stationAt a3) + 4).toNatClampNeg)) + 1)
  let X4 := p_X9_logs X3 5 a1 (a3 / 10) a3
  X4
def ok_X9_shoves (X : gM) (a1 : Int32) (a2 : Int32) (a3 : Int32) : Prop :=
  (ok_X9_of X a1 5) ∧
  (ok_X9_ends X a1 5 a3 (f_X9_of X a1 5)) ∧
  ∀ X1 : gM, X1 = p_X9_ends X a1 5 a3 (f_X9_of X a1 5) →
  (ok_X9_put X1 a1 13 a2) ∧
  ∀ X2 : gM, X2 = p_X9_put X1 a1 13 a2 →
  (vp_in ((f_X9_stationAt a3) + 4) 974) ∧
  (vp_in ((f_X9_stationAt a3) + 4) 974) ∧
  ∀ X3 : gM, X3 = updM X2 1 (((f_X9_stationAt a3) + 4).toNatClampNeg) ((X2 1 (((f_X9_stationAt a3) + 4).toNatClampNeg)) + 1) →
  (ok_X9_logs X3 5 a1 (a3 / 10) a3) ∧
  True
def p_X9_goStation (X : gM) (a1 : Int32) : gM :=
  if f_X9_seat X (a1 / 10) (f_X9_slotAt X a1) = (-5) then
    if f_X9_nextAt X a1 = (-5) then
      X
    else
      let X1 := p_X9_boards X (f_X9_nextAt X a1) a1 (f_X9_slotAt X a1)
      X1
  else
    let X2 := p_X9_comesTo X (f_X9_seat X (a1 / 10) (f_X9_slotAt X a1)) a1
    if f_X9_nextAt X2 a1 = (-5) then
      X2
    else
      if f_X9_seat X2 (a1 / 10) (f_X9_slotAt X a1) = (-5) then
        let X5 := p_X9_boards X2 (f_X9_nextAt X2 a1) a1 (f_X9_slotAt X a1)
        X5
      else
        if f_X9_of X2 (f_X9_nextAt X2 a1) 1 ≤ f_X9_of X2 (f_X9_seat X2 (a1 / 10) (f_X9_slotAt X a1)) 1 then
          X2
        else
          if (X2 1 0) - (f_X9_of X2 (f_X9_nextAt X2 a1) 15) < X2 1 7 then
            X2
          else
            let X3 := p_X9_shoves X2 (f_X9_seat X2 (a1 / 10) (f_X9_slotAt X a1)) (f_X9_nextAt X2 a1) a1
            let X4 := p_X9_boards X3 (f_X9_nextAt X2 a1) a1 (f_X9_slotAt X a1)
            X4
def ok_X9_goStation (X : gM) (a1 : Int32) : Prop :=
  (ok_X9_slotAt X a1) ∧
  (ok_X9_seat X (a1 / 10) (f_X9_slotAt X a1)) ∧
  (if f_X9_seat X (a1 / 10) (f_X9_slotAt X a1) = (-5) then
    (ok_X9_nextAt X a1) ∧
    (if f_X9_nextAt X a1 = (-5) then
      True
    else
      (ok_X9_seat X (a1 / 10) (f_X9_slotAt X a1)) ∧
      (ok_X9_boards X (f_X9_nextAt X a1) a1 (f_X9_slotAt X a1)) ∧
      True)
  else
    (ok_X9_seat X (a1 / 10) (f_X9_slotAt X a1)) ∧
    (ok_X9_comesTo X (f_X9_seat X (a1 / 10) (f_X9_slotAt X a1)) a1) ∧
    ∀ X2 : gM, X2 = p_X9_comesTo X (f_X9_seat X (a1 / 10) (f_X9_slotAt X a1)) a1 →
    (ok_X9_nextAt X2 a1) ∧
    (if f_X9_nextAt X2 a1 = (-5) then
      True
    else
      (ok_X9_seat X2 (a1 / 10) (f_X9_slotAt X a1)) ∧
      (if f_X9_seat X2 (a1 / 10) (f_X9_slotAt X a1) = (-5) then
        (ok_X9_boards X2 (f_X9_nextAt X2 a1) a1 (f_X9_slotAt X a1)) ∧
        True
      else
        (ok_X9_of X2 (f_X9_nextAt X2 a1) 1) ∧
        (ok_X9_of X2 (f_X9_seat X2 (a1 / 10) (f_X9_slotAt X a1)) 1) ∧
        (if f_X9_of X2 (f_X9_nextAt X2 a1) 1 ≤ f_X9_of X2 (f_X9_seat X2 (a1 / 10) (f_X9_slotAt X a1)) 1 then
          True
        else
          (ok_X9_of X2 (f_X9_nextAt X2 a1) 15) ∧
          (if (X2 1 0) - (f_X9_of X2 (f_X9_nextAt X2 a1) 15) < X2 1 7 then
            True
          else
            (ok_X9_shoves X2 (f_X9_seat X2 (a1 / 10) (f_X9_slotAt X a1)) (f_X9_nextAt X2 a1) a1) ∧
            ∀ X3 : gM, X3 = p_X9_shoves X2 (f_X9_seat X2 (a1 / 10) (f_X9_slotAt X a1)) (f_X9_nextAt X2 a1) a1 →
            (ok_X9_boards X3 (f_X9_nextAt X2 a1) a1 (f_X9_slotAt X a1)) ∧
            True)))))
