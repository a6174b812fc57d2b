def tyC (v : Int64) (j : Nat) : Int32 := Int64.toInt32 ((v >>> (Int32.toInt64 (nI (8 * j)) &&& 63)) &&& 127)
def tyS (v : Int64) (j : Nat) : Int32 := ((tyC v j).toUInt32 % 65536).toInt32
def p_ty (v : Int64) : Nat → gM → Int32 → Int32 × gM
  | 0, X, n => (n, X)
  | j + 1, X, n => if 0 < tyC v j then p_ty v j (p_X8_type X (tyS v j)).2 (p_X8_type X (tyS v j)).1 else p_ty v j X n
def p_L_types (X : gM) (a2 : Int64) : Int32 × gM := p_ty a2 8 X 0
def p_L_isTold (X : gM) (a2 : Int64) (a3 : Int64) (a4 : Int32) : Int32 × gM :=
  let X1 := (p_X8_clearText X).2
  let X2 := (p_L_types X1 a2).2
  let X3 := (p_L_types X2 a3).2
  if (p_X8_clearText X).1 < 0 then
    (0, X3)
  else
    if ((p_L_types X1 a2).1) + ((p_L_types X2 a3).1) < 0 then
      (0, X3)
    else
      let X4 := (p_X8_readTickets X3).2
      if (p_X8_readTickets X3).1 = a4 then
        if f_X8_count X4 1 = 0 then
          (1, X4)
        else
          (0, X4)
      else
        (0, X4)
def refB (u : gM) : Bool := true
