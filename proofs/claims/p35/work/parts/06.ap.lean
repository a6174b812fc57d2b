def f_X9_in (a1 : Int32) (a2 : Int32) (a3 : Int32) : Int32 :=
  if a1 < a2 then
    0
  else
    if a3 < a1 then
      0
    else
      1
theorem f_X9_in_b (a b c : Int32) : f_X9_in a b c = 0 ∨ f_X9_in a b c = 1 := by
  unfold f_X9_in
  split
  · exact Or.inl rfl
  · split
    · exact Or.inl rfl
    · exact Or.inr rfl
def f_X9_isLine (a1 : Int32) : Int32 :=
  f_X9_in a1 0 1
def f_X9_isWord (a1 : Int32) : Int32 :=
  f_X9_in a1 0 65535
def f_X9_stationAt (a1 : Int32) : Int32 :=
  74 + (10 * ((6 * (a1 / 10)) + (a1 - a1 / 10 * 10)))
def f_X9_ofLine (X : gM) (a1 : Int32) (a2 : Int32) : Int32 :=
  X 1 (((10 + (8 * a1)) + a2).toNatClampNeg)
def ok_X9_ofLine (X : gM) (a1 : Int32) (a2 : Int32) : Prop :=
  (vp_in ((10 + (8 * a1)) + a2) 974) ∧
  True
def f_X9_seat (X : gM) (a1 : Int32) (a2 : Int32) : Int32 :=
  X 1 (((26 + (24 * a1)) + a2).toNatClampNeg)
def ok_X9_seat (X : gM) (a1 : Int32) (a2 : Int32) : Prop :=
  (vp_in ((26 + (24 * a1)) + a2) 974) ∧
  True
def f_X9_of (X : gM) (a1 : Int32) (a2 : Int32) : Int32 :=
  X 1 (((294 + (17 * a1)) + a2).toNatClampNeg)
def ok_X9_of (X : gM) (a1 : Int32) (a2 : Int32) : Prop :=
  (vp_in ((294 + (17 * a1)) + a2) 974) ∧
  True
def p_X9_put (X : gM) (a1 : Int32) (a2 : Int32) (a3 : Int32) : gM :=
  let X1 := updM X 1 (((294 + (17 * a1)) + a2).toNatClampNeg) a3
  X1
def ok_X9_put (X : gM) (a1 : Int32) (a2 : Int32) (a3 : Int32) : Prop :=
  (vp_in ((294 + (17 * a1)) + a2) 974) ∧
  True
def f_X9_isStation (X : gM) (a1 : Int32) : Int32 :=
  if f_X9_in a1 0 19 = 0 then
    0
  else
    if f_X9_ofLine X (a1 / 10) 4 ≤ a1 - a1 / 10 * 10 then
      0
    else
      1
def ok_X9_isStation (X : gM) (a1 : Int32) : Prop :=
  (if f_X9_in a1 0 19 = 0 then
    True
  else
    (ok_X9_ofLine X (a1 / 10) 4) ∧
    True)
def f_X9_isTicket (X : gM) (a1 : Int32) : Int32 :=
  f_X9_in a1 0 ((X 1 1) - 1)
def f_X9_isOrder (X : gM) (a1 : Int32) : Int32 :=
  f_X9_in a1 0 ((X 1 2) - 1)
