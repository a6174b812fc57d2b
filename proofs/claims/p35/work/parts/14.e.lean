/-- isTold by its answers -/
def toldE (c n : Int32) (X3 : gM) (r : Int32 × gM) (q d : Int32) : Int32 × gM :=
  if c < 0 then (0, X3) else if n < 0 then (0, X3) else if r.1 = d then (if q = 0 then (1, r.2) else (0, r.2)) else (0, r.2)
theorem toldE_sim {c n q d : Int32} {X3 U3 Y3 Y4 : gM} {rX rU : Int32 × gM} (hx : Rl X3 Y3) (hu : Rl U3 Y3) (hr : rX.1 = rU.1) (hx4 : Rl rX.2 Y4) (hu4 : Rl rU.2 Y4) : (toldE c n X3 rX q d).1 = (toldE c n U3 rU q d).1 ∧ ∃ Y', Rl (toldE c n X3 rX q d).2 Y' ∧ Rl (toldE c n U3 rU q d).2 Y' := by
  unfold toldE
  rw [hr]
  by_cases h1 : c < 0
  · rw [if_pos h1, if_pos h1]
    exact ⟨rfl, Y3, hx, hu⟩
  · rw [if_neg h1, if_neg h1]
    by_cases h2 : n < 0
    · rw [if_pos h2, if_pos h2]
      exact ⟨rfl, Y3, hx, hu⟩
    · rw [if_neg h2, if_neg h2]
      by_cases h3 : rU.1 = d
      · rw [if_pos h3, if_pos h3]
        by_cases h4 : q = 0
        · rw [if_pos h4, if_pos h4]
          exact ⟨rfl, Y4, hx4, hu4⟩
        · rw [if_neg h4, if_neg h4]
          exact ⟨rfl, Y4, hx4, hu4⟩
      · rw [if_neg h3, if_neg h3]
        exact ⟨rfl, Y4, hx4, hu4⟩
theorem told_eq (X : gM) (a b : Int64) (d : Int32) : p_L_isTold X a b d = toldE (p_X8_clearText X).1 ((p_L_types (p_X8_clearText X).2 a).1 + (p_L_types (p_L_types (p_X8_clearText X).2 a).2 b).1) (p_L_types (p_L_types (p_X8_clearText X).2 a).2 b).2 (p_X8_readTickets (p_L_types (p_L_types (p_X8_clearText X).2 a).2 b).2) (f_X8_count (p_X8_readTickets (p_L_types (p_L_types (p_X8_clearText X).2 a).2 b).2).2 1) d := by
  unfold p_L_isTold toldE
  rfl
theorem sf_isTold (a b : Int64) (d : Int32) : SimF (fun X => p_L_isTold X a b d) := fun X U Y hX hU => by
  have q1 : (p_X8_clearText X).1 = (p_X8_clearText U).1 ∧ ∃ Y', Rl (p_X8_clearText X).2 Y' ∧ Rl (p_X8_clearText U).2 Y' := sf_clearText X U Y hX hU
  have q : (p_L_isTold X a b d).1 = (p_L_isTold U a b d).1 ∧ ∃ Y', Rl (p_L_isTold X a b d).2 Y' ∧ Rl (p_L_isTold U a b d).2 Y' := by
    rw [told_eq X, told_eq U]
    obtain ⟨e1, Y1, x1, u1⟩ := q1
    generalize p_X8_clearText X = A at *
    generalize p_X8_clearText U = A' at *
    have q2 : (p_L_types A.2 a).1 = (p_L_types A'.2 a).1 ∧ ∃ Y', Rl (p_L_types A.2 a).2 Y' ∧ Rl (p_L_types A'.2 a).2 Y' := sf_types a _ _ Y1 x1 u1
    obtain ⟨e2, Y2, x2, u2⟩ := q2
    generalize p_L_types A.2 a = B at *
    generalize p_L_types A'.2 a = B' at *
    have q3 : (p_L_types B.2 b).1 = (p_L_types B'.2 b).1 ∧ ∃ Y', Rl (p_L_types B.2 b).2 Y' ∧ Rl (p_L_types B'.2 b).2 Y' := sf_types b _ _ Y2 x2 u2
    obtain ⟨e3, Y3, x3, u3⟩ := q3
    generalize p_L_types B.2 b = C at *
    generalize p_L_types B'.2 b = C' at *
    have q4 : (p_X8_readTickets C.2).1 = (p_X8_readTickets C'.2).1 ∧ ∃ Y', Rl (p_X8_readTickets C.2).2 Y' ∧ Rl (p_X8_readTickets C'.2).2 Y' := sf_readTickets _ _ Y3 x3 u3
    obtain ⟨e4, Y4, x4, u4⟩ := q4
    generalize p_X8_readTickets C.2 = E at *
    generalize p_X8_readTickets C'.2 = E' at *
    have e5 : f_X8_count E.2 1 = f_X8_count E'.2 1 := sq_count 1 _ _ Y4 x4 u4
    rw [e1, e2, e3, e5]
    exact toldE_sim x3 u3 e4 x4 u4
  exact q
theorem e_isTold {X U : gM} {a b : Int64} {d : Int32} {v : Int32} {k : gM → Bool} (h : Ev X U) (hk : stA (p_L_isTold U a b d) v k = true) : (p_L_isTold X a b d).1 = v ∧ ∃ U', Ev (p_L_isTold X a b d).2 U' ∧ k U' = true := stA_ev (sf_isTold a b d) h hk
theorem eH_isTold {X U : gM} {a b : Int64} {d : Int32} {v : Int32} {k : gM → Bool} (h : Ev X U) (hk : stH (p_L_isTold U a b d) v k = true) : (p_L_isTold X a b d).1 = v ∧ ∃ U', Ev (p_L_isTold X a b d).2 U' ∧ k U' = true := stH_ev (sf_isTold a b d) h hk
theorem I_isTold {X : gM} (h : Iv X) (a b : Int64) (d : Int32) : Iv (p_L_isTold X a b d).2 := (sf_isTold a b d).iv h
