theorem sf_isTold (a b : Int64) (d : Int32) : SimF (fun X => p_L_isTold X a b d) := fun X U Y hX hU => by
  obtain ⟨e1, Y1, x1, u1⟩ := sf_clearText X U Y hX hU
  have e1 : (p_X8_clearText X).1 = (p_X8_clearText U).1 := e1
  obtain ⟨e2, Y2, x2, u2⟩ := sf_types a _ _ Y1 x1 u1
  obtain ⟨e3, Y3, x3, u3⟩ := sf_types b _ _ Y2 x2 u2
  obtain ⟨e4, Y4, x4, u4⟩ := sf_readTickets _ _ Y3 x3 u3
  have e5 := sq_count 1 _ _ Y4 x4 u4
  dsimp only at e1 e2 e3 e4 e5 x3 u3 x4 u4 ⊢
  unfold p_L_isTold
  dsimp only
  rw [e1, e2, e3, e4, e5]
  split
  · exact ⟨rfl, Y3, x3, u3⟩
  · split
    · exact ⟨rfl, Y3, x3, u3⟩
    · split
      · split
        · exact ⟨rfl, Y4, x4, u4⟩
        · exact ⟨rfl, Y4, x4, u4⟩
      · exact ⟨rfl, Y4, x4, u4⟩
theorem e_isTold {X U : gM} {a b : Int64} {d : Int32} {v : Int32} {k : gM → Bool} (h : Ev X U) (hk : stA (p_L_isTold U a b d) v k = true) : (p_L_isTold X a b d).1 = v ∧ ∃ U', Ev (p_L_isTold X a b d).2 U' ∧ k U' = true := stA_ev (sf_isTold a b d) h hk
theorem eH_isTold {X U : gM} {a b : Int64} {d : Int32} {v : Int32} {k : gM → Bool} (h : Ev X U) (hk : stH (p_L_isTold U a b d) v k = true) : (p_L_isTold X a b d).1 = v ∧ ∃ U', Ev (p_L_isTold X a b d).2 U' ∧ k U' = true := stH_ev (sf_isTold a b d) h hk
theorem I_isTold {X : gM} (h : Iv X) (a b : Int64) (d : Int32) : Iv (p_L_isTold X a b d).2 := (sf_isTold a b d).iv h
