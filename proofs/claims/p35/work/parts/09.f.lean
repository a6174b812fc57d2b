/-! the whole text is read: both sides -/
/-- the trips that were read -/
def TRs (m : Nat) (W Z : gM) : Prop := ∀ j, j < m → ∀ i, i < 5 → W (3 + j) i = Z 6 (5 * j + i)
section ALLTEXT
variable {W W' Z Z' X : gM} {n p p' m j : Nat}
theorem ticket_end (h : TP W Z n n m) (hm : m ≤ 5) : WR (p_X9_readTicket Z) n n ∧ FA Z (p_X9_readTicket Z) ∧ ok_X9_readTicket Z := by
  have hX : Z 0 12 = nI m := h.2.2.2.2.2.2.2.2
  have vi0 : vp_in (5 * (Z 0 12)) 30 := by
    rw [hX]
    show vp_in (nI 5 * nI m) 30
    rw [nI_mul]
    exact vp_in_nI (by omega) (by decide)
  obtain ⟨s0, f0, g0, k0⟩ := value_sim h
  rcases s0 with ⟨x0, p0, x0b, p0b, r0, q0, T0⟩ | ⟨r0, r0', q0⟩
  · have := T0.2.2.1
    omega
  · obtain ⟨z1, z2, z3⟩ := w1 hX hm (q0.u6 (i := (5 * (Z 0 12)).toNatClampNeg) (v := (p_X9_readValue Z).1))
    rw [rt_eq]
    exact ⟨z1, g0.fa.tr (FA.u6.tr z2), okt_eq k0 vi0 z3⟩
/-- what both sides say of a text -/
def FF (W Z : gM) (R : Int32 × gM) (Zf : gM) (n : Nat) : Prop := ((∃ m', 1 ≤ m' ∧ m' ≤ 5 ∧ R.1 = (-5) ∧ R.2 0 3 = nI m' ∧ Zf 0 12 = nI m' ∧ Zf 0 10 = 0 ∧ TRs m' R.2 Zf) ∨ (∃ p', p' ≤ n ∧ R.1 = nI p' ∧ Zf 0 10 = 1 ∧ Zf 0 9 = nI p')) ∧ R.2 1 = W 1 ∧ R.2 0 2 = W 0 2 ∧ FA Z Zf
theorem fault_loop : ∀ d k f1 f2 (W Z : gM) (p : Nat), k + d = 5 → d < f1 → d + 2 < f2 → TP W Z n p k → 12 * k ≤ p → TRs k W Z → FF W Z (lf_X6_findFault_12 (fun X3 _ => (X3 0 4, X3)) f1 W k) (lf_X9_readAll_19 (fun X5 => X5) f2 (p_X9_readTicket Z)) n ∧ ok_X9_readTicket Z ∧ lok_X9_readAll_19 (fun _ => True) f2 (p_X9_readTicket Z) := by
  have wrong : ∀ f (V : gM), 0 < f → V 0 10 = 1 → lf_X9_readAll_19 (fun X5 => X5) f V = V ∧ lok_X9_readAll_19 (fun _ => True) f V := by
    intro f V hf hV
    obtain ⟨g, rfl⟩ : ∃ g, f = g + 1 := ⟨f - 1, by omega⟩
    have n1 : ¬ V 0 10 = 0 := by rw [hV]; decide
    simp only [lf_X9_readAll_19, lok_X9_readAll_19, if_neg n1]
    exact ⟨trivial, trivial⟩
  intro d
  induction d with
  | zero =>
    intro k f1 f2 W Z p hk hf1 hf2 h hp hT
    obtain ⟨g1, rfl⟩ : ∃ g, f1 = g + 1 := ⟨f1 - 1, by omega⟩
    have e : k = 5 := by omega
    subst e
    have hpn : p = n := by
      have a := h.2.2.1
      have b := h.2.2.2.1
      omega
    subst hpn
    obtain ⟨z1, z2, z3⟩ := ticket_end h (by omega)
    generalize p_X9_readTicket Z = T at *
    obtain ⟨w1', w2'⟩ := wrong f2 T (by omega) z1.1
    have h5 : (5 : Int32) ≤ nI 5 := by decide +kernel
    simp only [lf_X6_findFault_12, if_pos h5]
    rw [w1']
    exact ⟨⟨Or.inr ⟨p, Nat.le_refl _, h.2.1, z1.1, z1.2.1⟩, rfl, rfl, z2⟩, z3, w2'⟩
  | succ d ih =>
    intro k f1 f2 W Z p hk hf1 hf2 h hp hT
    obtain ⟨g1, rfl⟩ : ∃ g, f1 = g + 1 := ⟨f1 - 1, by omega⟩
    obtain ⟨g2, rfl⟩ : ∃ g, f2 = g + 1 := ⟨f2 - 1, by omega⟩
    have h5 : ¬ (5 : Int32) ≤ nI k := nI_ge (b := 5) (by omega) (by decide)
    obtain ⟨ts, okT⟩ := ticket_sim h (show k ≤ 5 by omega)
    simp only [lf_X6_findFault_12, if_neg h5]
    rcases ts with ⟨V, U, p', t1, t2, t3, t4⟩ | ⟨b0, ⟨p', b1, b2⟩, b3, b4, b5⟩
    · rw [t1, t2]
      obtain ⟨c1', c2', c3', c4', c5', c6', c7'⟩ := t3
      obtain ⟨a1, a2, a3, a4, a5, a6, a7, a8, a9⟩ := id c1'
      simp only [if_neg (show ¬ (1 : Int32) = 0 by decide)]
      have x4 : updM V 0 3 (nI (k + 1)) 0 4 = nI p' := by rw [updM_sn (by decide), a2]
      have x2 : updM V 0 3 (nI (k + 1)) 0 2 = nI n := by rw [updM_sn (by decide), a1]
      have y10 : updM U 0 12 (nI (k + 1)) 0 10 = 0 := by rw [updM_sn (by decide), a8]
      have y7 : updM U 0 12 (nI (k + 1)) 0 7 = nI n := by rw [updM_sn (by decide), a6]
      have y9 : updM U 0 12 (nI (k + 1)) 0 9 = nI p' := by rw [updM_sn (by decide), a7]
      have hTP : TP (updM V 0 3 (nI (k + 1))) (updM U 0 12 (nI (k + 1))) n p' (k + 1) := ⟨x2, x4, a3, a4, fun q hq => by rw [updM_n (by decide), updM_n (by decide), a5 q hq], y7, y9, y10, updM_ss⟩
      have hTR : TRs (k + 1) (updM V 0 3 (nI (k + 1))) (updM U 0 12 (nI (k + 1))) := by
        intro j hj i hi
        rw [updM_n (by omega), updM_n (by decide)]
        by_cases hjk : j = k
        · subst hjk
          exact c2' i hi
        · rw [c3' _ (by omega) (by omega), c7' _ (by omega)]
          exact hT j (by omega) i hi
      have v1 : updM V 0 3 (nI (k + 1)) 1 = W 1 := by rw [updM_o (by decide), c3' 1 (by decide) (by omega)]
      have v2 : updM V 0 3 (nI (k + 1)) 0 2 = W 0 2 := by rw [updM_sn (by decide), c4' 2 (by decide)]
      have fa : FA Z (updM U 0 12 (nI (k + 1))) := FA.tr ⟨fun a h1 h2 => c5' a h1 h2, fun q h1 h2 _ => c6' q h1 h2⟩ FA.u12
      rw [x4, x2]
      by_cases hpn : p' < n
      · have hlt : nI p' < nI n := nI_lt hpn (by omega)
        have hle : ¬ nI n ≤ nI p' := nI_ge hpn (by omega)
        obtain ⟨s1, f1', g1', k1'⟩ := takes_sim hTP 59 (by decide)
        have eR : lf_X9_readAll_19 (fun X5 => X5) (g2 + 1) (updM U 0 12 (nI (k + 1))) = if p_X9_takes (updM U 0 12 (nI (k + 1))) 59 0 10 = 0 then lf_X9_readAll_19 (fun X5 => X5) g2 (p_X9_readTicket (p_X9_takes (updM U 0 12 (nI (k + 1))) 59)) else lf_X9_readAll_19 (fun X5 => X5) g2 (p_X9_takes (updM U 0 12 (nI (k + 1))) 59) := by
          simp only [lf_X9_readAll_19, if_pos y10, y7, y9, if_neg hle]
        have eO : (∀ X1 : gM, X1 = p_X9_takes (updM U 0 12 (nI (k + 1))) 59 → (if X1 0 10 = 0 then (ok_X9_readTicket X1) ∧ ∀ X2 : gM, X2 = p_X9_readTicket X1 → lok_X9_readAll_19 (fun _ => True) g2 X2 else lok_X9_readAll_19 (fun _ => True) g2 X1)) → lok_X9_readAll_19 (fun _ => True) (g2 + 1) (updM U 0 12 (nI (k + 1))) := by
          intro q
          simp only [lok_X9_readAll_19, if_pos y10, y7, y9, if_neg hle]
          exact ⟨k1', q⟩
        rw [if_pos hlt, eR]
        rcases s1 with ⟨r1, T1⟩ | ⟨r1, r1', q1⟩
        · have u10 : p_X9_takes (updM U 0 12 (nI (k + 1))) 59 0 10 = 0 := T1.2.2.2.2.2.2.2.1
          rw [r1, if_neg (show ¬ (1 : Int32) = 0 by decide), if_pos u10]
          obtain ⟨⟨i1, i2, i3, i4⟩, i5, i6⟩ := ih (k + 1) g1 g2 _ _ (p' + 1) (by omega) (by omega) (by omega) T1 (by omega) (fun j hj i hi => by rw [f1'.1 _ (by omega), g1'.1 6 (by decide)]; exact hTR j hj i hi)
          refine ⟨⟨i1, by rw [i2, f1'.1 1 (by decide), v1], by rw [i3, f1'.2 2 (by decide), v2], fa.tr (g1'.fa.tr i4)⟩, okT, eO (fun X1 e => ?_)⟩
          subst e
          rw [if_pos u10]
          exact ⟨i5, fun X2 e2 => by rw [e2]; exact i6⟩
        · have u10 : ¬ p_X9_takes (updM U 0 12 (nI (k + 1))) 59 0 10 = 0 := by rw [q1.1]; decide
          obtain ⟨w1', w2'⟩ := wrong g2 (p_X9_takes (updM U 0 12 (nI (k + 1))) 59) (by omega) q1.1
          rw [r1, if_pos rfl, if_neg u10, w1', r1']
          refine ⟨⟨Or.inr ⟨p', a3, x4, q1.1, q1.2.1⟩, v1, v2, fa.tr g1'.fa⟩, okT, eO (fun X1 e => ?_)⟩
          subst e
          rw [if_neg u10]
          exact w2'
      · have hlt : ¬ nI p' < nI n := nI_nlt (by omega) (by omega)
        have hle : nI n ≤ nI p' := nI_le (by omega) (by omega)
        have eR : lf_X9_readAll_19 (fun X5 => X5) (g2 + 1) (updM U 0 12 (nI (k + 1))) = updM U 0 12 (nI (k + 1)) := by
          simp only [lf_X9_readAll_19, if_pos y10, y7, y9, if_pos hle]
        have eO : lok_X9_readAll_19 (fun _ => True) (g2 + 1) (updM U 0 12 (nI (k + 1))) := by
          simp only [lok_X9_readAll_19, if_pos y10, y7, y9, if_pos hle]
        rw [if_neg hlt, eR]
        refine ⟨?_, okT, eO⟩
        unfold FF
        dsimp only
        exact ⟨Or.inl ⟨k + 1, by omega, by omega, rfl, updM_ss, updM_ss, y10, hTR⟩, v1, v2, fa⟩
    · generalize p_X9_readTicket Z = T at *
      obtain ⟨w1', w2'⟩ := wrong (g2 + 1) T (by omega) b2.1
      rw [b0, if_pos rfl, w1']
      refine ⟨?_, okT, w2'⟩
      have q1 := b3 1 (by decide) (by omega)
      have q2 := b4 2 (by decide)
      unfold FF
      dsimp only
      generalize (p_X6_readTrip W (3 + k)).2 = V at *
      exact ⟨Or.inr ⟨p', b2.2.2.2.1, b1, b2.1, b2.2.1⟩, q1, q2, b5⟩
theorem readAll_ok {Y T : gM} (hT : T = p_X9_readTicket (updM (updM (updM Y 0 9 0) 0 10 0) 0 12 0)) (q1 : ok_X9_readTicket (updM (updM (updM Y 0 9 0) 0 10 0) 0 12 0)) (q2 : lok_X9_readAll_19 (fun _ => True) 70 T) : ok_X9_readAll Y := by
  unfold ok_X9_readAll
  intro X1 e1 X2 e2 X3 e3
  rw [e1] at e2
  rw [e2] at e3
  rw [e3, ← hT]
  refine ⟨q1, fun X4 e4 => ?_⟩
  rw [e4]
  exact q2
/-- the text of the object and of the reference is read -/
theorem read_sim {X Y : gM} (h : Tx X Y) : ∃ n, n ≤ 60 ∧ FF (vx X) Y (p_X6_findFault (vx X)) (p_X9_readAll Y) n ∧ ok_X9_readAll Y := by
  obtain ⟨n, n60, x2, y7, hc⟩ := h
  have hTP : TP (updM (updM (vx X) 0 4 0) 0 3 0) (updM (updM (updM Y 0 9 0) 0 10 0) 0 12 0) n 0 0 := by
    refine ⟨?_, ?_, by omega, n60, fun k hk => ?_, ?_, ?_, ?_, ?_⟩
    · rw [updM_sn (by decide), updM_sn (by decide)]
      exact x2
    · rw [updM_sn (by decide), updM_ss]
      rfl
    · rw [updM_n (by decide), updM_n (by decide), updM_n (by decide), updM_n (by decide), updM_n (by decide)]
      exact hc k hk
    · rw [updM_sn (by decide), updM_sn (by decide), updM_sn (by decide), y7]
    · rw [updM_sn (by decide), updM_sn (by decide), updM_ss]
      rfl
    · rw [updM_sn (by decide), updM_ss]
    · rw [updM_ss]
      rfl
  have L := fault_loop 5 0 6 70 (updM (updM (vx X) 0 4 0) 0 3 0) (updM (updM (updM Y 0 9 0) 0 10 0) 0 12 0) 0 (by omega) (by omega) (by omega) hTP (by omega) (fun j hj => absurd hj (by omega))
  have fa : FA Y (updM (updM (updM Y 0 9 0) 0 10 0) 0 12 0) := by
    refine ⟨fun a h1 h2 => by rw [updM_o h1, updM_o h1, updM_o h1], fun q h1 h2 h3 => by rw [updM_sn h3, updM_sn h2, updM_sn h1]⟩
  have eF : p_X6_findFault (vx X) = lf_X6_findFault_12 (fun X3 _ => (X3 0 4, X3)) 6 (updM (updM (vx X) 0 4 0) 0 3 0) 0 := rfl
  have eR : p_X9_readAll Y = lf_X9_readAll_19 (fun X5 => X5) 70 (p_X9_readTicket (updM (updM (updM Y 0 9 0) 0 10 0) 0 12 0)) := rfl
  obtain ⟨T, hT⟩ : ∃ T, T = p_X9_readTicket (updM (updM (updM Y 0 9 0) 0 10 0) 0 12 0) := ⟨_, rfl⟩
  rw [← hT] at L eR
  rw [eF, eR]
  generalize lf_X6_findFault_12 (fun X3 _ => (X3 0 4, X3)) 6 (updM (updM (vx X) 0 4 0) 0 3 0) 0 = R at *
  obtain ⟨⟨i1, i2, i3, i4⟩, i5, i6⟩ := L
  refine ⟨n, n60, ⟨i1, ?_, ?_, fa.tr i4⟩, readAll_ok hT i5 i6⟩
  · refine i2.trans ?_
    rw [updM_o (by decide), updM_o (by decide)]
  · refine i3.trans ?_
    rw [updM_sn (by decide), updM_sn (by decide)]
end ALLTEXT
