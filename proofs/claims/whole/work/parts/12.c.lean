/-! many ticks, a table behind each -/
theorem tk_step {Z U Y : gM} (hZ : Rl Z Y) (hU : Rl U Y) : ∃ Y', Rl (putS Z 0 (p_X3_passTick (vw 0 Z))) Y' ∧ Rl (putS U 0 (p_X3_passTick (vw 0 U))) Y' := by
  obtain ⟨tc, oc, sl, ph, mn, hs⟩ := hZ.1
  obtain ⟨tc', oc', sl', ph', mn', hs'⟩ := hU.1
  obtain ⟨r2, tc2, ph2, v, t1, t2, -, -, -⟩ := tick_sim (Y := Y) hs
  obtain ⟨r2', tc2', ph2', v', t1', t2', -, -, -⟩ := tick_sim (Y := Y) hs'
  have et := t1.symm.trans t1'
  have er : r2 = r2' := congrFun et 1
  have ev : v = v' := by
    have h1 : (updM Y 0 8 v) 0 8 = (updM Y 0 8 v') 0 8 := congrFun (congrFun et 0) 8
    rw [updM_ss, updM_ss] at h1
    exact h1
  subst er
  subst ev
  rw [← sR_id (Y := Y)] at hZ hU
  refine ⟨sR (updM Y 0 8 v) r2, hZ.fr ?_ FX.put0 fy_a8, hU.fr ?_ FX.put0 fy_a8⟩
  · exact t2.se.cg (fun _ _ hc => vw_put0 hc) (fun _ _ => rfl)
  · exact t2'.se.cg (fun _ _ hc => vw_put0 hc) (fun _ _ => rfl)
def tkE : Nat → gM → (gM → Bool) → Bool
  | 0, U, k => k U
  | n + 1, U, k => tqFF (tqT (putS U 0 (p_X3_passTick (vw 0 U))) 0 30) (fun T => tkE n (tqM T) k)
theorem tkE_ev {N : Nat} (hN : N < 1000) {y : Int32} {K : gM → Nat → Int32 × gM} {k : gM → Bool} : ∀ d i f (Z U : gM), i + d = N → d < f → Ev Z U → tkE d U k = true → ∃ Z' U', lf_X8_tick_28 (nI N) y K f Z i = K Z' N ∧ Ev Z' U' ∧ k U' = true := by
  intro d
  induction d with
  | zero =>
    intro i f Z U hi hf hE hk
    obtain ⟨g, rfl⟩ : ∃ g, f = g + 1 := ⟨f - 1, by omega⟩
    have e : i = N := by omega
    subst e
    have hle : nI i ≤ nI i := nI_le (Nat.le_refl _) (by omega)
    simp only [lf_X8_tick_28, if_pos hle]
    exact ⟨Z, U, rfl, hE, hk⟩
  | succ d ih =>
    intro i f Z U hi hf hE hk
    obtain ⟨g, rfl⟩ : ∃ g, f = g + 1 := ⟨f - 1, by omega⟩
    have hle : ¬ nI N ≤ nI i := nI_ge (by omega) (by omega)
    obtain ⟨Y, hZ, hU⟩ := hE
    obtain ⟨Y', z2, u2⟩ := tk_step hZ hU
    have hk2 : tkE d (tqM (tqT (putS U 0 (p_X3_passTick (vw 0 U))) 0 30)) k = true := by
      have h3 := hk
      unfold tkE at h3
      rw [tqFF_eq] at h3
      exact h3
    obtain ⟨Z', U', q1, q2, q3⟩ := ih (i + 1) g _ _ (by omega) (by omega) ⟨Y', z2, u2.tab⟩ hk2
    simp only [lf_X8_tick_28, if_neg hle]
    exact ⟨Z', U', q1, q2, q3⟩
def stT (U : gM) (a v : Int32) (k : gM → Bool) : Bool := decide (f_X8_within a 1 60 = 1) && tqFF (tqT (p_X8_recordState U) 0 30) (fun T => tkE a.toNatClampNeg (tqM T) (fun U2 => decide (f_X8_count U2 5 - f_X8_count (tqM T) 5 = v) && k U2))
theorem count5 (X : gM) : f_X8_count X 5 = f_X3_countIn (vw 0 X) 3 := by
  unfold f_X8_count
  rw [if_neg (by decide), show (5 - 2 : Int32) = 3 from by decide]
theorem e_tickN {X U : gM} {a v : Int32} {k : gM → Bool} (h : Ev X U) (hk : stT U a v k = true) : (p_X8_tick X a).1 = v ∧ ∃ U', Ev (p_X8_tick X a).2 U' ∧ k U' = true := by
  obtain ⟨Y, hX, hU⟩ := h
  unfold stT at hk
  rw [Bool.and_eq_true, decide_eq_true_eq, tqFF_eq] at hk
  obtain ⟨hw, hk⟩ := hk
  have hw0 : ¬ f_X8_within a 1 60 = 0 := by rw [hw]; decide
  obtain ⟨N, N1, N60, rfl⟩ := in_13 (N := 60) (by omega) hw0
  rw [nI_clamp (n := N) (by omega)] at hk
  have E1 : Ev (p_X8_recordState X) (tqM (tqT (p_X8_recordState U) 0 30)) := ⟨_, (rec_sim hX).1, (rec_sim hU).1.tab⟩
  generalize tqM (tqT (p_X8_recordState U) 0 30) = U1 at hk E1
  unfold p_X8_tick
  rw [if_neg hw0]
  dsimp only
  obtain ⟨Z', U', q1, q2, q3⟩ := tkE_ev (N := N) (by omega) (y := f_X3_countIn (vw 0 (p_X8_recordState X)) 3) (K := fun X2 _ => ((f_X3_countIn (vw 0 X2) 3) - (f_X3_countIn (vw 0 (p_X8_recordState X)) 3), X2)) N 0 2147483648 (p_X8_recordState X) U1 (by omega) (by omega) E1 hk
  rw [q1]
  dsimp only
  rw [Bool.and_eq_true, decide_eq_true_eq] at q3
  refine ⟨?_, U', q2, q3.2⟩
  obtain ⟨Y1, a1, a2⟩ := E1
  obtain ⟨Y2, b1, b2⟩ := q2
  rw [← count5, ← count5, ← q3.1]
  have e1 : f_X8_count (p_X8_recordState X) 5 = f_X8_count U1 5 := sq_count 5 _ _ _ a1 a2
  have e2 : f_X8_count Z' 5 = f_X8_count U' 5 := sq_count 5 _ _ _ b1 b2
  rw [e1, e2]
/-- a step without a table behind it -/
def stB (r : Int32 × gM) (v : Int32) (k : gM → Bool) : Bool := decide (r.1 = v) && k r.2
theorem stB_ev {f : gM → Int32 × gM} (hf : SimF f) {X U : gM} {v : Int32} {k : gM → Bool} (h : Ev X U) (hk : stB (f U) v k = true) : (f X).1 = v ∧ ∃ U', Ev (f X).2 U' ∧ k U' = true := by
  obtain ⟨e, h2⟩ := hf.ev h
  unfold stB at hk
  rw [Bool.and_eq_true, decide_eq_true_eq] at hk
  exact ⟨by rw [e, hk.1], _, h2, hk.2⟩
theorem eB_type {X U : gM} {a v : Int32} {k : gM → Bool} (h : Ev X U) (hk : stB (p_X8_type U a) v k = true) : (p_X8_type X a).1 = v ∧ ∃ U', Ev (p_X8_type X a).2 U' ∧ k U' = true := stB_ev (sf_type a) h hk
