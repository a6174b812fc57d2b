/-! steps of a run by hand over an object whose state of now is a table; the rest is as the last act left it -/
def nfR (x : Nat → Int32) : Nat → Nat → List Nat
  | _, 0 => []
  | j, n + 1 => (x j).toBitVec.toNat :: nfR x (j + 1) n
theorem nfR_get (x : Nat → Int32) : ∀ n j i, i < n → tqG (nfR x j n) i = (x (j + i)).toBitVec.toNat := by
  intro n
  induction n with
  | zero => intro j i h; exact absurd h (Nat.not_lt_zero i)
  | succ n ih =>
    intro j i h
    cases i with
    | zero => rfl
    | succ i =>
      show tqG (nfR x (j + 1) n) i = _
      rw [ih (j + 1) i (by omega), show j + 1 + i = j + (i + 1) by omega]
/-- rows of the cells from c on -/
def nfC (x : gM) : Nat → Nat → List (List Nat)
  | _, 0 => []
  | c, n + 1 => nfR (x c) 0 (tqK (kdS c)) :: nfC x (c + 1) n
theorem nfC_get (x : gM) : ∀ n c i, i < n → tqH (nfC x c n) i = nfR (x (c + i)) 0 (tqK (kdS (c + i))) := by
  intro n
  induction n with
  | zero => intro c i h; exact absurd h (Nat.not_lt_zero i)
  | succ n ih =>
    intro c i h
    cases i with
    | zero => rfl
    | succ i =>
      show tqH (nfC x (c + 1) n) i = _
      rw [ih (c + 1) i (by omega), show c + 1 + i = c + (i + 1) by omega]
def nfT (x : gM) : Nat → Nat → TqT
  | _, 0 => []
  | d, n + 1 => nfC x (12 * d) 12 :: nfT x (d + 1) n
theorem nfT_get (x : gM) : ∀ n d i, i < n → tqI (nfT x d n) i = nfC x (12 * (d + i)) 12 := by
  intro n
  induction n with
  | zero => intro d i h; exact absurd h (Nat.not_lt_zero i)
  | succ n ih =>
    intro d i h
    cases i with
    | zero => rfl
    | succ i =>
      show tqI (nfT x (d + 1) n) i = _
      rw [ih (d + 1) i (by omega), show d + 1 + i = d + (i + 1) by omega]
theorem mS_nf (x : gM) {c j : Nat} (hc : c < 123) (hj : j < tqK (kdS c)) : mS (nfT x 0 11) c j = x c j := by
  unfold mS
  rw [nfT_get x 11 0 (c / 12) (by omega), nfC_get x 12 _ (c % 12) (by omega), show 12 * (0 + c / 12) + c % 12 = c by omega, nfR_get _ _ _ _ hj, Nat.zero_add, nI_bv]
/-- the cells beside the states: the object, the history's row, the text, what is asked -/
def nfE (X : gM) : Nat → Nat → List (List Nat)
  | _, 0 => []
  | i, n + 1 => nfR (X (if i = 0 then 0 else 369 + i)) 0 (tqW (if i = 0 then 0 else 369 + i)) :: nfE X (i + 1) n
theorem nfE_get (X : gM) : ∀ n d i, i < n → tqH (nfE X d n) i = nfR (X (if d + i = 0 then 0 else 369 + (d + i))) 0 (tqW (if d + i = 0 then 0 else 369 + (d + i))) := by
  intro n
  induction n with
  | zero => intro d i h; exact absurd h (Nat.not_lt_zero i)
  | succ n ih =>
    intro d i h
    cases i with
    | zero => rfl
    | succ i =>
      show tqH (nfE X (d + 1) n) i = _
      rw [ih (d + 1) i (by omega), show d + 1 + i = d + (i + 1) by omega]
def hyO (E : List (List Nat)) (T : TqT) (r : gM) : gM := fun a =>
  if a = 0 then (fun j => nI (tqG (tqH E 0) j)) else if a < 124 then mS T (a - 1) else if a < 370 then r a else if a < 380 then (fun j => nI (tqG (tqH E (a - 369)) j)) else r a
theorem hy_E (X : gM) {i a j : Nat} (hi : i < 11) (ha : (if i = 0 then 0 else 369 + i) = a) (hj : j < tqW a) : nI (tqG (tqH (nfE X 0 11) i) j) = X a j := by
  subst ha
  rw [nfE_get X 11 0 i hi, show 0 + i = i by omega, nfR_get _ _ _ _ hj, Nat.zero_add, nI_bv]
/-- such an object stands for another whose state of now says what the table says -/
theorem rl_hy {r Y : gM} {T : TqT} (h : Rl (putS r 0 (mS T)) Y) : Rl (hyO (nfE r 0 11) T r) Y := by
  refine h.tq (fun a j ha hj => ?_)
  unfold putS hyO
  rw [off0]
  by_cases h0 : a = 0
  · have n1 : ¬ (1 ≤ a ∧ a < 1 + 123) := by omega
    rw [if_neg n1, if_pos h0]
    exact hy_E r (by decide) (by rw [if_pos rfl, h0]) hj
  · by_cases h1 : a < 124
    · have y1 : 1 ≤ a ∧ a < 1 + 123 := by omega
      rw [if_pos y1, if_neg h0, if_pos h1]
    · have n1 : ¬ (1 ≤ a ∧ a < 1 + 123) := by omega
      by_cases h2 : a < 370
      · rw [if_neg n1, if_neg h0, if_neg h1, if_pos h2]
      · by_cases h3 : a < 380
        · rw [if_neg n1, if_neg h0, if_neg h1, if_neg h2, if_pos h3]
          exact hy_E r (by omega) (by rw [if_neg (by omega)]; omega) hj
        · rw [if_neg n1, if_neg h0, if_neg h1, if_neg h2, if_neg h3]
theorem se_mS {x : gM} {r : Nat → Int32} (h : SE x r) : SE (mS (nfT x 0 11)) r := h.cg2 (fun _ _ hc hj => mS_nf x hc hj)
theorem rl_nf {r Y : gM} (h : Rl r Y) : Rl (hyO (nfE r 0 11) (nfT (vw 0 r) 0 11) r) Y := rl_hy (h.fr ((se_mS h.1).cg (fun _ _ hc => vw_put0 hc) (fun _ _ => rfl)) FX.put0 FY.rf)
def fR3 {α : Type} : TqT → (TqT → α) → α
  | [], k => k []
  | q :: t, k => tqFF q (fun q' => fR3 t (fun t' => k (q' :: t')))
theorem fR3_eq {α : Type} : ∀ (t : TqT) (k : TqT → α), fR3 t k = k t := by
  intro t
  induction t with
  | nil => intro k; rfl
  | cons q t ih =>
    intro k
    show tqFF q _ = _
    rw [tqFF_eq, ih]
def stH (r : Int32 × gM) (v : Int32) (k : gM → Bool) : Bool := decide (r.1 = v) && tqFF (nfE r.2 0 11) (fun E => fR3 (nfT (vw 0 r.2) 0 11) (fun T => k (hyO E T r.2)))
theorem stH_ev {f : gM → Int32 × gM} (hf : SimF f) {X U : gM} {v : Int32} {k : gM → Bool} (h : Ev X U) (hk : stH (f U) v k = true) : (f X).1 = v ∧ ∃ U', Ev (f X).2 U' ∧ k U' = true := by
  obtain ⟨Y, hX, hU⟩ := h
  obtain ⟨e, Y', x2, u2⟩ := hf X U Y hX hU
  unfold stH at hk
  rw [Bool.and_eq_true, decide_eq_true_eq, tqFF_eq, fR3_eq] at hk
  exact ⟨by rw [e, hk.1], _, ⟨Y', x2, rl_nf u2⟩, hk.2⟩
/-- many ticks over a table -/
theorem tk_tab {Z Y : gM} {T : TqT} (hZ : Rl Z Y) (hT : SE (mS T) (Y 1)) : ∃ Y', Rl (putS Z 0 (p_X3_passTick (vw 0 Z))) Y' ∧ SE (mS (q_X3_passTick T)) (Y' 1) ∧ FY Y Y' := by
  obtain ⟨tc, oc, sl, ph, mn, hs⟩ := hZ.1
  obtain ⟨tc', oc', sl', ph', mn', hs'⟩ := hT
  obtain ⟨r2, tc2, ph2, v, t1, t2, -, -, -⟩ := tick_sim (Y := Y) hs
  obtain ⟨r2', tc2', ph2', v', t1', t2', -, -, -⟩ := tick_sim (Y := Y) hs'
  have et := t1.symm.trans t1'
  have er : r2 = r2' := congrFun et 1
  subst er
  rw [qe_X3_passTick] at t2'
  have hY : FY Y (sR (updM Y 0 8 v) r2) := by
    have h := fy_a8 (Y := Y) (r := Y 1) (r' := r2) (v := v)
    rw [sR_id] at h
    exact h
  exact ⟨sR (updM Y 0 8 v) r2, hZ.fr (t2.se.cg (fun _ _ hc => vw_put0 hc) (fun _ _ => rfl)) FX.put0 hY, t2'.se, hY⟩
def tkT : Nat → TqT → (TqT → Bool) → Bool
  | 0, T, k => k T
  | n + 1, T, k => fR3 (q_X3_passTick T) (fun T' => tkT n T' k)
theorem tkT_ev {N : Nat} (hN : N < 1000) {y : Int32} {K : gM → Nat → Int32 × gM} {k : TqT → Bool} : ∀ d i f (Z Y : gM) (T : TqT), i + d = N → d < f → Rl Z Y → SE (mS T) (Y 1) → tkT d T k = true → ∃ Z' Y' T', lf_X8_tick_28 (nI N) y K f Z i = K Z' N ∧ Rl Z' Y' ∧ SE (mS T') (Y' 1) ∧ FY Y Y' ∧ k T' = true := by
  intro d
  induction d with
  | zero =>
    intro i f Z Y T hi hf hZ hT hk
    obtain ⟨g, rfl⟩ : ∃ g, f = g + 1 := ⟨f - 1, by omega⟩
    have e : i = N := by omega
    subst e
    have hle : nI i ≤ nI i := nI_le (Nat.le_refl _) (by omega)
    simp only [lf_X8_tick_28, if_pos hle]
    exact ⟨Z, Y, T, rfl, hZ, hT, FY.rf, hk⟩
  | succ d ih =>
    intro i f Z Y T hi hf hZ hT hk
    obtain ⟨g, rfl⟩ : ∃ g, f = g + 1 := ⟨f - 1, by omega⟩
    have hle : ¬ nI N ≤ nI i := nI_ge (by omega) (by omega)
    obtain ⟨Y1, z2, t2, y2⟩ := tk_tab hZ hT
    have hk2 : tkT d (q_X3_passTick T) k = true := by
      have h3 := hk
      unfold tkT at h3
      rw [fR3_eq] at h3
      exact h3
    obtain ⟨Z', Y', T', q1, q2, q3, q4, q5⟩ := ih (i + 1) g _ Y1 _ (by omega) (by omega) z2 t2 hk2
    simp only [lf_X8_tick_28, if_neg hle]
    exact ⟨Z', Y', T', q1, q2, q3, y2.tr q4, q5⟩
def stW (U : gM) (a v : Int32) (k : gM → Bool) : Bool := decide (f_X8_within a 1 60 = 1) && tqFF (nfE (p_X8_recordState U) 0 11) (fun E => fR3 (nfT (vw 0 (p_X8_recordState U)) 0 11) (fun T => tkT a.toNatClampNeg T (fun T' => decide (f_X3_countIn (mS T') 3 - f_X3_countIn (mS T) 3 = v) && k (hyO E T' (p_X8_recordState U)))))
theorem countIn_se {x u : gM} {r : Nat → Int32} (h : SE x r) (g : SE u r) (a : Int32) : f_X3_countIn x a = f_X3_countIn u a := by
  obtain ⟨tc, oc, sl, ph, mn, hs⟩ := h
  obtain ⟨tc', oc', sl', ph', mn', hs'⟩ := g
  have h40 := hs.tc4
  have h40' := hs'.tc4
  have et : tc = tc' := nI_inj (by omega) (by omega) (hs.r1.symm.trans hs'.r1)
  subst et
  rw [X_countIn (X := x) (r := r) a (by rw [hs.1.g LK1, hs.r1]) h40 (fun t ht => hs.1.g (LT6 (by omega))), X_countIn (X := u) (r := r) a (by rw [hs'.1.g LK1, hs'.r1]) h40 (fun t ht => hs'.1.g (LT6 (by omega)))]
theorem e_tickW {X U : gM} {a v : Int32} {k : gM → Bool} (h : Ev X U) (hk : stW U a v k = true) : (p_X8_tick X a).1 = v ∧ ∃ U', Ev (p_X8_tick X a).2 U' ∧ k U' = true := by
  obtain ⟨Y, hX, hU⟩ := h
  unfold stW at hk
  rw [Bool.and_eq_true, decide_eq_true_eq, tqFF_eq, fR3_eq] at hk
  obtain ⟨hw, hk⟩ := hk
  have hw0 : ¬ f_X8_within a 1 60 = 0 := by rw [hw]; decide
  obtain ⟨N, N1, N60, rfl⟩ := in_13 (N := 60) (by omega) hw0
  rw [nI_clamp (n := N) (by omega)] at hk
  have RX := (rec_sim hX).1
  have RU := (rec_sim hU).1
  have hT := se_mS RU.1
  generalize p_X9_records Y = Y1 at RX RU hT
  generalize p_X8_recordState U = U1 at hk RU hT
  generalize nfT (vw 0 U1) 0 11 = T at hk hT
  unfold p_X8_tick
  rw [if_neg hw0]
  dsimp only
  obtain ⟨Z', Y', T', q1, q2, q3, q4, q5⟩ := tkT_ev (N := N) (by omega) (y := f_X3_countIn (vw 0 (p_X8_recordState X)) 3) (K := fun X2 _ => ((f_X3_countIn (vw 0 X2) 3) - (f_X3_countIn (vw 0 (p_X8_recordState X)) 3), X2)) N 0 2147483648 (p_X8_recordState X) Y1 T (by omega) (by omega) RX hT hk
  rw [q1]
  dsimp only
  rw [Bool.and_eq_true, decide_eq_true_eq] at q5
  refine ⟨?_, _, ⟨Y', q2, rl_hy (RU.fr (q3.cg (fun _ _ hc => vw_put0 hc) (fun _ _ => rfl)) FX.put0 q4)⟩, q5.2⟩
  rw [← q5.1, countIn_se q2.1 q3, countIn_se RX.1 hT]
/-! forecasts: the state of now stays, the trial is tried over a table -/
theorem Sm.put2 {X Z : gM} : Sm X (putS X 2 Z) := ⟨fun _ _ hc => vw0_put2 hc, FX.put2⟩
theorem sm_fate_l {a1 a2 : Int32} {d3 d4 : Nat} {K : gM → Nat → Int32 × gM} {X : gM} (hK : ∀ Z k, Sm X Z → Sm X (K Z k).2) : ∀ (n : Nat) (Z : gM) (k : Nat), Sm X Z → Sm X (lf_X8_fate_61 a1 a2 d3 d4 K n Z k).2 := by
  intro n
  induction n with
  | zero => intro Z k h; exact hK Z k h
  | succ n ih =>
    intro Z k h
    simp only [lf_X8_fate_61]
    split
    · exact hK Z k h
    · split
      · exact ih _ _ (h.tr Sm.put2)
      · exact h.tr Sm.put2
theorem sm_fate {X : gM} (a1 a2 : Int32) : Sm X (p_X8_fate X a1 a2).2 := by
  unfold p_X8_fate
  rcases h1 : f_X3_ticketOf (vw 0 X) a1 with _ | q1
  · exact Sm.rf
  · simp only [gOpt]
    split
    · exact Sm.rf
    · split
      · rcases h2 : f_X3_ticketOf (vw 2 (putS X 2 (vw 0 X))) a1 with _ | q4
        · rw [show (2147483648 : Nat) = 2147483647 + 1 from rfl]
          simp only [lf_X8_fate_61n]
          exact Sm.put2
        · exact sm_fate_l (fun _ _ h => h) _ _ _ Sm.put2
      · exact Sm.rf
theorem sm_slotIn_l {a1 a2 : Int32} {d3 d4 : Nat} {K : gM → Nat → Int32 × gM} {X : gM} (hK : ∀ Z k, Sm X Z → Sm X (K Z k).2) : ∀ (n : Nat) (Z : gM) (k : Nat), Sm X Z → Sm X (lf_X8_slotIn_42 a1 a2 d3 d4 K n Z k).2 := by
  intro n
  induction n with
  | zero => intro Z k h; exact hK Z k h
  | succ n ih =>
    intro Z k h
    simp only [lf_X8_slotIn_42]
    split
    · exact hK Z k h
    · exact ih _ _ (h.tr Sm.put2)
theorem sm_slotIn {X : gM} (a1 a2 : Int32) : Sm X (p_X8_slotIn X a1 a2).2 := by
  unfold p_X8_slotIn
  rcases h1 : f_X3_stationOf (vw 0 X) a1 with _ | q1
  · exact Sm.rf
  · simp only [gOpt]
    split
    · exact Sm.rf
    · exact sm_slotIn_l (fun _ _ h => h) _ _ _ Sm.put2
theorem sm_laps {X : gM} (a1 a2 : Int32) : Sm X (p_X8_lapsNeeded X a1 a2).2 := by
  unfold p_X8_lapsNeeded
  rcases h1 : f_X3_stationOf (vw 0 X) a1 with _ | q1
  · rcases h2 : f_X3_stationOf (vw 0 X) a2 with _ | q2
    · exact Sm.rf
    · exact Sm.rf
  · rcases h2 : f_X3_stationOf (vw 0 X) a2 with _ | q2
    · exact Sm.rf
    · simp only [gOpt]
      split
      · exact Sm.rf
      · split
        · exact Sm.tr Sm.put2 Sm.put2
        · exact Sm.rf
/-- a step that only looks ahead: the object stays -/
def stN (r : Int32 × gM) (v : Int32) (k : Bool) : Bool := decide (r.1 = v) && k
theorem stN_ev {f : gM → Int32 × gM} (hf : SimF f) (hs : ∀ X, Sm X (f X).2) {X U : gM} {v : Int32} {k : Bool} (h : Ev X U) (hk : stN (f U) v k = true) : (f X).1 = v ∧ Ev (f X).2 U ∧ k = true := by
  obtain ⟨e, -⟩ := hf.ev h
  unfold stN at hk
  rw [Bool.and_eq_true, decide_eq_true_eq] at hk
  exact ⟨by rw [e, hk.1], (hs X).ev h, hk.2⟩
theorem eN_slotIn {X U : gM} {a1 a2 v : Int32} {k : Bool} (h : Ev X U) (hk : stN (p_X8_slotIn U a1 a2) v k = true) : (p_X8_slotIn X a1 a2).1 = v ∧ Ev (p_X8_slotIn X a1 a2).2 U ∧ k = true := stN_ev (sf_slotIn a1 a2) (fun _ => sm_slotIn a1 a2) h hk
theorem eN_lapsNeeded {X U : gM} {a1 a2 v : Int32} {k : Bool} (h : Ev X U) (hk : stN (p_X8_lapsNeeded U a1 a2) v k = true) : (p_X8_lapsNeeded X a1 a2).1 = v ∧ Ev (p_X8_lapsNeeded X a1 a2).2 U ∧ k = true := stN_ev (sf_lapsNeeded a1 a2) (fun _ => sm_laps a1 a2) h hk
/-- fate over a table -/
def faE (w : Int32) (q : Nat) : Nat → TqT → Nat → Option Int32
  | 0, _, _ => none
  | n + 1, T, i => if f_X5_hasEnded (mS (q_X3_passTick T)) q = 0 then fR3 (q_X3_passTick T) (fun T' => faE w q n T' (i + 1)) else some (f_X8_fateTold (mS (q_X3_passTick T)) q w (nI i))
theorem ended_se {x u : gM} {r : Nat → Int32} (h : SE x r) (g : SE u r) {t : Nat} (ht : t < 40) : f_X5_hasEnded x (35 + 2 * t) = f_X5_hasEnded u (35 + 2 * t) ∧ ∀ w i, f_X8_fateTold x (35 + 2 * t) w i = f_X8_fateTold u (35 + 2 * t) w i := by
  obtain ⟨tc, oc, sl, ph, mn, hs⟩ := h
  obtain ⟨tc', oc', sl', ph', mn', hs'⟩ := g
  have e : ∀ i c j, LC i c j → x c j = u c j := fun i c j hl => (hs.1.g hl).trans (hs'.1.g hl).symm
  constructor
  · unfold f_X5_hasEnded
    rw [e _ _ _ (LT6 ht)]
  · intro w i
    unfold f_X8_fateTold
    rw [e _ _ _ (LT6 ht), e _ _ _ (LT12 ht), e _ _ _ (LT4 ht)]
theorem tick_se {x u : gM} {r : Nat → Int32} (h : SE x r) (g : SE u r) : ∃ r', SE (p_X3_passTick x) r' ∧ SE (p_X3_passTick u) r' := by
  obtain ⟨tc, oc, sl, ph, mn, hs⟩ := h
  obtain ⟨tc', oc', sl', ph', mn', hs'⟩ := g
  obtain ⟨r2, tc2, ph2, v, t1, t2, -, -, -⟩ := tick_sim (Y := gZ) hs
  obtain ⟨r2', tc2', ph2', v', t1', t2', -, -, -⟩ := tick_sim (Y := gZ) hs'
  have et := t1.symm.trans t1'
  have er : r2 = r2' := congrFun et 1
  subst er
  exact ⟨r2, t2.se, t2'.se⟩
theorem faE_ev {a1 w v : Int32} {d3 t : Nat} (ht : t < 40) {K : gM → Nat → Int32 × gM} : ∀ n i f (Z : gM) (T : TqT) (r : Nat → Int32), n < f → i + n ≤ 301 → SE (vw 2 Z) r → SE (mS T) r → faE w (35 + 2 * t) n T i = some v → (lf_X8_fate_61 a1 w d3 (35 + 2 * t) K f Z i).1 = v := by
  intro n
  induction n with
  | zero => intro i f Z T r _ _ _ _ hk; exact absurd hk (by simp [faE])
  | succ n ih =>
    intro i f Z T r hf hi hZ hT hk
    obtain ⟨g, rfl⟩ : ∃ g, f = g + 1 := ⟨f - 1, by omega⟩
    have hle : ¬ (300 : Int32) < nI i := nI_nlt (a := 300) (b := i) (by omega) (by omega)
    obtain ⟨r', z2, t2⟩ := tick_se hZ hT
    rw [qe_X3_passTick] at t2
    have z3 : SE (vw 2 (putS Z 2 (p_X3_passTick (vw 2 Z)))) r' := z2.cg (fun _ _ hc => vw_put2 hc) (fun _ _ => rfl)
    obtain ⟨e1, e2⟩ := ended_se z3 t2 ht
    simp only [lf_X8_fate_61, if_neg hle]
    unfold faE at hk
    rw [← e1] at hk
    by_cases c : f_X5_hasEnded (vw 2 (putS Z 2 (p_X3_passTick (vw 2 Z)))) (35 + 2 * t) = 0
    · rw [if_pos c] at hk ⊢
      rw [fR3_eq] at hk
      exact ih (i + 1) g _ _ r' (by omega) (by omega) z3 t2 hk
    · rw [if_neg c] at hk ⊢
      rw [e2]
      exact Option.some.inj hk
def stF (U : gM) (t w v : Int32) (n : Nat) (k : Bool) : Bool := decide (f_X3_ticketOf (vw 0 U) t = some (35 + 2 * t.toNatClampNeg) ∧ t.toNatClampNeg < 40 ∧ f_X8_within w 0 3 = 1 ∧ f_X5_hasEnded (vw 0 U) (35 + 2 * t.toNatClampNeg) = 0 ∧ n ≤ 300) && (fR3 (nfT (vw 0 U) 0 11) (fun T => decide (faE w (35 + 2 * t.toNatClampNeg) n T 1 = some v)) && k)
theorem ticket_se {x u : gM} {r : Nat → Int32} (h : SE x r) (g : SE u r) (a : Int32) : f_X3_ticketOf x a = f_X3_ticketOf u a := by
  obtain ⟨tc, oc, sl, ph, mn, hs⟩ := h
  obtain ⟨tc', oc', sl', ph', mn', hs'⟩ := g
  unfold f_X3_ticketOf
  rw [hs.1.g LK1, hs'.1.g LK1]
theorem e_fateF {X U : gM} {t w v : Int32} {n : Nat} {k : Bool} (h : Ev X U) (hk : stF U t w v n k = true) : (p_X8_fate X t w).1 = v ∧ Ev (p_X8_fate X t w).2 U ∧ k = true := by
  obtain ⟨Y, hX, hU⟩ := id h
  unfold stF at hk
  rw [Bool.and_eq_true, decide_eq_true_eq, Bool.and_eq_true, fR3_eq, decide_eq_true_eq] at hk
  obtain ⟨⟨k1, k2, k3, k4, k5⟩, k6, k7⟩ := hk
  refine ⟨?_, (sm_fate t w).ev h, k7⟩
  generalize t.toNatClampNeg = t' at k1 k2 k4 k6
  have x1 : f_X3_ticketOf (vw 0 X) t = some (35 + 2 * t') := (ticket_se hX.1 hU.1 t).trans k1
  have s2 : SE (vw 2 (putS X 2 (vw 0 X))) (Y 1) := hX.1.cg (fun _ _ hc => vw_put2 hc) (fun _ _ => rfl)
  have x2 : f_X3_ticketOf (vw 2 (putS X 2 (vw 0 X))) t = some (35 + 2 * t') := (ticket_se s2 hU.1 t).trans k1
  have x4 : f_X5_hasEnded (vw 0 X) (35 + 2 * t') = 0 := (ended_se hX.1 hU.1 k2).1.trans k4
  unfold p_X8_fate
  rw [x1]
  simp only [gOpt]
  rw [if_neg (by rw [k3]; decide), if_pos x4, x2]
  exact faE_ev k2 n 1 2147483648 _ _ (Y 1) (by omega) (by omega) s2 (se_mS hU.1) k6
