/-! drain, tick, undo, keep, restore -/
section ACTS6
variable {X Y : gM} {r : Nat → Int32} {tc oc : Nat} {sl ph mn : Nat → Nat} {l n t k u : Nat}
def rDrn (r : Nat → Int32) (t l k : Nat) : Nat → Int32 := rLog (rEndC (rRise r t l k) t 7 (-5) (r (294 + 17 * t + 5)) r) 8 (nI t) (nI l) (-5)
theorem ev_drain (h : SS X r tc oc sl ph mn) (hl : l < 2) (ht : t < tc) (hk : k < 24) (hse : r (26 + 24 * l + k) = nI t) : SS (p_X0_setRider (p_X5_finish (updM (p_X1_write X 33 8 (nI t) (nI l) (-5) (X 0 7)) 0 12 ((p_X1_write X 33 8 (nI t) (nI l) (-5) (X 0 7) 0 12) + (p_X1_write X 33 8 (nI t) (nI l) (-5) (X 0 7) (35 + 2 * t) 3))) (35 + 2 * t) 7 (-5) (updM (p_X1_write X 33 8 (nI t) (nI l) (-5) (X 0 7)) 0 12 ((p_X1_write X 33 8 (nI t) (nI l) (-5) (X 0 7) 0 12) + (p_X1_write X 33 8 (nI t) (nI l) (-5) (X 0 7) (35 + 2 * t) 3)) 0 7)) (1 + 15 * l) (nI k) (-5)) (rDrn r t l k) tc oc sl ph mn := by
  have h40 := h.tc4
  have ht4 : t < 40 := by omega
  obtain ⟨f6, f7, f8⟩ := seat_f h hl hk ht hse
  obtain ⟨hPS, hOn, hLg, hInv⟩ := h
  have g7 := hPS.g LK0
  have g12 := hPS.g LK5
  have g3 := hPS.g (LT5 ht4)
  have w7 : p_X1_write X 33 8 (nI t) (nI l) (-5) (X 0 7) 0 7 = X 0 7 := write_o (by decide) (by decide)
  have w12 : p_X1_write X 33 8 (nI t) (nI l) (-5) (X 0 7) 0 12 = X 0 12 := write_o (by decide) (by decide)
  have w3 : p_X1_write X 33 8 (nI t) (nI l) (-5) (X 0 7) (35 + 2 * t) 3 = X (35 + 2 * t) 3 := write_o (by omega) (by omega)
  rw [setR_c hk, w12, w3, updM_sn (by decide), w7]
  simp only [p_X5_finish]
  refine ⟨?_, ?_, ?_, ?_⟩
  · unfold rDrn
    refine PS.set (LE hl hk) (by simp (disch := omega) only [rLog_o, rEndC, rRise, pk_us, pk_un]) ?_
    refine PS.set (LT12 ht4) (by simp (disch := omega) only [rLog_o, rEndC, rRise, pk_us, pk_un]) ?_
    refine PS.set (LT11 ht4) (by simp (disch := omega) only [rLog_o, rEndC, rRise, pk_us, pk_un, g7]) ?_
    refine PS.set (LT8 ht4) (by simp (disch := omega) only [rLog_o, rEndC, rRise, pk_us, pk_un]) ?_
    refine PS.set (LT7 ht4) (by simp (disch := omega) only [rLog_o, rEndC, rRise, pk_us, pk_un]) ?_
    refine PS.set (LT6 ht4) (by simp (disch := omega) only [rLog_o, rEndC, rRise, pk_us, pk_un]) ?_
    refine PS.set LK5 (by simp (disch := omega) only [rLog_o, rEndC, rRise, pk_us, pk_un, g12, g3]) ?_
    refine PS.wr (PS.log ?_)
    unfold rEndC rRise
    refine PS.rold (by simp (disch := omega) only [pk_us, pk_un, Int32.add_zero, Int32.sub_self]) ?_
    exact PS.rset (by simp) (PS.rset (by simp) (PS.rset (by simp) (PS.rset (by simp) (PS.rset (by simp) (PS.rset (by simp) (PS.rset (by simp) hPS.w0))))))
  · intro u hu h1
    have hut : u ≠ t := by
      rintro rfl
      simp (disch := omega) only [rDrn, rLog_o, rEndC, rRise, pk_us, pk_un] at h1
      exact absurd h1 (by decide)
    simp (disch := omega) only [rDrn, rLog_o, rEndC, rRise, pk_us, pk_un, updM_n, write_o] at h1 ⊢
    exact hOn u hu h1
  · unfold rDrn
    refine (Lg.wr (e := X 0 7) (r := rEndC (rRise r t l k) t 7 (-5) (r (294 + 17 * t + 5)) r) (X := X) (hLg.same (fun _ => rfl) (fun _ => rfl) (fun i hi => ?_)) ?_).same (fun j => ?_) (fun j => ?_) (fun _ _ => rfl)
    · simp (disch := omega) only [rEndC, rRise, pk_un]
    · simp (disch := omega) only [rEndC, rRise, pk_un, g7]
    · simp (disch := omega) only [updM_n]
    · simp (disch := omega) only [updM_n]
  · unfold rDrn
    refine Inv.log (Inv.leave hInv ht hl hk hse (z := 7) ?_ ?_ (by decide) (by decide) (fun z => absurd z (by decide)) (by decide) (Or.inr (by decide)) ?_)
    · simp (disch := omega) only [rEndC, rRise, pk_us, pk_un]
    · simp (disch := omega) only [rEndC, rRise, pk_us, pk_un]
      rfl
    · intro i hi n1 n2 n3 n4 n5
      simp only [rEndC, rRise, pk_un n1, pk_un n2, pk_un n3, pk_un n4, pk_un (nz hi (yT11 ht4)), pk_un (nz hi (yT12 ht4)), pk_un (nz hi yK4), pk_un (nz hi yK5)]
theorem drain_loop {y2 : Int32} {K : gM → Nat → Int32 × gM} (hl : l < 2) : ∀ d k f1 f2 (X : gM) (r : Nat → Int32), k + d = sl l → d < f1 → d < f2 → SS X r tc oc sl ph mn → ∃ r2, lf_X9_drain_29 (nI l) y2 K f2 (sR Y r) k = K (sR Y r2) (sl l) ∧ SS (lf_X3_putOutRiders_2 (1 + 15 * l) (fun X1 _ => X1) f1 X k) r2 tc oc sl ph mn ∧ lok_X9_drain_29 (nI l) y2 (fun _ _ => True) f2 (sR Y r) k := by
  intro d
  induction d with
  | zero =>
    intro k f1 f2 X r hk hf1 hf2 h
    obtain ⟨g1, rfl⟩ : ∃ g, f1 = g + 1 := ⟨f1 - 1, by omega⟩
    obtain ⟨g2, rfl⟩ : ∃ g, f2 = g + 1 := ⟨f2 - 1, by omega⟩
    have e : k = sl l := by omega
    have hL := (h.lin hl).1
    have hx : X (1 + 15 * l) 4 = nI (sl l) := by rw [h.1.g (LL0 hl), hL.1]
    have hr : f_X9_ofLine (sR Y r) (nI l) 0 = nI (sl l) := by rw [rf_line0 hl, sR_1, hL.1]
    have hle : nI (sl l) ≤ nI k := nI_le (by omega) (by omega)
    simp only [lf_X9_drain_29, lf_X3_putOutRiders_2, lok_X9_drain_29, hx, hr, if_pos hle]
    exact ⟨r, by rw [e], h, ro_line0 hl, trivial⟩
  | succ d ih =>
    intro k f1 f2 X r hk hf1 hf2 h
    obtain ⟨g1, rfl⟩ : ∃ g, f1 = g + 1 := ⟨f1 - 1, by omega⟩
    obtain ⟨g2, rfl⟩ : ∃ g, f2 = g + 1 := ⟨f2 - 1, by omega⟩
    have hL := (h.lin hl).1
    have h40 := h.tc4
    have hk24 : k < 24 := by omega
    have hx : X (1 + 15 * l) 4 = nI (sl l) := by rw [h.1.g (LL0 hl), hL.1]
    have hr : f_X9_ofLine (sR Y r) (nI l) 0 = nI (sl l) := by rw [rf_line0 hl, sR_1, hL.1]
    have hle : ¬ nI (sl l) ≤ nI k := nI_ge (by omega) (by omega)
    have rs : f_X9_seat (sR Y r) (nI l) (nI k) = r (26 + 24 * l + k) := rf_seat hl hk24
    have gs : X (1 + 15 * l + 1) k = r (26 + 24 * l + k) := h.1.g (LE hl hk24)
    simp only [lf_X9_drain_29, lf_X3_putOutRiders_2, lok_X9_drain_29, hx, hr, if_neg hle, riderIn_n hk24, gs]
    rw [rs]
    rcases h.sea hl hk24 with he | ⟨t, ht, hse, -⟩
    · rw [he, ticketOf_5, if_pos rfl, if_pos rfl]
      simp only [gOpt]
      obtain ⟨r2, q1, q2, q3⟩ := ih (k + 1) g1 g2 X r (by omega) (by omega) (by omega) h
      exact ⟨r2, q1, q2, ro_line0 hl, ro_seat hl hk24, q3⟩
    · have ht4 : t < 40 := by omega
      have hn5 : ¬ nI t = (-5) := nI_n5 (by omega)
      have h1 : X 0 5 = nI tc := by rw [h.1.g LK1, h.r1]
      obtain ⟨f6, f7, f8⟩ := seat_f h hl hk24 ht hse
      have v5 : f_X9_of (sR Y r) (nI t) 5 = r (294 + 17 * t + 5) := rf_of5 ht4
      obtain ⟨b1, b2⟩ := rp_ends (Y := Y) (z := 7) (st := (-5)) (m := r (294 + 17 * t + 5)) ht4 hl hk24 f6 f7 f8
      rw [hse, ticketOf_n h1 h40 ht, if_neg hn5, if_neg hn5, v5, b1]
      simp only [gOpt]
      rw [rp_logs, nT_tic, nL_lin hl]
      obtain ⟨r2, q1, q2, q3⟩ := ih (k + 1) g1 g2 _ (rDrn r t l k) (by omega) (by omega) (by omega) (ev_drain h hl ht hk24 hse)
      refine ⟨r2, q1, q2, ro_line0 hl, ro_seat hl hk24, ro_of5 ht4, b2, fun X1 ex => ?_⟩
      subst ex
      refine ⟨ro_logs, fun X2 ex => ?_⟩
      rw [rp_logs] at ex
      subst ex
      exact q3
theorem s_drain (h : Rl X Y) (a1 : Int32) : (p_X8_drain X a1).1 = (p_X9_drain Y a1).1 ∧ Rl (p_X8_drain X a1).2 (p_X9_drain Y a1).2 ∧ ok_X9_drain Y a1 := by
  obtain ⟨tc, oc, sl, ph, mn, hs⟩ := h.1
  obtain ⟨Y1, e1, h1, R1, o1, -, -⟩ := rec_use h hs
  have h40 := hs.tc4
  unfold p_X8_drain p_X9_drain ok_X9_drain
  rcases line_arg a1 with ⟨w1, w2⟩ | ⟨l, hl, rfl, w1, w2⟩
  · rw [w1, w2, if_pos rfl, if_pos rfl, if_pos rfl]
    exact ⟨rfl, h, trivial⟩
  · obtain ⟨n1, n2⟩ := R_on (Y := Y) (nI l) 1 hs.r1 h40
    rw [sR_id] at n1 n2
    rw [w1, w2, if_neg (show ¬ (1 : Int32) = 0 by decide), if_neg (show ¬ (1 : Int32) = 0 by decide), if_neg (show ¬ (1 : Int32) = 0 by decide), lineOf_n hl, n1, X_riderCount (r := Y 1) l (1 + 15 * l) (fun k hk => hs.1.g (LE hl hk)), ride_cn hs hl, e1]
    by_cases hc : nI (cn (bOn (Y 1) (nI l) 1) tc) = 0
    · rw [if_pos hc, if_pos hc, if_pos hc]
      exact ⟨rfl, h, n2, trivial⟩
    · rw [if_neg hc, if_neg hc, if_neg hc]
      dsimp only
      have hL := (h1.lin hl).1
      obtain ⟨r2, q1, q2, q3⟩ := drain_loop (Y := Y1) (y2 := nI (cn (bOn (Y 1) (nI l) 1) tc)) (K := fun X2 _ => (nI (cn (bOn (Y 1) (nI l) 1) tc), X2)) hl (sl l) 0 2147483648 2147483648 _ (Y 1) (by omega) (by omega) (by omega) h1
      rw [q1]
      refine ⟨rfl, R1.act q2.se, n2, o1, fun X1 ex => ?_⟩
      subst ex
      exact q3
theorem fy_a8 {r' : Nat → Int32} {v : Int32} : FY (sR Y r) (sR (updM Y 0 8 v) r') := by
  refine ⟨?_, ?_, ?_, ?_, ?_, ?_⟩
  · show updM Y 0 8 v 2 = Y 2
    exact updM_o (by decide)
  · show updM Y 0 8 v 3 = Y 3
    exact updM_o (by decide)
  · show updM Y 0 8 v 5 = Y 5
    exact updM_o (by decide)
  · show updM Y 0 8 v 0 2 = Y 0 2
    exact updM_sn (by decide)
  · show updM Y 0 8 v 0 4 = Y 0 4
    exact updM_sn (by decide)
  · show updM Y 0 8 v 0 7 = Y 0 7
    exact updM_sn (by decide)
theorem tick_loop {N : Nat} (hN : N < 1000) {y2 : Int32} {K K' : gM → Nat → Int32 × gM} : ∀ d k f1 f2 (Z Y : gM) (r : Nat → Int32) (tc : Nat) (ph : Nat → Nat), k + d = N → d < f1 → d < f2 → SS (vw 0 Z) r tc oc sl ph mn → Rl Z (sR Y r) → ∃ Z' r' tc' ph' v, lf_X8_tick_28 (nI N) y2 K f1 Z k = K Z' N ∧ lf_X9_tick_24 (nI N) K' f2 (sR Y r) k = K' (sR (updM Y 0 8 v) r') N ∧ SS (vw 0 Z') r' tc' oc sl ph' mn ∧ Rl Z' (sR (updM Y 0 8 v) r') ∧ AR Y r tc v r' tc' ∧ lok_X9_tick_24 (nI N) (fun _ _ => True) f2 (sR Y r) k := by
  intro d
  induction d with
  | zero =>
    intro k f1 f2 Z Y r tc ph hk hf1 hf2 h hR
    obtain ⟨g1, rfl⟩ : ∃ g, f1 = g + 1 := ⟨f1 - 1, by omega⟩
    obtain ⟨g2, rfl⟩ : ∃ g, f2 = g + 1 := ⟨f2 - 1, by omega⟩
    have e : k = N := by omega
    subst e
    have hle : nI k ≤ nI k := nI_le (Nat.le_refl _) (by omega)
    simp only [lf_X8_tick_28, lf_X9_tick_24, lok_X9_tick_24, if_pos hle]
    exact ⟨Z, r, tc, ph, Y 0 8, rfl, by rw [updM_id], h, by rw [updM_id]; exact hR, AR.same rfl, trivial⟩
  | succ d ih =>
    intro k f1 f2 Z Y r tc ph hk hf1 hf2 h hR
    obtain ⟨g1, rfl⟩ : ∃ g, f1 = g + 1 := ⟨f1 - 1, by omega⟩
    obtain ⟨g2, rfl⟩ : ∃ g, f2 = g + 1 := ⟨f2 - 1, by omega⟩
    have hle : ¬ nI N ≤ nI k := nI_ge (by omega) (by omega)
    obtain ⟨r2, tc2, ph2, v, t1, t2, t3, t4, t5⟩ := tick_sim (Y := Y) h
    have h2 : SS (vw 0 (putS Z 0 (p_X3_passTick (vw 0 Z)))) r2 tc2 oc sl ph2 mn := t2.cg (fun _ _ hc => vw_put0 hc) (fun _ _ => rfl)
    have R2 : Rl (putS Z 0 (p_X3_passTick (vw 0 Z))) (sR (updM Y 0 8 v) r2) := hR.fr h2.se FX.put0 fy_a8
    obtain ⟨Z', r', tc', ph', w, q1, q2, q3, q4, q5, q6⟩ := ih (k + 1) g1 g2 _ (updM Y 0 8 v) r2 tc2 ph2 (by omega) (by omega) (by omega) h2 R2
    rw [updM_tw] at q2 q4
    simp only [lf_X8_tick_28, lf_X9_tick_24, lok_X9_tick_24, if_neg hle, t1]
    refine ⟨Z', r', tc', ph', w, q1, q2, q3, q4, t4.tr q5, t5, fun X1 ex => ?_⟩
    subst ex
    exact q6
theorem s_tick (h : Rl X Y) (a1 : Int32) : (p_X8_tick X a1).1 = (p_X9_tick Y a1).1 ∧ Rl (p_X8_tick X a1).2 (p_X9_tick Y a1).2 ∧ ok_X9_tick Y a1 := by
  obtain ⟨tc, oc, sl, ph, mn, hs⟩ := h.1
  obtain ⟨Y1, e1, h1, R1, o1, -, -⟩ := rec_use h hs
  have h40 := hs.tc4
  unfold p_X8_tick p_X9_tick ok_X9_tick
  rw [in_eq]
  by_cases hw : f_X8_within a1 1 60 = 0
  · rw [if_pos hw, if_pos hw, if_pos hw]
    exact ⟨rfl, h, trivial⟩
  · rw [if_neg hw, if_neg hw, if_neg hw, e1]
    obtain ⟨N, N1, N60, rfl⟩ := in_13 (N := 60) (by omega) hw
    dsimp only
    have R2 : Rl (p_X8_recordState X) (sR (updM Y1 0 8 0) (Y 1)) := R1.fr h1.se FX.rf fy_a8
    obtain ⟨Z', r', tc', ph', v, q1, q2, q3, q4, ⟨D, d1, d2⟩, q6⟩ := tick_loop (N := N) (by omega) (y2 := f_X3_countIn (vw 0 (p_X8_recordState X)) 3) (K := fun X2 _ => ((f_X3_countIn (vw 0 X2) 3) - (f_X3_countIn (vw 0 (p_X8_recordState X)) 3), X2)) (K' := fun X3 _ => (X3 0 8, X3)) N 0 2147483648 2147483648 (p_X8_recordState X) (updM Y1 0 8 0) (Y 1) tc ph (by omega) (by omega) (by omega) h1 R2
    rw [sR_u0, q1, q2]
    have h40' := q3.tc4
    refine ⟨?_, q4, o1, fun X1 ex X2 ex2 => ?_⟩
    · dsimp only
      rw [X_countIn (r := r') 3 (by rw [q3.1.g LK1, q3.r1]) h40' (fun t ht => q3.1.g (LT6 (by omega))), X_countIn (r := Y 1) 3 (by rw [h1.1.g LK1, h1.r1]) h40 (fun t ht => h1.1.g (LT6 (by omega))), d1, Nat.add_comm, ← nI_add, Int32.add_sub_cancel]
      rw [updM_tw]
      show nI D = updM Y1 0 8 v 0 8
      rw [updM_ss, d2, updM_ss, Int32.zero_add]
    · subst ex
      rw [sR_u0] at ex2
      subst ex2
      exact q6
end ACTS6
