/-! lines: their stations in turn, their move; both sides -/
theorem Inv.phase {r r' : Nat → Int32} {tc oc : Nat} {sl ph mn : Nat → Nat} (h : Inv r tc oc sl ph mn) {l p : Nat} (hl : l < 2) (hp : p < sl l) (h1 : r' (10 + 8 * l + 1) = nI p) (hs : ∀ i, zr i = true → i ≠ 10 + 8 * l + 1 → r' i = r i) : Inv r' tc oc sl (fun x => if x = l then p else ph x) mn := by
  obtain ⟨⟨a1, a2⟩, ⟨b1, b2⟩, c, d, e, f, g, kk⟩ := h
  have m6 : ∀ l, l < 2 → mn l ≤ 6 := fun l hl => (c l hl).2.2.2
  have s24 : ∀ l, l < 2 → sl l ≤ 24 := fun l hl => (c l hl).1.2.2
  refine ⟨⟨by rw [hs 1 (by decide +kernel) (by omega), a1], a2⟩, ⟨by rw [hs 2 (by decide +kernel) (by omega), b1], b2⟩, ?_, ?_, ?_, ?_, ?_, ?_⟩
  · intro l' hl'
    obtain ⟨c1, c2, c3⟩ := c l' hl'
    unfold InvL
    rw [hs _ (zL0 hl') (by omega), hs _ (zL4 hl') (by omega)]
    refine ⟨c1, ?_, c3⟩
    dsimp only
    by_cases hh : l' = l
    · subst hh
      rw [if_pos rfl]
      exact ⟨h1, hp⟩
    · rw [if_neg hh, hs _ (zL1 hl') (by omega)]
      exact c2
  · intro l' n' hl' hn'
    have h6' : n' < 6 := Nat.lt_of_lt_of_le hn' (m6 l' hl')
    unfold InvS
    rw [hs _ (zS0 hl' h6') (by omega), hs _ (zS5 hl' h6') (by omega)]
    exact d l' n' hl' hn'
  · intro l' n' k hl' w2 w3
    rw [hs _ (zV hl' w2 w3) (by omega)]
    exact e l' n' k hl' w2 w3
  · intro o ho
    have h4 : o < 4 := Nat.lt_of_lt_of_le ho b2
    unfold InvO
    rw [hs _ (zO0 h4) (by omega), hs _ (zO4 h4) (by omega), hs _ (zO6 h4) (by omega), hs _ (zO7 h4) (by omega), hs _ (zO8 h4) (by omega), hs _ (zO9 h4) (by omega)]
    exact f o ho
  · intro t ht
    have h4 : t < 40 := Nat.lt_of_lt_of_le ht a2
    have q := g t ht
    unfold InvT at q ⊢
    rw [hs _ (zT1 h4) (by omega), hs _ (zT2 h4) (by omega), hs _ (zT3 h4) (by omega), hs _ (zT14 h4) (by omega), hs _ (zT6 h4) (by omega), hs _ (zT4 h4) (by omega), hs _ (zT7 h4) (by omega), hs _ (zT8 h4) (by omega)]
    obtain ⟨q1, q2, q3, q4, s, q5, q6, q7, q8, q9⟩ := q
    refine ⟨q1, q2, q3, q4, s, q5, q6, q7, fun hz => ?_, q9⟩
    obtain ⟨l', j, w1, w2, w3, w4, w5⟩ := q8 hz
    have := s24 l' w1
    exact ⟨l', j, w1, w2, w3, w4, by rw [hs _ (zE w1 (by omega)) (by omega), w5]⟩
  · intro l' j hl' hj
    unfold InvE
    rw [hs _ (zE hl' hj) (by omega)]
    rcases kk l' j hl' hj with q | ⟨t, q1, q2, q3, q4, q5⟩
    · exact Or.inl q
    · have h4 : t < 40 := Nat.lt_of_lt_of_le q1 a2
      exact Or.inr ⟨t, q1, q2, by rw [hs _ (zT6 h4) (by omega), q3], by rw [hs _ (zT7 h4) (by omega), q4], by rw [hs _ (zT8 h4) (by omega), q5]⟩
theorem advance_c {X : gM} {c : Nat} : p_X0_advance X c =
    if X c 6 + X c 7 < 10 then
      if (-10) < X c 6 + X c 7 then ((-5), updM (updM X c 6 (X c 6 + X c 7)) c 5 (f_X0_around X c (X c 5 + 1)))
      else (7, updM (updM (updM X c 6 (X c 6 + X c 7 + 10)) c 9 (X c 9 + 1)) c 5 (f_X0_around X c (X c 5 + 2)))
    else (6, updM (updM X c 6 (X c 6 + X c 7 - 10)) c 8 (X c 8 + 1)) := by
  have n1 : ∀ v, updM X c 6 v c 5 = X c 5 := fun v => updM_sn (by decide)
  have n2 : ∀ v, updM X c 6 v c 4 = X c 4 := fun v => updM_sn (by decide)
  have n3 : ∀ v, updM X c 6 v c 9 = X c 9 := fun v => updM_sn (by decide)
  have n4 : ∀ v, updM X c 6 v c 8 = X c 8 := fun v => updM_sn (by decide)
  have n5 : ∀ v w, updM (updM X c 6 v) c 9 w c 5 = X c 5 := fun v w => by rw [updM_sn (by decide), updM_sn (by decide)]
  have n6 : ∀ v w, updM (updM X c 6 v) c 9 w c 4 = X c 4 := fun v w => by rw [updM_sn (by decide), updM_sn (by decide)]
  simp only [p_X0_advance, f_X0_around, updM_ss, updM_tw, n1, n2, n3, n4, n5, n6]
section LINES
variable {X Y : gM} {r : Nat → Int32} {tc oc : Nat} {sl ph mn : Nat → Nat} {l n t k u : Nat}
theorem cn_all {r r2 : Nat → Int32} {tc : Nat} (hs : ∀ u, u < tc → r2 (294 + 17 * u + 6) = r (294 + 17 * u + 6)) : cn (bSt r2 3) tc = cn (bSt r 3) tc := by
  refine cn_cong tc (fun u hu => ?_)
  unfold bSt
  rw [hs u hu]
theorem line_sim (h : SS X r tc oc sl ph mn) (hl : l < 2) : ∃ r2 ph2, p_X9_goLine (sR Y r) (nI l) = sR Y r2 ∧ SS (p_X3_moveLine X (1 + 15 * l)) r2 tc oc sl ph2 mn ∧ cn (bSt r2 3) tc = cn (bSt r 3) tc ∧ ok_X9_goLine (sR Y r) (nI l) := by
  have h40 := h.tc4
  obtain ⟨⟨a1, a2, a3⟩, ⟨b1, b2⟩, -⟩ := h.lin hl
  obtain ⟨hPS, hOn, hLg, hInv⟩ := h
  have g7 : X 0 7 = r 0 := hPS.g LK0
  have ear : ∀ b, b ≤ 2 → f_X0_around X (1 + 15 * l) (nI (ph l) + nI b) = nI ((ph l + b) % sl l) := by
    intro b hb
    unfold f_X0_around
    rw [hPS.g (LL0 hl), a1, if_neg (nI_nle (by omega) (by omega)), nI_add, i_mod (by omega) (by omega) (by omega)]
  have esr : ∀ b, b ≤ 2 → (nI (ph l) + nI b) - (nI (ph l) + nI b) / nI (sl l) * nI (sl l) = nI ((ph l + b) % sl l) := by
    intro b hb
    rw [nI_add, i_mod (by omega) (by omega) (by omega)]
  have x6 : X (1 + 15 * l) 6 = r (10 + 8 * l + 2) := hPS.g (LL2 hl)
  have x7 : X (1 + 15 * l) 7 = r (10 + 8 * l + 3) := hPS.g (LL3 hl)
  have x8 : X (1 + 15 * l) 8 = r (10 + 8 * l + 5) := hPS.g (LL5 hl)
  have x9 : X (1 + 15 * l) 9 = r (10 + 8 * l + 6) := hPS.g (LL6 hl)
  have x5 : X (1 + 15 * l) 5 = nI (ph l) := by rw [hPS.g (LL1 hl), b1]
  have hs0 : nI (sl l) ≠ 0 := nI_ne0 (by omega) (by omega)
  unfold p_X3_moveLine p_X9_goLine ok_X9_goLine
  rw [advance_c, x5, x6, x7, x8, x9, nL_lin hl]
  rw [show (nI (ph l) + 1 : Int32) = nI (ph l) + nI 1 from rfl, show (nI (ph l) + 2 : Int32) = nI (ph l) + nI 2 from rfl, ear 1 (by omega), ear 2 (by omega)]
  have q2 : sR Y r 1 ((10 + 8 * nI l + 2).toNatClampNeg) = r (10 + 8 * l + 2) := by rw [ri_line2 hl]; rfl
  have q3 : sR Y r 1 ((10 + 8 * nI l + 3).toNatClampNeg) = r (10 + 8 * l + 3) := by rw [ri_line3 hl]; rfl
  rw [q2, q3]
  by_cases c10 : r (10 + 8 * l + 2) + r (10 + 8 * l + 3) < 10
  · rw [if_pos c10, if_pos c10, if_pos c10]
    by_cases cm : (-10) < r (10 + 8 * l + 2) + r (10 + 8 * l + 3)
    · rw [if_pos cm, if_pos cm, if_pos cm]
      dsimp only
      rw [if_pos rfl]
      refine ⟨upd (upd r (10 + 8 * l + 2) (r (10 + 8 * l + 2) + r (10 + 8 * l + 3))) (10 + 8 * l + 1) (nI ((ph l + 1) % sl l)), _, ?_, ⟨?_, ?_, ?_, hInv.phase hl (Nat.mod_lt (ph l + 1) (by omega)) pk_us ?_⟩, ?_, ?_⟩
      · simp only [ri_line2 hl, ri_line1 hl, ri_line0 hl, sR_u1, sR_1]
        rw [pk_un (by omega), pk_un (by omega), b1, a1, show (nI (ph l) + 1 : Int32) = nI (ph l) + nI 1 from rfl, esr 1 (by omega)]
      · exact PS.set (LL1 hl) pk_us (PS.set (LL2 hl) (by rw [pk_un (by omega), pk_us]) (PS.rset (by simp) (PS.rset (by simp) hPS.w0)))
      · intro u hu h1
        rw [updM_n (by omega), updM_n (by omega), pk_un (by omega), pk_un (by omega), pk_un (by omega), pk_un (by omega)]
        rw [pk_un (by omega), pk_un (by omega)] at h1
        exact hOn u hu h1
      · exact hLg.same (fun j => by rw [updM_n (by omega), updM_n (by omega)]) (fun j => by rw [updM_n (by omega), updM_n (by omega)]) (fun i hi => by rw [pk_un (by omega), pk_un (by omega)])
      · intro i hi n1
        rw [pk_un n1, pk_un (nz hi (yL2 hl))]
      · exact cn_all (fun u hu => by rw [pk_un (by omega), pk_un (by omega)])
      · refine ⟨rv_line2 hl, rv_line3 hl, rv_line2 hl, fun X1 e1 => ⟨rv_line1 hl, rv_line0 hl, ?_, rv_line1 hl, trivial⟩⟩
        subst e1
        rw [ri_line2 hl, ri_line0 hl, sR_u1, sR_1, pk_un (by omega), a1]
        exact hs0
    · rw [if_neg cm, if_neg cm, if_neg cm]
      dsimp only
      rw [if_neg (show ¬ (7 : Int32) = (-5) by decide)]
      refine ⟨rLog (upd (upd (upd r (10 + 8 * l + 2) (r (10 + 8 * l + 2) + r (10 + 8 * l + 3) + 10)) (10 + 8 * l + 1) (nI ((ph l + 2) % sl l))) (10 + 8 * l + 6) (r (10 + 8 * l + 6) + 1)) 7 (-5) (nI l) (-5), _, ?_, ⟨?_, ?_, ?_, (hInv.phase hl (Nat.mod_lt (ph l + 2) (by omega)) ?_ ?_).log⟩, ?_, ?_⟩
      · simp only [ri_line2 hl, ri_line1 hl, ri_line0 hl, ri_line6 hl, sR_u1, sR_1, rp_logs]
        rw [pk_un (show 10 + 8 * l + 1 ≠ 10 + 8 * l + 2 by omega), pk_un (show 10 + 8 * l + 0 ≠ 10 + 8 * l + 2 by omega), b1, a1, show (nI (ph l) + 2 : Int32) = nI (ph l) + nI 2 from rfl, esr 2 (by omega)]
        rw [pk_un (show 10 + 8 * l + 6 ≠ 10 + 8 * l + 1 by omega), pk_un (show 10 + 8 * l + 6 ≠ 10 + 8 * l + 2 by omega)]
      · refine PS.wr (PS.log (PS.set (LL1 hl) (by rw [pk_un (by omega), pk_us]) (PS.set (LL6 hl) pk_us (PS.set (LL2 hl) (by rw [pk_un (by omega), pk_un (by omega), pk_us]) (PS.rset (by simp) (PS.rset (by simp) (PS.rset (by simp) hPS.w0)))))))
      · intro u hu h1
        simp (disch := omega) only [rLog_o, pk_un, updM_n, write_o] at h1 ⊢
        exact hOn u hu h1
      · refine Lg.wr (hLg.same (fun j => ?_) (fun j => ?_) (fun i hi => ?_)) ?_
        · simp (disch := omega) only [updM_n]
        · simp (disch := omega) only [updM_n]
        · simp (disch := omega) only [pk_un]
        · simp (disch := omega) only [pk_un, updM_n, g7]
      · rw [pk_un (by omega), pk_us]
      · intro i hi n1
        rw [pk_un (nz hi (yL6 hl)), pk_un n1, pk_un (nz hi (yL2 hl))]
      · exact cn_all (fun u hu => by rw [rLog_o (by omega), pk_un (by omega), pk_un (by omega), pk_un (by omega)])
      · refine ⟨rv_line2 hl, rv_line3 hl, rv_line2 hl, fun X3 e3 => ⟨rv_line1 hl, rv_line0 hl, ?_, rv_line1 hl, fun X4 _ => ⟨rv_line6 hl, rv_line6 hl, fun X5 _ => ⟨ro_logs, trivial⟩⟩⟩⟩
        subst e3
        rw [ri_line2 hl, ri_line0 hl, sR_u1, sR_1, pk_un (by omega), a1]
        exact hs0
  · rw [if_neg c10, if_neg c10, if_neg c10]
    dsimp only
    rw [if_neg (show ¬ (6 : Int32) = (-5) by decide)]
    have e0 : (ph l + 0) % sl l = ph l := Nat.mod_eq_of_lt b2
    refine ⟨rLog (upd (upd (upd r (10 + 8 * l + 2) (r (10 + 8 * l + 2) + r (10 + 8 * l + 3) - 10)) (10 + 8 * l + 1) (nI (ph l))) (10 + 8 * l + 5) (r (10 + 8 * l + 5) + 1)) 6 (-5) (nI l) (-5), ph, ?_, ⟨?_, ?_, ?_, (hInv.same ?_).log⟩, ?_, ?_⟩
    · simp only [ri_line2 hl, ri_line1 hl, ri_line0 hl, ri_line5 hl, sR_u1, sR_1, rp_logs]
      rw [pk_un (show 10 + 8 * l + 1 ≠ 10 + 8 * l + 2 by omega), pk_un (show 10 + 8 * l + 0 ≠ 10 + 8 * l + 2 by omega), b1, a1, show (nI (ph l) + 0 : Int32) = nI (ph l) + nI 0 from rfl, esr 0 (by omega), e0]
      rw [pk_un (show 10 + 8 * l + 5 ≠ 10 + 8 * l + 1 by omega), pk_un (show 10 + 8 * l + 5 ≠ 10 + 8 * l + 2 by omega)]
    · refine PS.wr (PS.log (PS.set (LL5 hl) pk_us (PS.set (LL2 hl) (by rw [pk_un (by omega), pk_un (by omega), pk_us]) (PS.rset (by simp) (PS.rold (by rw [pk_un (by omega), b1]) (PS.rset (by simp) hPS.w0))))))
    · intro u hu h1
      simp (disch := omega) only [rLog_o, pk_un, updM_n, write_o] at h1 ⊢
      exact hOn u hu h1
    · refine Lg.wr (hLg.same (fun j => ?_) (fun j => ?_) (fun i hi => ?_)) ?_
      · simp (disch := omega) only [updM_n]
      · simp (disch := omega) only [updM_n]
      · simp (disch := omega) only [pk_un]
      · simp (disch := omega) only [pk_un, updM_n, g7]
    · intro i hi
      rw [pk_un (nz hi (yL5 hl))]
      by_cases hi1 : i = 10 + 8 * l + 1
      · subst hi1
        rw [pk_us, b1]
      · rw [pk_un hi1, pk_un (nz hi (yL2 hl))]
    · exact cn_all (fun u hu => by rw [rLog_o (by omega), pk_un (by omega), pk_un (by omega), pk_un (by omega)])
    · refine ⟨rv_line2 hl, rv_line3 hl, rv_line2 hl, fun X3 e3 => ⟨rv_line1 hl, rv_line0 hl, ?_, rv_line1 hl, fun X4 _ => ⟨rv_line5 hl, rv_line5 hl, fun X5 _ => ⟨ro_logs, trivial⟩⟩⟩⟩
      subst e3
      rw [ri_line2 hl, ri_line0 hl, sR_u1, sR_1, pk_un (by omega), a1]
      exact hs0
theorem serve_loop {K : gM → Nat → gM} {KO : gM → Nat → Prop} (hl : l < 2) : ∀ d k f1 f2 (X Y : gM) (r : Nat → Int32), k + d = mn l → d < f1 → d < f2 → SS X r tc oc sl ph mn → ∃ r2 v, lf_X9_goTick_13 l K f2 (sR Y r) k = K (sR (updM Y 0 8 v) r2) (mn l) ∧ SS (lf_X3_serveLine_2 (1 + 15 * l) (fun X1 _ => X1) f1 X k) r2 tc oc sl ph mn ∧ AR Y r tc v r2 tc ∧ (KO (sR (updM Y 0 8 v) r2) (mn l) → lok_X9_goTick_13 l KO f2 (sR Y r) k) := by
  intro d
  induction d with
  | zero =>
    intro k f1 f2 X Y r hk hf1 hf2 h
    obtain ⟨g1, rfl⟩ : ∃ g, f1 = g + 1 := ⟨f1 - 1, by omega⟩
    obtain ⟨g2, rfl⟩ : ∃ g, f2 = g + 1 := ⟨f2 - 1, by omega⟩
    have e : k = mn l := by omega
    have h6 := h.mn6 hl
    have hm : r (10 + 8 * l + 4) = nI (mn l) := (h.lin hl).2.2.1
    have hx : X (1 + 15 * l) 3 = nI (mn l) := by rw [h.1.g (LL4 hl), hm]
    have hr : f_X9_ofLine (sR Y r) (nI l) 4 = nI (mn l) := by rw [rf_line4 hl, sR_1, hm]
    have hle : nI (mn l) ≤ nI k := nI_le (by omega) (by omega)
    simp only [lf_X9_goTick_13, lf_X3_serveLine_2, lok_X9_goTick_13, hx, hr, if_pos hle]
    refine ⟨r, Y 0 8, by rw [updM_id, e], h, AR.same rfl, ?_⟩
    rw [updM_id, ← e]
    exact fun q => ⟨ro_line4 hl, q⟩
  | succ d ih =>
    intro k f1 f2 X Y r hk hf1 hf2 h
    obtain ⟨g1, rfl⟩ : ∃ g, f1 = g + 1 := ⟨f1 - 1, by omega⟩
    obtain ⟨g2, rfl⟩ : ∃ g, f2 = g + 1 := ⟨f2 - 1, by omega⟩
    have h6 := h.mn6 hl
    have hm : r (10 + 8 * l + 4) = nI (mn l) := (h.lin hl).2.2.1
    have hx : X (1 + 15 * l) 3 = nI (mn l) := by rw [h.1.g (LL4 hl), hm]
    have hr : f_X9_ofLine (sR Y r) (nI l) 4 = nI (mn l) := by rw [rf_line4 hl, sR_1, hm]
    have hle : ¬ nI (mn l) ≤ nI k := nI_ge (by omega) (by omega)
    have hle6 : ¬ (6 : Int32) ≤ nI k := nI_ge (b := 6) (by omega) (by decide)
    obtain ⟨r2, v, s1, s2, s3, s4⟩ := station_sim (Y := Y) h hl (show k < mn l by omega)
    obtain ⟨r3, w, t1, t2, t3, t4⟩ := ih (k + 1) g1 g2 _ (updM Y 0 8 v) r2 (by omega) (by omega) (by omega) s2
    rw [updM_tw] at t1 t4
    simp only [lf_X9_goTick_13, lf_X3_serveLine_2, lok_X9_goTick_13, hx, hr, if_neg hle, if_neg hle6, s1]
    refine ⟨r3, w, t1, t2, s3.tr t3, fun q => ⟨ro_line4 hl, s4, fun X1 e1 => ?_⟩⟩
    subst e1
    exact t4 q
end LINES
