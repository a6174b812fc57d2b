/-! a word's slot comes to a station; the station is served: both sides -/
section COMES
variable {X Y : gM} {r : Nat → Int32} {tc oc : Nat} {sl ph mn : Nat → Nat} {l n t k u : Nat}
theorem st_ne (hl : l < 2) (hn : n < 6) {x : Int32} (hx : isC mn x) (hm : ∀ l, l < 2 → mn l ≤ 6) : ∃ l' n', l' < 2 ∧ n' < 6 ∧ x = nI (10 * l' + n') := by
  obtain ⟨l', n', a, b, c⟩ := hx
  exact ⟨l', n', a, Nat.lt_of_lt_of_le b (hm l' a), c⟩
theorem R_hall (hl : l < 2) (hn : n < 6) (hk : k < 24) (ht : t < 40) (h6 : r (294 + 17 * t + 6) = 1) (h7 : r (294 + 17 * t + 7) = nI l) (h8 : r (294 + 17 * t + 8) = nI k) {m : Nat} :
    sR Y (rLog (upd (upd (upd (rRise r t l k) (294 + 17 * t + 6) 2) (294 + 17 * t + 7) (nI m)) (294 + 17 * t + 15) (upd (upd (rRise r t l k) (294 + 17 * t + 6) 2) (294 + 17 * t + 7) (nI m) 0)) 3 (nI t) (nI l) (nI (10 * l + n))) = sR Y (rHall r t l n k m) := by
  unfold rHall rRise
  rw [pk_un (show 0 ≠ 294 + 17 * t + 7 by omega), pk_un (show 0 ≠ 294 + 17 * t + 6 by omega), pk_un (show 0 ≠ 294 + 17 * t + 8 by omega), pk_un (show 0 ≠ 294 + 17 * t + 7 by omega), pk_un (show 0 ≠ 26 + 24 * l + k by omega)]
/-- the last else of the reference: laps -/
def zLaps (X : gM) (a1 a2 : Int32) : gM :=
  if f_X9_of X a1 16 = a2 - a2 / 10 * 10 then
    if f_X9_of (p_X9_put X a1 4 ((f_X9_of X a1 4) - 1)) a1 4 = 0 then
      p_X9_logs (p_X9_ends (p_X9_put X a1 4 ((f_X9_of X a1 4) - 1)) a1 6 a2 (f_X9_of (p_X9_put X a1 4 ((f_X9_of X a1 4) - 1)) a1 5)) 4 a1 (a2 / 10) a2
    else p_X9_put X a1 4 ((f_X9_of X a1 4) - 1)
  else X
def okLaps (X : gM) (a1 a2 : Int32) : Prop :=
  (ok_X9_of X a1 16) ∧
  (if f_X9_of X a1 16 = a2 - a2 / 10 * 10 then
    (ok_X9_of X a1 4) ∧
    (ok_X9_put X a1 4 ((f_X9_of X a1 4) - 1)) ∧
    ∀ X1 : gM, X1 = p_X9_put X a1 4 ((f_X9_of X a1 4) - 1) →
    (ok_X9_of X1 a1 4) ∧
    (if f_X9_of X1 a1 4 = 0 then
      (ok_X9_of X1 a1 5) ∧
      (ok_X9_ends X1 a1 6 a2 (f_X9_of X1 a1 5)) ∧
      ∀ X2 : gM, X2 = p_X9_ends X1 a1 6 a2 (f_X9_of X1 a1 5) →
      (ok_X9_logs X2 4 a1 (a2 / 10) a2) ∧
      True
    else
      True)
  else
    True)
/-- the class's last choice -/
def xLaps (X1 : gM) (c1 c2 : Nat) : Int32 × gM :=
  if X1 c1 13 = nI (10 * nLin c2 + nSta c2) then
    if updM X1 c1 2 ((X1 c1 2) - 1) c1 2 ≤ 0 then
      (1, p_X3_putOut (updM X1 c1 2 ((X1 c1 2) - 1)) c1 c2 6 4)
    else
      (0, updM X1 c1 2 ((X1 c1 2) - 1))
  else
    (0, X1)
/-- what comes of a word at a station, both sides -/
def CT (X Y : gM) (r : Nat → Int32) (tc oc : Nat) (sl ph mn : Nat → Nat) (l t k : Nat) (R : Int32 × gM) (Z : gM) : Prop :=
  ∃ r2 v, Z = sR (updM Y 0 8 v) r2 ∧ AR Y r tc v r2 tc ∧ ((R.1 = 0 ∧ SS R.2 r2 tc oc sl ph mn ∧ r2 (26 + 24 * l + k) = nI t) ∨ (R.1 = 1 ∧ SS (p_X0_setRider R.2 (1 + 15 * l) (nI k) (-5)) r2 tc oc sl ph mn ∧ r2 (26 + 24 * l + k) = (-5)))
theorem laps_sim (h : SS X r tc oc sl ph mn) (hl : l < 2) (hn : n < mn l) (ht : t < tc) (hk : k < 24) (hse : r (26 + 24 * l + k) = nI t) : CT X Y r tc oc sl ph mn l t k (xLaps X (35 + 2 * t) (1 + 15 * l + 2 + 1 + 2 * n)) (zLaps (sR Y r) (nI t) (nI (10 * l + n))) ∧ okLaps (sR Y r) (nI t) (nI (10 * l + n)) := by
  have h40 := h.tc4
  have ht4 : t < 40 := by omega
  have hn6 : n < 6 := Nat.lt_of_lt_of_le hn (h.mn6 hl)
  obtain ⟨f6, f7, f8⟩ := seat_f h hl hk ht hse
  have h' := h
  obtain ⟨hPS, hOn, hLg, hInv⟩ := h'
  have on := hOn t ht f6
  rw [f7] at on
  have e10 : (10 : Int32) * nI l + nI n = nI (10 * l + n) := by
    show nI 10 * nI l + nI n = _
    rw [nI_mul, nI_add]
  obtain ⟨_, _, _, _, s, s8, es, hq, _, _⟩ := h.tik ht
  have hs1 : s = 1 := nI_inj (by omega) (by omega) (es.symm.trans f6)
  obtain ⟨q, q1, q9, e4⟩ := hq (by omega)
  have em : nI q - 1 = nI (q - 1) := by
    have := nI_pred (q - 1)
    rwa [show q - 1 + 1 = q by omega] at this
  have g2 : X (35 + 2 * t) 2 = nI q := by rw [hPS.g (LT4 ht4), e4]
  unfold xLaps zLaps okLaps
  rw [nS_lin hl hn6, nS_sta hl hn6, on]
  rw [st_div hl (by omega), st_mod hl (by omega)]
  simp only [rf_of16 ht4, rf_of4 ht4, rf_of5 ht4, ro_of16 ht4, ro_of4 ht4, ro_of5 ht4, rp_put4 ht4, ro_put4 ht4, sR_1, sR_u1, e4, em, g2, pk_us, updM_ss, true_and, and_true, ro_logs]
  by_cases hon : r (294 + 17 * t + 16) = nI n
  · have c : (10 : Int32) * nI l + r (294 + 17 * t + 16) = nI (10 * l + n) := by rw [hon, e10]
    rw [if_pos c, if_pos hon, if_pos hon]
    by_cases hz : q - 1 = 0
    · rw [hz]
      rw [if_pos (show nI 0 ≤ 0 by decide +kernel), if_pos (show nI 0 = 0 from rfl)]
      have w6 : upd r (294 + 17 * t + 4) (nI 0) (294 + 17 * t + 6) = 1 := by rw [pk_un (by omega), f6]
      have w7 : upd r (294 + 17 * t + 4) (nI 0) (294 + 17 * t + 7) = nI l := by rw [pk_un (by omega), f7]
      have w8 : upd r (294 + 17 * t + 4) (nI 0) (294 + 17 * t + 8) = nI k := by rw [pk_un (by omega), f8]
      obtain ⟨b1, b2⟩ := rp_ends (Y := Y) (z := 6) (st := nI (10 * l + n)) (m := upd r (294 + 17 * t + 4) (nI 0) (294 + 17 * t + 5)) ht4 hl hk w6 w7 w8
      have hS := ev_out (X := updM X (35 + 2 * t) 2 (nI 0)) (r := upd r (294 + 17 * t + 4) (nI 0)) (r0 := r) (z := 6) (PS.set (LT4 ht4) pk_us (PS.rset (by simp) hPS.w0)) (fun u hu h1 => by
          rw [updM_sn' , pk_un (by omega), pk_un (by omega)]
          rw [pk_un (by omega)] at h1
          exact hOn u hu h1) (hLg.same (fun j => updM_n (by omega)) (fun j => updM_n (by omega)) (fun i hi => pk_un (by omega))) hInv (fun i hi => pk_un hi) hl hn ht hk (by rw [pk_un (by omega), hse]) (by decide) (by decide) 4
      constructor
      · refine ⟨_, Y 0 8, ?_, AR.same (cn_st1 (t := t) (fun u hu hut => ?_) ?_ ?_), Or.inr ⟨rfl, hS, ?_⟩⟩
        · rw [b1, rp_logs, updM_id]
          rfl
        · rw [rLog_o (by omega), rOut_6 hl hk, if_neg hut, pk_un (by omega)]
        · rw [f6]
          decide
        · rw [rLog_o (by omega), rOut_6 hl hk, if_pos rfl]
          decide
        · rw [rLog_o (by omega), rOut_s hl hk]
      · intro X1 e1
        subst e1
        simp only [rf_of4 ht4, rf_of5 ht4, ro_of4 ht4, ro_of5 ht4, sR_1, pk_us, hz, true_and]
        rw [if_pos (show nI 0 = 0 from rfl)]
        refine ⟨b2, fun X2 _ => trivial⟩
    · have hq0 : nI (q - 1) ≠ 0 := nI_ne0 (by omega) (by omega)
      rw [if_neg (nI_nle (by omega) (by omega)), if_neg hq0]
      constructor
      · refine ⟨upd r (294 + 17 * t + 4) (nI (q - 1)), Y 0 8, by rw [updM_id], AR.same (cn_st1 (t := t) (fun u hu hut => pk_un (by omega)) ?_ ?_), Or.inl ⟨rfl, ⟨?_, ?_, ?_, ?_⟩, by rw [pk_un (by omega), hse]⟩⟩
        · rw [f6]
          decide
        · rw [pk_un (by omega), f6]
          decide
        · exact PS.set (LT4 ht4) pk_us (PS.rset (by simp) hPS.w0)
        · intro u hu h1
          dsimp only
          rw [updM_sn', pk_un (by omega), pk_un (by omega)]
          rw [pk_un (by omega)] at h1
          exact hOn u hu h1
        · exact hLg.same (fun j => updM_n (by omega)) (fun j => updM_n (by omega)) (fun i hi => pk_un (by omega))
        · exact hInv.laps ht pk_us (by omega) (by omega) (fun i hi => pk_un hi)
      · intro X1 e1
        subst e1
        simp only [rf_of4 ht4, ro_of4 ht4, sR_1, pk_us, true_and, if_neg hq0]
  · have c : ¬ (10 : Int32) * nI l + r (294 + 17 * t + 16) = nI (10 * l + n) := by
      rw [← e10]
      exact fun z => hon (Int32.add_right_inj _ |>.mp z)
    rw [if_neg c, if_neg hon, if_neg hon]
    exact ⟨⟨r, Y 0 8, by rw [updM_id], AR.same rfl, Or.inl ⟨rfl, h, hse⟩⟩, trivial⟩
end COMES
