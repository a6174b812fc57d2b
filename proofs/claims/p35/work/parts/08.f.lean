/-! the events of a tick, both sides -/
theorem setR_c {X : gM} {c k : Nat} {v : Int32} (hk : k < 24) : p_X0_setRider X c (nI k) v = updM X (c + 1) k v := by
  have h : f_X8_within (nI k) 0 23 = 1 := (show ∀ k, k < 24 → f_X8_within (nI k) 0 23 = 1 by decide +kernel) k hk
  unfold p_X0_setRider
  rw [h, if_neg (by decide), c1 (by omega)]
theorem updM_id {X : gM} {c j : Nat} : updM X c j (X c j) = X := by
  funext a b
  by_cases h : a = c
  · subst h
    by_cases h2 : b = j
    · subst h2
      exact updM_ss
    · exact updM_sn h2
  · exact updM_n h
section EVC
variable {X : gM} {l n t u k : Nat} {z kd : Int32}
theorem arrive_c (hl : l < 2) (hn : n < 6) : p_X3_arrive X (35 + 2 * t) (1 + 15 * l + 2 + 1 + 2 * n) =
    updM (updM (updM (updM (updM (updM (updM (updM (p_X1_write X 33 1 (nI t) (nI l) (nI (10 * l + n)) (X 0 7)) (1 + 15 * l + 2 + 1 + 2 * n) 7 (X (1 + 15 * l + 2 + 1 + 2 * n) 7 + 1)) 0 13 (X 0 13 ^^^ X (35 + 2 * t + 1) 0)) 0 11 (X 0 11 + X (35 + 2 * t) 3)) (35 + 2 * t) 4 3) (35 + 2 * t) 5 (-5)) (35 + 2 * t) 6 (-5)) (35 + 2 * t) 9 (X 0 7)) (35 + 2 * t) 10 (nI (10 * l + n)) := by
  have hc : 1 + 15 * l + 2 + 1 + 2 * n < 33 := by omega
  simp only [p_X3_arrive, p_X5_finish, nS_lin hl hn, nS_sta hl hn, nT_tic]
  simp (disch := omega) only [updM_ss, updM_sn, updM_n, write_o]
theorem putOut_c (hl : l < 2) (hn : n < 6) : p_X3_putOut X (35 + 2 * t) (1 + 15 * l + 2 + 1 + 2 * n) z kd =
    updM (updM (updM (updM (updM (updM (p_X1_write X 33 kd (nI t) (nI l) (nI (10 * l + n)) (X 0 7)) 0 12 (X 0 12 + X (35 + 2 * t) 3)) (35 + 2 * t) 4 z) (35 + 2 * t) 5 (-5)) (35 + 2 * t) 6 (-5)) (35 + 2 * t) 9 (X 0 7)) (35 + 2 * t) 10 (nI (10 * l + n)) := by
  simp only [p_X3_putOut, p_X5_finish, nS_lin hl hn, nS_sta hl hn, nT_tic]
  simp (disch := omega) only [updM_ss, updM_sn, updM_n, write_o]
theorem board_c (hl : l < 2) (hn : n < 6) (hk : k < 24) : p_X3_board X (35 + 2 * t) (1 + 15 * l) (1 + 15 * l + 2 + 1 + 2 * n) (nI k) =
    updM (if X (35 + 2 * t) 8 = (-5) then updM (updM (updM (updM (updM (updM (p_X1_write X 33 0 (nI t) (nI l) (nI (10 * l + n)) (X 0 7)) (1 + 15 * l + 2 + 1 + 2 * n) 6 (X (1 + 15 * l + 2 + 1 + 2 * n) 6 + 1)) (35 + 2 * t) 4 1) (35 + 2 * t) 5 (nI l)) (35 + 2 * t) 6 (nI k)) (35 + 2 * t) 13 (nI (10 * l + n))) (35 + 2 * t) 8 (X 0 7)
      else updM (updM (updM (updM (updM (p_X1_write X 33 0 (nI t) (nI l) (nI (10 * l + n)) (X 0 7)) (1 + 15 * l + 2 + 1 + 2 * n) 6 (X (1 + 15 * l + 2 + 1 + 2 * n) 6 + 1)) (35 + 2 * t) 4 1) (35 + 2 * t) 5 (nI l)) (35 + 2 * t) 6 (nI k)) (35 + 2 * t) 13 (nI (10 * l + n))) (1 + 15 * l + 1) k (nI t) := by
  have hc : 1 + 15 * l + 2 + 1 + 2 * n < 33 := by omega
  simp only [p_X3_board, p_X5_ride, nS_lin hl hn, nS_sta hl hn, nL_lin hl, nT_tic, setR_c hk]
  simp (disch := omega) only [updM_ss, updM_sn, updM_n, write_o]
theorem hall_c (a : Int32) : p_X5_enterHall (p_X1_write X 33 3 (nI t) (nI l) (nI (10 * l + n)) (X 0 7)) (35 + 2 * t) a (X 0 7) =
    updM (updM (updM (updM (p_X1_write X 33 3 (nI t) (nI l) (nI (10 * l + n)) (X 0 7)) (35 + 2 * t) 4 2) (35 + 2 * t) 5 a) (35 + 2 * t) 6 (-5)) (35 + 2 * t) 12 (X 0 7) := rfl
end EVC
theorem upd_old {f : Nat → Int32} {i : Nat} {x : Int32} (h : f i = x) : upd f i x = f := by
  funext j
  by_cases hj : j = i
  · subst hj
    rw [pk_us, h]
  · rw [pk_un hj]
theorem PS.rold {E : List Nat} {X : gM} {r : Nat → Int32} {i : Nat} {v : Int32} (hv : r i = v) (h : PS E X r) : PS E X (upd r i v) := by
  rw [upd_old hv]
  exact h
section EVS
variable {X Y : gM} {r : Nat → Int32} {tc oc : Nat} {sl ph mn : Nat → Nat} {l n t k : Nat}
/-- who sits there rides -/
theorem seat_f (h : SS X r tc oc sl ph mn) (hl : l < 2) (hk : k < 24) (ht : t < tc) (hse : r (26 + 24 * l + k) = nI t) : r (294 + 17 * t + 6) = 1 ∧ r (294 + 17 * t + 7) = nI l ∧ r (294 + 17 * t + 8) = nI k := by
  have h40 := h.tc4
  obtain ⟨u, a1, a2, a3, a4, a5⟩ := (h.sea hl hk).resolve_left (by rw [hse]; exact nI_n5 (by omega))
  have : u = t := nI_inj (by omega) (by omega) (a2.symm.trans hse)
  subst this
  exact ⟨a3, a4, a5⟩
def rArr (r : Nat → Int32) (t l n k : Nat) : Nat → Int32 := rLog (upd (upd (rEndC (rRise r t l k) t 3 (nI (10 * l + n)) 0 r) 8 (r 8 ^^^ r (294 + 17 * t + 0))) (74 + 10 * (6 * l + n) + 2) (r (74 + 10 * (6 * l + n) + 2) + 1)) 1 (nI t) (nI l) (nI (10 * l + n))
def rOut (q : Nat → Int32) (r : Nat → Int32) (t l n k : Nat) (z : Int32) : Nat → Int32 := rEndC (rRise q t l k) t z (nI (10 * l + n)) (r (294 + 17 * t + 5)) q
theorem ev_arrive (h : SS X r tc oc sl ph mn) (hl : l < 2) (hn : n < mn l) (ht : t < tc) (hk : k < 24) (hse : r (26 + 24 * l + k) = nI t) : SS (p_X0_setRider (p_X3_arrive X (35 + 2 * t) (1 + 15 * l + 2 + 1 + 2 * n)) (1 + 15 * l) (nI k) (-5)) (rArr r t l n k) tc oc sl ph mn := by
  have h40 := h.tc4
  have ht4 : t < 40 := by omega
  have hn6 : n < 6 := Nat.lt_of_lt_of_le hn (h.mn6 hl)
  obtain ⟨f6, f7, f8⟩ := seat_f h hl hk ht hse
  obtain ⟨hPS, hOn, hLg, hInv⟩ := h
  rw [setR_c hk, arrive_c hl hn6]
  have g7 := hPS.g LK0
  refine ⟨?_, ?_, ?_, ?_⟩
  · unfold rArr
    refine PS.set (LE hl hk) (by simp (disch := omega) only [rLog_o, rEndC, rRise, rRise0, pk_us, pk_un, Int32.add_zero, Int32.sub_zero, Int32.sub_self, hPS.g LK0, hPS.g LK3, hPS.g LK4, hPS.g LK5, hPS.g LK8, hPS.g (LT0 ht4), hPS.g (LT4 ht4), hPS.g (LT5 ht4), hPS.g (LS1 hl hn6), hPS.g (LS2 hl hn6), hPS.g (LS3 hl hn6), hPS.g (LS4 hl hn6)]) ?_
    refine PS.set (LT12 ht4) (by simp (disch := omega) only [rLog_o, rEndC, rRise, rRise0, pk_us, pk_un, Int32.add_zero, Int32.sub_zero, Int32.sub_self, hPS.g LK0, hPS.g LK3, hPS.g LK4, hPS.g LK5, hPS.g LK8, hPS.g (LT0 ht4), hPS.g (LT4 ht4), hPS.g (LT5 ht4), hPS.g (LS1 hl hn6), hPS.g (LS2 hl hn6), hPS.g (LS3 hl hn6), hPS.g (LS4 hl hn6)]) ?_
    refine PS.set (LT11 ht4) (by simp (disch := omega) only [rLog_o, rEndC, rRise, rRise0, pk_us, pk_un, Int32.add_zero, Int32.sub_zero, Int32.sub_self, hPS.g LK0, hPS.g LK3, hPS.g LK4, hPS.g LK5, hPS.g LK8, hPS.g (LT0 ht4), hPS.g (LT4 ht4), hPS.g (LT5 ht4), hPS.g (LS1 hl hn6), hPS.g (LS2 hl hn6), hPS.g (LS3 hl hn6), hPS.g (LS4 hl hn6)]) ?_
    refine PS.set (LT8 ht4) (by simp (disch := omega) only [rLog_o, rEndC, rRise, rRise0, pk_us, pk_un, Int32.add_zero, Int32.sub_zero, Int32.sub_self, hPS.g LK0, hPS.g LK3, hPS.g LK4, hPS.g LK5, hPS.g LK8, hPS.g (LT0 ht4), hPS.g (LT4 ht4), hPS.g (LT5 ht4), hPS.g (LS1 hl hn6), hPS.g (LS2 hl hn6), hPS.g (LS3 hl hn6), hPS.g (LS4 hl hn6)]) ?_
    refine PS.set (LT7 ht4) (by simp (disch := omega) only [rLog_o, rEndC, rRise, rRise0, pk_us, pk_un, Int32.add_zero, Int32.sub_zero, Int32.sub_self, hPS.g LK0, hPS.g LK3, hPS.g LK4, hPS.g LK5, hPS.g LK8, hPS.g (LT0 ht4), hPS.g (LT4 ht4), hPS.g (LT5 ht4), hPS.g (LS1 hl hn6), hPS.g (LS2 hl hn6), hPS.g (LS3 hl hn6), hPS.g (LS4 hl hn6)]) ?_
    refine PS.set (LT6 ht4) (by simp (disch := omega) only [rLog_o, rEndC, rRise, rRise0, pk_us, pk_un, Int32.add_zero, Int32.sub_zero, Int32.sub_self, hPS.g LK0, hPS.g LK3, hPS.g LK4, hPS.g LK5, hPS.g LK8, hPS.g (LT0 ht4), hPS.g (LT4 ht4), hPS.g (LT5 ht4), hPS.g (LS1 hl hn6), hPS.g (LS2 hl hn6), hPS.g (LS3 hl hn6), hPS.g (LS4 hl hn6)]) ?_
    refine PS.set LK4 (by simp (disch := omega) only [rLog_o, rEndC, rRise, rRise0, pk_us, pk_un, Int32.add_zero, Int32.sub_zero, Int32.sub_self, hPS.g LK0, hPS.g LK3, hPS.g LK4, hPS.g LK5, hPS.g LK8, hPS.g (LT0 ht4), hPS.g (LT4 ht4), hPS.g (LT5 ht4), hPS.g (LS1 hl hn6), hPS.g (LS2 hl hn6), hPS.g (LS3 hl hn6), hPS.g (LS4 hl hn6)]) ?_
    refine PS.set LK8 (by simp (disch := omega) only [rLog_o, rEndC, rRise, rRise0, pk_us, pk_un, Int32.add_zero, Int32.sub_zero, Int32.sub_self, hPS.g LK0, hPS.g LK3, hPS.g LK4, hPS.g LK5, hPS.g LK8, hPS.g (LT0 ht4), hPS.g (LT4 ht4), hPS.g (LT5 ht4), hPS.g (LS1 hl hn6), hPS.g (LS2 hl hn6), hPS.g (LS3 hl hn6), hPS.g (LS4 hl hn6)]) ?_
    refine PS.set (LS2 hl hn6) (by simp (disch := omega) only [rLog_o, rEndC, rRise, rRise0, pk_us, pk_un, Int32.add_zero, Int32.sub_zero, Int32.sub_self, hPS.g LK0, hPS.g LK3, hPS.g LK4, hPS.g LK5, hPS.g LK8, hPS.g (LT0 ht4), hPS.g (LT4 ht4), hPS.g (LT5 ht4), hPS.g (LS1 hl hn6), hPS.g (LS2 hl hn6), hPS.g (LS3 hl hn6), hPS.g (LS4 hl hn6)]) ?_
    refine PS.wr ?_
    refine PS.log ?_
    refine PS.rset (by simp) ?_
    refine PS.rset (by simp) ?_
    unfold rEndC rRise
    refine PS.rset (by simp) ?_
    refine PS.rold (by simp (disch := omega) only [rLog_o, rEndC, rRise, rRise0, pk_us, pk_un, Int32.add_zero]) ?_
    refine PS.rset (by simp) ?_
    refine PS.rset (by simp) ?_
    refine PS.rset (by simp) ?_
    refine PS.rset (by simp) ?_
    refine PS.rset (by simp) ?_
    refine PS.rset (by simp) ?_
    exact hPS.w0
  · intro u hu h1
    have hut : u ≠ t := by
      rintro rfl
      simp (disch := omega) only [rArr, rLog_o, rEndC, rRise, rRise0, pk_us, pk_un] at h1
      exact absurd h1 (by decide)
    simp (disch := omega) only [rArr, rLog_o, rEndC, rRise, rRise0, pk_us, pk_un, updM_ss, updM_sn, updM_n, write_o] at h1 ⊢
    exact hOn u hu h1
  · unfold rArr
    refine (Lg.wr (e := X 0 7) (r := upd (upd (rEndC (rRise r t l k) t 3 (nI (10 * l + n)) 0 r) 8 (r 8 ^^^ r (294 + 17 * t + 0))) (74 + 10 * (6 * l + n) + 2) (r (74 + 10 * (6 * l + n) + 2) + 1)) (X := X) (hLg.same (fun _ => rfl) (fun _ => rfl) (fun i hi => ?_)) ?_).same (fun j => ?_) (fun j => ?_) (fun _ _ => rfl)
    · simp (disch := omega) only [rEndC, rRise, pk_un]
    · simp (disch := omega) only [rEndC, rRise, pk_un, g7]
    · simp (disch := omega) only [updM_n]
    · simp (disch := omega) only [updM_n]
  · unfold rArr
    refine Inv.log (Inv.leave hInv ht hl hk hse (z := 3) ?_ ?_ (by decide) (by decide) (fun z => absurd z (by decide)) (by decide) (Or.inr (by decide)) ?_)
    · simp (disch := omega) only [rEndC, rRise, pk_us, pk_un]
    · simp (disch := omega) only [rEndC, rRise, pk_us, pk_un]
      rfl
    · intro i hi n1 n2 n3 n4 _
      simp only [rEndC, rRise, pk_un n1, pk_un n2, pk_un n3, pk_un n4, pk_un (nz hi (yT11 ht4)), pk_un (nz hi (yT12 ht4)), pk_un (nz hi yK4), pk_un (nz hi yK5), pk_un (nz hi yK8), pk_un (nz hi (yS2 hl hn6))]
/-- put out at a station for the state z: the row q below has the same word -/
theorem ev_out {r0 : Nat → Int32} (hPS : PS [] X r) (hOn : On X r tc) (hLg : Lg X r) (hInv : Inv r0 tc oc sl ph mn) (hr0 : ∀ i, i ≠ 294 + 17 * t + 4 → r i = r0 i) (hl : l < 2) (hn : n < mn l) (ht : t < tc) (hk : k < 24) (hse : r (26 + 24 * l + k) = nI t) {z : Nat} (hz : z ≤ 8) (hz3 : 3 < z) (kd : Int32) : SS (p_X0_setRider (p_X3_putOut X (35 + 2 * t) (1 + 15 * l + 2 + 1 + 2 * n) (nI z) kd) (1 + 15 * l) (nI k) (-5)) (rLog (rOut r r t l n k (nI z)) kd (nI t) (nI l) (nI (10 * l + n))) tc oc sl ph mn := by
  have h40 : tc ≤ 40 := hInv.1.2
  have ht4 : t < 40 := by omega
  have hn6 : n < 6 := Nat.lt_of_lt_of_le hn (hInv.2.2.1 l hl).2.2.2
  have hse0 : r0 (26 + 24 * l + k) = nI t := by rw [← hr0 _ (by omega), hse]
  rw [setR_c hk, putOut_c hl hn6]
  have g7 := hPS.g LK0
  refine ⟨?_, ?_, ?_, ?_⟩
  · unfold rOut
    refine PS.set (LE hl hk) (by simp (disch := omega) only [rLog_o, rEndC, rRise, rRise0, pk_us, pk_un, Int32.add_zero, Int32.sub_zero, Int32.sub_self, hPS.g LK0, hPS.g LK3, hPS.g LK4, hPS.g LK5, hPS.g LK8, hPS.g (LT0 ht4), hPS.g (LT4 ht4), hPS.g (LT5 ht4), hPS.g (LS1 hl hn6), hPS.g (LS2 hl hn6), hPS.g (LS3 hl hn6), hPS.g (LS4 hl hn6)]) ?_
    refine PS.set (LT12 ht4) (by simp (disch := omega) only [rLog_o, rEndC, rRise, rRise0, pk_us, pk_un, Int32.add_zero, Int32.sub_zero, Int32.sub_self, hPS.g LK0, hPS.g LK3, hPS.g LK4, hPS.g LK5, hPS.g LK8, hPS.g (LT0 ht4), hPS.g (LT4 ht4), hPS.g (LT5 ht4), hPS.g (LS1 hl hn6), hPS.g (LS2 hl hn6), hPS.g (LS3 hl hn6), hPS.g (LS4 hl hn6)]) ?_
    refine PS.set (LT11 ht4) (by simp (disch := omega) only [rLog_o, rEndC, rRise, rRise0, pk_us, pk_un, Int32.add_zero, Int32.sub_zero, Int32.sub_self, hPS.g LK0, hPS.g LK3, hPS.g LK4, hPS.g LK5, hPS.g LK8, hPS.g (LT0 ht4), hPS.g (LT4 ht4), hPS.g (LT5 ht4), hPS.g (LS1 hl hn6), hPS.g (LS2 hl hn6), hPS.g (LS3 hl hn6), hPS.g (LS4 hl hn6)]) ?_
    refine PS.set (LT8 ht4) (by simp (disch := omega) only [rLog_o, rEndC, rRise, rRise0, pk_us, pk_un, Int32.add_zero, Int32.sub_zero, Int32.sub_self, hPS.g LK0, hPS.g LK3, hPS.g LK4, hPS.g LK5, hPS.g LK8, hPS.g (LT0 ht4), hPS.g (LT4 ht4), hPS.g (LT5 ht4), hPS.g (LS1 hl hn6), hPS.g (LS2 hl hn6), hPS.g (LS3 hl hn6), hPS.g (LS4 hl hn6)]) ?_
    refine PS.set (LT7 ht4) (by simp (disch := omega) only [rLog_o, rEndC, rRise, rRise0, pk_us, pk_un, Int32.add_zero, Int32.sub_zero, Int32.sub_self, hPS.g LK0, hPS.g LK3, hPS.g LK4, hPS.g LK5, hPS.g LK8, hPS.g (LT0 ht4), hPS.g (LT4 ht4), hPS.g (LT5 ht4), hPS.g (LS1 hl hn6), hPS.g (LS2 hl hn6), hPS.g (LS3 hl hn6), hPS.g (LS4 hl hn6)]) ?_
    refine PS.set (LT6 ht4) (by simp (disch := omega) only [rLog_o, rEndC, rRise, rRise0, pk_us, pk_un, Int32.add_zero, Int32.sub_zero, Int32.sub_self, hPS.g LK0, hPS.g LK3, hPS.g LK4, hPS.g LK5, hPS.g LK8, hPS.g (LT0 ht4), hPS.g (LT4 ht4), hPS.g (LT5 ht4), hPS.g (LS1 hl hn6), hPS.g (LS2 hl hn6), hPS.g (LS3 hl hn6), hPS.g (LS4 hl hn6)]) ?_
    refine PS.set LK5 (by simp (disch := omega) only [rLog_o, rEndC, rRise, rRise0, pk_us, pk_un, Int32.add_zero, Int32.sub_zero, Int32.sub_self, hPS.g LK0, hPS.g LK3, hPS.g LK4, hPS.g LK5, hPS.g LK8, hPS.g (LT0 ht4), hPS.g (LT4 ht4), hPS.g (LT5 ht4), hPS.g (LS1 hl hn6), hPS.g (LS2 hl hn6), hPS.g (LS3 hl hn6), hPS.g (LS4 hl hn6)]) ?_
    refine PS.wr ?_
    refine PS.log ?_
    unfold rEndC rRise
    refine PS.rold (by simp (disch := omega) only [rLog_o, rEndC, rRise, rRise0, pk_us, pk_un, Int32.add_zero, Int32.sub_self]) ?_
    refine PS.rset (by simp) ?_
    refine PS.rset (by simp) ?_
    refine PS.rset (by simp) ?_
    refine PS.rset (by simp) ?_
    refine PS.rset (by simp) ?_
    refine PS.rset (by simp) ?_
    refine PS.rset (by simp) ?_
    exact hPS.w0
  · intro u hu h1
    have hut : u ≠ t := by
      rintro rfl
      simp (disch := omega) only [rOut, rLog_o, rEndC, rRise, rRise0, pk_us, pk_un] at h1
      have := nI_inj (b := 1) (by omega) (by omega) h1
      omega
    simp (disch := omega) only [rOut, rLog_o, rEndC, rRise, rRise0, pk_us, pk_un, updM_ss, updM_sn, updM_n, write_o] at h1 ⊢
    exact hOn u hu h1
  · refine (Lg.wr (e := X 0 7) (r := rOut r r t l n k (nI z)) (X := X) (hLg.same (fun _ => rfl) (fun _ => rfl) (fun i hi => ?_)) ?_).same (fun j => ?_) (fun j => ?_) (fun _ _ => rfl)
    · simp (disch := omega) only [rOut, rEndC, rRise, pk_un]
    · simp (disch := omega) only [rOut, rEndC, rRise, pk_un, g7]
    · simp (disch := omega) only [updM_n]
    · simp (disch := omega) only [updM_n]
  · refine Inv.log (Inv.leave hInv ht hl hk hse0 (z := z) ?_ ?_ hz (by omega) (by omega) (by omega) (Or.inr (by omega)) ?_)
    · simp (disch := omega) only [rOut, rEndC, rRise, pk_us, pk_un]
    · simp (disch := omega) only [rOut, rEndC, rRise, pk_us, pk_un]
    · intro i hi n1 n2 n3 n4 n5
      rw [← hr0 i n5]
      simp only [rOut, rEndC, rRise, pk_un n1, pk_un n2, pk_un n3, pk_un n4, pk_un (nz hi (yT11 ht4)), pk_un (nz hi (yT12 ht4)), pk_un (nz hi yK4), pk_un (nz hi yK5)]
def rHall (r : Nat → Int32) (t l n k m : Nat) : Nat → Int32 := rLog (upd (upd (upd (rRise r t l k) (294 + 17 * t + 6) 2) (294 + 17 * t + 7) (nI m)) (294 + 17 * t + 15) (r 0)) 3 (nI t) (nI l) (nI (10 * l + n))
theorem ev_hall (h : SS X r tc oc sl ph mn) (hl : l < 2) (hn : n < mn l) (ht : t < tc) (hk : k < 24) (hse : r (26 + 24 * l + k) = nI t) {m : Nat} (hm : m < 2) : SS (p_X0_setRider (p_X5_enterHall (p_X1_write X 33 3 (nI t) (nI l) (nI (10 * l + n)) (X 0 7)) (35 + 2 * t) (nI m) (X 0 7)) (1 + 15 * l) (nI k) (-5)) (rHall r t l n k m) tc oc sl ph mn := by
  have h40 := h.tc4
  have ht4 : t < 40 := by omega
  have hn6 : n < 6 := Nat.lt_of_lt_of_le hn (h.mn6 hl)
  obtain ⟨f6, f7, f8⟩ := seat_f h hl hk ht hse
  obtain ⟨hPS, hOn, hLg, hInv⟩ := h
  rw [setR_c hk, hall_c]
  have g7 := hPS.g LK0
  refine ⟨?_, ?_, ?_, ?_⟩
  · unfold rHall
    refine PS.set (LE hl hk) (by simp (disch := omega) only [rLog_o, rEndC, rRise, rRise0, pk_us, pk_un, Int32.add_zero, Int32.sub_zero, Int32.sub_self, hPS.g LK0, hPS.g LK3, hPS.g LK4, hPS.g LK5, hPS.g LK8, hPS.g (LT0 ht4), hPS.g (LT4 ht4), hPS.g (LT5 ht4), hPS.g (LS1 hl hn6), hPS.g (LS2 hl hn6), hPS.g (LS3 hl hn6), hPS.g (LS4 hl hn6)]) ?_
    refine PS.set (LT15 ht4) (by simp (disch := omega) only [rLog_o, rEndC, rRise, rRise0, pk_us, pk_un, Int32.add_zero, Int32.sub_zero, Int32.sub_self, hPS.g LK0, hPS.g LK3, hPS.g LK4, hPS.g LK5, hPS.g LK8, hPS.g (LT0 ht4), hPS.g (LT4 ht4), hPS.g (LT5 ht4), hPS.g (LS1 hl hn6), hPS.g (LS2 hl hn6), hPS.g (LS3 hl hn6), hPS.g (LS4 hl hn6)]) ?_
    refine PS.set (LT8 ht4) (by simp (disch := omega) only [rLog_o, rEndC, rRise, rRise0, pk_us, pk_un, Int32.add_zero, Int32.sub_zero, Int32.sub_self, hPS.g LK0, hPS.g LK3, hPS.g LK4, hPS.g LK5, hPS.g LK8, hPS.g (LT0 ht4), hPS.g (LT4 ht4), hPS.g (LT5 ht4), hPS.g (LS1 hl hn6), hPS.g (LS2 hl hn6), hPS.g (LS3 hl hn6), hPS.g (LS4 hl hn6)]) ?_
    refine PS.set (LT7 ht4) (by simp (disch := omega) only [rLog_o, rEndC, rRise, rRise0, pk_us, pk_un, Int32.add_zero, Int32.sub_zero, Int32.sub_self, hPS.g LK0, hPS.g LK3, hPS.g LK4, hPS.g LK5, hPS.g LK8, hPS.g (LT0 ht4), hPS.g (LT4 ht4), hPS.g (LT5 ht4), hPS.g (LS1 hl hn6), hPS.g (LS2 hl hn6), hPS.g (LS3 hl hn6), hPS.g (LS4 hl hn6)]) ?_
    refine PS.set (LT6 ht4) (by simp (disch := omega) only [rLog_o, rEndC, rRise, rRise0, pk_us, pk_un, Int32.add_zero, Int32.sub_zero, Int32.sub_self, hPS.g LK0, hPS.g LK3, hPS.g LK4, hPS.g LK5, hPS.g LK8, hPS.g (LT0 ht4), hPS.g (LT4 ht4), hPS.g (LT5 ht4), hPS.g (LS1 hl hn6), hPS.g (LS2 hl hn6), hPS.g (LS3 hl hn6), hPS.g (LS4 hl hn6)]) ?_
    refine PS.wr ?_
    refine PS.log ?_
    unfold rRise
    refine PS.rset (by simp) ?_
    refine PS.rset (by simp) ?_
    refine PS.rset (by simp) ?_
    refine PS.rset (by simp) ?_
    refine PS.rset (by simp) ?_
    refine PS.rset (by simp) ?_
    exact hPS.w0
  · intro u hu h1
    have hut : u ≠ t := by
      rintro rfl
      simp (disch := omega) only [rHall, rLog_o, rEndC, rRise, rRise0, pk_us, pk_un] at h1
      exact absurd h1 (by decide)
    simp (disch := omega) only [rHall, rLog_o, rEndC, rRise, rRise0, pk_us, pk_un, updM_ss, updM_sn, updM_n, write_o] at h1 ⊢
    exact hOn u hu h1
  · unfold rHall
    refine (Lg.wr (e := X 0 7) (r := upd (upd (upd (rRise r t l k) (294 + 17 * t + 6) 2) (294 + 17 * t + 7) (nI m)) (294 + 17 * t + 15) (r 0)) (X := X) (hLg.same (fun _ => rfl) (fun _ => rfl) (fun i hi => ?_)) ?_).same (fun j => ?_) (fun j => ?_) (fun _ _ => rfl)
    · simp (disch := omega) only [rRise, pk_un]
    · simp (disch := omega) only [rRise, pk_un, g7]
    · simp (disch := omega) only [updM_n]
    · simp (disch := omega) only [updM_n]
  · unfold rHall
    refine Inv.log (Inv.leave hInv ht hl hk hse (z := 2) ?_ ?_ (by decide) (by decide) (fun _ => ⟨m, hm, ?_⟩) (by decide) (Or.inl ?_) ?_)
    · simp (disch := omega) only [rRise, pk_us, pk_un]
    · simp (disch := omega) only [rRise, pk_us, pk_un]
      rfl
    · simp (disch := omega) only [rRise, pk_us, pk_un]
    · simp (disch := omega) only [rRise, pk_us, pk_un]
    · intro i hi n1 n2 n3 n4 _
      simp only [rRise, pk_un n1, pk_un n2, pk_un n3, pk_un n4, pk_un (nz hi (yT15 ht4))]
def rBoard (r : Nat → Int32) (t l n k : Nat) : Nat → Int32 := rLog (upd (upd (upd (upd (upd (upd (upd r (294 + 17 * t + 6) 1) (294 + 17 * t + 7) (nI l)) (294 + 17 * t + 8) (nI k)) (294 + 17 * t + 16) (nI n)) (294 + 17 * t + 10) (if r (294 + 17 * t + 10) = (-5) then r 0 else r (294 + 17 * t + 10))) (26 + 24 * l + k) (nI t)) (74 + 10 * (6 * l + n) + 1) (r (74 + 10 * (6 * l + n) + 1) + 1)) 0 (nI t) (nI l) (nI (10 * l + n))
/-- a word boards: its seat is empty in the row, whatever the class has there -/
theorem ev_board (hPS : PS [26 + 24 * l + k] X r) (hOn : On X r tc) (hLg : Lg X r) (hInv : Inv r tc oc sl ph mn) (hl : l < 2) (hn : n < mn l) (ht : t < tc) (hk : k < sl l) (hse : r (26 + 24 * l + k) = (-5)) (h0 : r (294 + 17 * t + 6) = 0 ∨ r (294 + 17 * t + 6) = 2) : SS (p_X3_board X (35 + 2 * t) (1 + 15 * l) (1 + 15 * l + 2 + 1 + 2 * n) (nI k)) (rBoard r t l n k) tc oc sl ph mn := by
  have h40 : tc ≤ 40 := hInv.1.2
  have ht4 : t < 40 := by omega
  have hn6 : n < 6 := Nat.lt_of_lt_of_le hn (hInv.2.2.1 l hl).2.2.2
  have hk24 : k < 24 := Nat.lt_of_lt_of_le hk (hInv.2.2.1 l hl).1.2.2
  rw [board_c hl hn6 hk24]
  have g7 : X 0 7 = r 0 := hPS.get LK0 (by simp; omega)
  have g8 : X (35 + 2 * t) 8 = r (294 + 17 * t + 10) := hPS.get (LT10 ht4) (by simp; omega)
  have gs : X (1 + 15 * l + 2 + 1 + 2 * n) 6 = r (74 + 10 * (6 * l + n) + 1) := hPS.get (LS1 hl hn6) (by simp; omega)
  refine ⟨?_, ?_, ?_, ?_⟩
  · unfold rBoard
    refine PS.set (LE hl hk24) (by simp (disch := omega) only [rLog_o, pk_us, pk_un]) ?_
    rw [g8]
    by_cases hb : r (294 + 17 * t + 10) = (-5)
    · rw [if_pos hb, if_pos hb]
      refine PS.set (LT10 ht4) (by simp (disch := omega) only [rLog_o, pk_us, pk_un, g7]) ?_
      refine PS.ign NLT ?_
      refine PS.set (LT8 ht4) (by simp (disch := omega) only [rLog_o, pk_us, pk_un]) ?_
      refine PS.set (LT7 ht4) (by simp (disch := omega) only [rLog_o, pk_us, pk_un]) ?_
      refine PS.set (LT6 ht4) (by simp (disch := omega) only [rLog_o, pk_us, pk_un]) ?_
      refine PS.set (LS1 hl hn6) (by simp (disch := omega) only [rLog_o, pk_us, pk_un, gs]) ?_
      refine PS.wr (PS.log ?_)
      refine PS.rset (by simp) (PS.rset (by simp) (PS.rset (by simp) (PS.rign (NLon ht4) (PS.rset (by simp) (PS.rset (by simp) (PS.rset (by simp) ?_))))))
      exact hPS.w (by simp)
    · rw [if_neg hb, if_neg hb]
      refine PS.ign NLT ?_
      refine PS.set (LT8 ht4) (by simp (disch := omega) only [rLog_o, pk_us, pk_un]) ?_
      refine PS.set (LT7 ht4) (by simp (disch := omega) only [rLog_o, pk_us, pk_un]) ?_
      refine PS.set (LT6 ht4) (by simp (disch := omega) only [rLog_o, pk_us, pk_un]) ?_
      refine PS.set (LS1 hl hn6) (by simp (disch := omega) only [rLog_o, pk_us, pk_un, gs]) ?_
      refine PS.wr (PS.log ?_)
      refine PS.rset (by simp) (PS.rset (by simp) (PS.rold (by simp (disch := omega) only [pk_un]) (PS.rign (NLon ht4) (PS.rset (by simp) (PS.rset (by simp) (PS.rset (by simp) ?_))))))
      exact hPS.w (by simp)
  · intro u hu h1
    rw [updM_n (by omega)]
    by_cases hut : u = t
    · subst hut
      have e : (10 : Int32) * nI l + nI n = nI (10 * l + n) := by
        show nI 10 * nI l + nI n = _
        rw [nI_mul, nI_add]
      unfold rBoard
      simp (disch := omega) only [rLog_o, pk_us, pk_un]
      rw [e]
      split
      · rw [updM_sn (by decide), updM_ss]
      · rw [updM_ss]
    · have e : ∀ (A B : gM), A (35 + 2 * u) 13 = X (35 + 2 * u) 13 → B (35 + 2 * u) 13 = X (35 + 2 * u) 13 → (if X (35 + 2 * t) 8 = (-5) then A else B) (35 + 2 * u) 13 = X (35 + 2 * u) 13 := by
        intro A B hA hB
        split
        · exact hA
        · exact hB
      rw [e _ _ (by simp (disch := omega) only [updM_n, write_o]) (by simp (disch := omega) only [updM_n, write_o])]
      unfold rBoard at h1 ⊢
      simp (disch := omega) only [rLog_o, pk_us, pk_un] at h1 ⊢
      exact hOn u hu h1
  · unfold rBoard
    refine (Lg.wr (e := X 0 7) (r := upd (upd (upd (upd (upd (upd (upd r (294 + 17 * t + 6) 1) (294 + 17 * t + 7) (nI l)) (294 + 17 * t + 8) (nI k)) (294 + 17 * t + 16) (nI n)) (294 + 17 * t + 10) (if r (294 + 17 * t + 10) = (-5) then r 0 else r (294 + 17 * t + 10))) (26 + 24 * l + k) (nI t)) (74 + 10 * (6 * l + n) + 1) (r (74 + 10 * (6 * l + n) + 1) + 1)) (X := X) (hLg.same (fun _ => rfl) (fun _ => rfl) (fun i hi => ?_)) ?_).same (fun j => ?_) (fun j => ?_) (fun _ _ => rfl)
    · simp (disch := omega) only [pk_un]
    · simp (disch := omega) only [pk_un, g7]
    · rw [updM_n (by omega)]
      split <;> simp (disch := omega) only [updM_n]
    · rw [updM_n (by omega)]
      split <;> simp (disch := omega) only [updM_n]
  · unfold rBoard
    refine Inv.log (Inv.board hInv ht hl hk hse h0 ?_ ?_ ?_ ?_ ?_)
    · simp (disch := omega) only [pk_us, pk_un]
    · simp (disch := omega) only [pk_us, pk_un]
    · simp (disch := omega) only [pk_us, pk_un]
    · simp (disch := omega) only [pk_us, pk_un]
    · intro i hi n1 n2 n3 n4
      simp only [pk_un n1, pk_un n2, pk_un n3, pk_un n4, pk_un (nz hi (yT16 ht4)), pk_un (nz hi (yT10 ht4)), pk_un (nz hi (yS1 hl hn6))]
end EVS
