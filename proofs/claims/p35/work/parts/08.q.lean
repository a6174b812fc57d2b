/-! what callers give: lines, stations, tickets, orders; both sides -/
theorem in_eq {a b c : Int32} : f_X9_in a b c = f_X8_within a b c := rfl
theorem line_arg (a : Int32) : (f_X8_isLine a = 0 ∧ f_X9_isLine a = 0) ∨ ∃ l, l < 2 ∧ a = nI l ∧ f_X8_isLine a = 1 ∧ f_X9_isLine a = 1 := by
  by_cases h0 : a = 0
  · subst h0
    exact Or.inr ⟨0, by omega, rfl, by decide +kernel, by decide +kernel⟩
  · by_cases h1 : a = 1
    · subst h1
      exact Or.inr ⟨1, by omega, rfl, by decide +kernel, by decide +kernel⟩
    · refine Or.inl ⟨by unfold f_X8_isLine; rw [if_neg h0, if_neg h1], ?_⟩
      unfold f_X9_isLine f_X9_in
      by_cases n0 : a < 0
      · rw [if_pos n0]
      · rw [if_neg n0]
        by_cases n1 : 1 < a
        · rw [if_pos n1]
        · exfalso
          obtain ⟨j, hj, rfl⟩ := nI_of n0
          have : ¬ nI 1 < nI j := n1
          rw [nI_ltI (by omega) hj] at this
          rcases (show j = 0 ∨ j = 1 by omega) with rfl | rfl
          · exact h0 rfl
          · exact h1 rfl
theorem in_arg {N : Nat} (hN : N < 2147483648) (a : Int32) : f_X8_within a 0 (nI N) = 0 ∨ (f_X8_within a 0 (nI N) = 1 ∧ ∃ k, k ≤ N ∧ a = nI k) := by
  unfold f_X8_within
  by_cases n0 : a < 0
  · rw [if_pos n0]
    exact Or.inl rfl
  · rw [if_neg n0]
    obtain ⟨j, hj, rfl⟩ := nI_of n0
    by_cases n1 : nI N < nI j
    · rw [if_pos n1]
      exact Or.inl rfl
    · rw [if_neg n1]
      rw [nI_ltI hN hj] at n1
      exact Or.inr ⟨rfl, j, by omega, rfl⟩
theorem in_sub {b : Nat} (hb : b < 2147483648) (a : Int32) : f_X8_within a 0 (nI b - 1) = 0 ∨ (f_X8_within a 0 (nI b - 1) = 1 ∧ ∃ k, k < b ∧ a = nI k) := by
  unfold f_X8_within
  by_cases n0 : a < 0
  · rw [if_pos n0]
    exact Or.inl rfl
  · rw [if_neg n0]
    obtain ⟨j, hj, rfl⟩ := nI_of n0
    rcases Nat.eq_zero_or_pos b with rfl | h0
    · have e : nI 0 - 1 < nI j := by
        rw [Int32.lt_iff_toInt_lt, nI_toInt hj]
        have : (nI 0 - 1 : Int32).toInt = -1 := by decide +kernel
        omega
      rw [if_pos e]
      exact Or.inl rfl
    · have e : nI b - 1 = nI (b - 1) := by
        have := nI_pred (b - 1)
        rwa [show b - 1 + 1 = b by omega] at this
      rw [e]
      by_cases n1 : nI (b - 1) < nI j
      · rw [if_pos n1]
        exact Or.inl rfl
      · rw [if_neg n1]
        rw [nI_ltI (by omega) hj] at n1
        exact Or.inr ⟨rfl, j, by omega, rfl⟩
section ARGS
variable {X Y : gM} {r : Nat → Int32} {tc oc : Nat} {sl ph mn : Nat → Nat}
theorem station_arg (h : SS X r tc oc sl ph mn) (a : Int32) : ((f_X3_stationOf X a = none ∧ f_X9_isStation (sR Y r) a = 0) ∨ ∃ l n, l < 2 ∧ n < mn l ∧ a = nI (10 * l + n) ∧ f_X3_stationOf X a = some (1 + 15 * l + 2 + 1 + 2 * n) ∧ f_X9_isStation (sR Y r) a = 1) ∧ ok_X9_isStation (sR Y r) a := by
  unfold f_X3_stationOf f_X9_isStation ok_X9_isStation
  rw [in_eq]
  rcases in_arg (N := 19) (by omega) a with h0 | ⟨h1, k, hk, rfl⟩
  · have h0' : f_X8_within a 0 19 = 0 := h0
    rw [h0', if_pos rfl, if_pos rfl, if_pos rfl]
    exact ⟨Or.inl ⟨rfl, rfl⟩, trivial⟩
  · have h1' : f_X8_within (nI k) 0 19 = 1 := h1
    rw [h1', if_neg (show ¬ (1 : Int32) = 0 by decide), if_neg (show ¬ (1 : Int32) = 0 by decide), if_neg (show ¬ (1 : Int32) = 0 by decide)]
    obtain ⟨l, n, hl, hn, rfl⟩ : ∃ l n, l < 2 ∧ n < 10 ∧ k = 10 * l + n := ⟨k / 10, k % 10, by omega, by omega, by omega⟩
    have hm : r (10 + 8 * l + 4) = nI (mn l) := (h.lin hl).2.2.1
    have h6 := h.mn6 hl
    have hr : f_X9_ofLine (sR Y r) (nI l) 4 = nI (mn l) := by rw [rf_line4 hl, sR_1, hm]
    have hx : X (1 + 15 * l) 3 = nI (mn l) := by rw [h.1.g (LL4 hl), hm]
    rw [st_div hl hn, st_mod hl hn, hr, lineOf_n hl]
    refine ⟨?_, ro_line4 hl, trivial⟩
    unfold f_X0_stationAt
    rw [hx]
    by_cases hnm : n < mn l
    · rw [within_n (by omega) (by omega) hnm, if_neg (show ¬ (1 : Int32) = 0 by decide), if_neg (show ¬ (6 : Int32) ≤ nI n from nI_ge (b := 6) (by omega) (by decide)), if_neg (nI_ge hnm (by omega)), c1 (by omega)]
      exact Or.inr ⟨l, n, hl, hnm, rfl, rfl, rfl⟩
    · rcases in_sub (b := mn l) (by omega) (nI n) with q | ⟨q, j, hj, e⟩
      · rw [q, if_pos rfl, if_pos (nI_le (by omega) (by omega))]
        exact Or.inl ⟨rfl, rfl⟩
      · have := nI_inj (by omega) (by omega) e
        omega
theorem ticket_arg (h : SS X r tc oc sl ph mn) (a : Int32) : (f_X3_ticketOf X a = none ∧ f_X9_isTicket (sR Y r) a = 0) ∨ ∃ t, t < tc ∧ a = nI t ∧ f_X3_ticketOf X a = some (35 + 2 * t) ∧ f_X9_isTicket (sR Y r) a = 1 := by
  have h40 := h.tc4
  have h5 : X 0 5 = nI tc := by rw [h.1.g LK1, h.r1]
  have hr : sR Y r 1 1 = nI tc := h.r1
  unfold f_X9_isTicket
  rw [in_eq, hr]
  rcases in_sub (b := tc) (by omega) a with q | ⟨q, t, ht, rfl⟩
  · refine Or.inl ⟨?_, q⟩
    unfold f_X3_ticketOf
    rw [h5, q, if_pos rfl]
  · exact Or.inr ⟨t, ht, rfl, ticketOf_n h5 h40 ht, q⟩
theorem order_arg (h : SS X r tc oc sl ph mn) (a : Int32) : (f_X3_orderOf X a = none ∧ f_X9_isOrder (sR Y r) a = 0) ∨ ∃ o, o < oc ∧ a = nI o ∧ f_X3_orderOf X a = some (115 + 2 * o) ∧ f_X9_isOrder (sR Y r) a = 1 := by
  have h4 := h.oc4
  have h5 : X 0 6 = nI oc := by rw [h.1.g LK2, h.r2]
  have hr : sR Y r 1 2 = nI oc := h.r2
  unfold f_X9_isOrder f_X3_orderOf
  rw [in_eq, hr, h5]
  rcases in_sub (b := oc) (by omega) a with q | ⟨q, o, ho, rfl⟩
  · rw [q, if_pos rfl]
    exact Or.inl ⟨rfl, rfl⟩
  · rw [q, if_neg (show ¬ (1 : Int32) = 0 by decide), if_neg (show ¬ (4 : Int32) ≤ nI o from nI_ge (b := 4) (by omega) (by decide)), c1 (by omega)]
    exact Or.inr ⟨o, ho, rfl, rfl, rfl⟩
/-- as many ride as seats are taken -/
theorem ride_cn (h : SS X r tc oc sl ph mn) {l : Nat} (hl : l < 2) : cn (bSe r l) 24 = cn (bOn r (nI l) 1) tc := by
  have h40 := h.tc4
  refine cn_bij (φ := fun k t => decide (r (26 + 24 * l + k) = nI t)) ?_ ?_ ?_ ?_ ?_
  · intro k hk hp
    have hp' : r (26 + 24 * l + k) ≠ (-5) := by simpa [bSe] using hp
    obtain ⟨t, t1, t2, t3, t4, t5⟩ := (h.sea hl hk).resolve_left hp'
    exact ⟨t, t1, by simp [t2], by simp [bOn, t3, t4]⟩
  · intro t ht hq
    have hq' : r (294 + 17 * t + 6) = 1 ∧ r (294 + 17 * t + 7) = nI l := by simpa [bOn] using hq
    obtain ⟨_, _, _, _, s, q5, q6, _, q8, _⟩ := h.tik ht
    have hs : s = 1 := nI_inj (b := 1) (by omega) (by omega) (q6.symm.trans hq'.1)
    obtain ⟨l', k, w1, w2, w3, w4, w5⟩ := q8 hs
    have e : l' = l := nI_inj (by omega) (by omega) (w3.symm.trans hq'.2)
    subst e
    have := (h.lin w1).1.2.2
    refine ⟨k, by omega, by simp [w5], ?_⟩
    have n5 : nI t ≠ (-5) := nI_n5 (by omega)
    simp [bSe, w5, n5]
  · intro k hk t ht hφ
    have e : r (26 + 24 * l + k) = nI t := by simpa using hφ
    obtain ⟨f6, f7, f8⟩ := seat_f h hl hk ht e
    have n5 : nI t ≠ (-5) := nI_n5 (by omega)
    exact ⟨by simp [bSe, e, n5], by simp [bOn, f6, f7]⟩
  · intro k t t' h1 h2 ht ht'
    have e1 : r (26 + 24 * l + k) = nI t := by simpa using h1
    have e2 : r (26 + 24 * l + k) = nI t' := by simpa using h2
    exact nI_inj (by omega) (by omega) (e1.symm.trans e2)
  · intro k k' t hk hk' ht h1 h2
    have e1 : r (26 + 24 * l + k) = nI t := by simpa using h1
    have e2 : r (26 + 24 * l + k') = nI t := by simpa using h2
    have a := (seat_f h hl hk ht e1).2.2
    have b := (seat_f h hl hk' ht e2).2.2
    exact nI_inj (by omega) (by omega) (a.symm.trans b)
end ARGS
theorem iA {A w : Nat} : (nI A + nI (w + 2)) - 2 = nI (A + w) := by
  show (nI A + nI (w + 2)) - nI 2 = _
  rw [nI_add, show A + (w + 2) = (A + w) + 2 by omega, ← nI_add (A + w) 2, Int32.add_sub_cancel]
/-! what is told -/
section TOLD
variable {X Y : gM}
theorem q_line (h : Rl X Y) (a1 a2 : Int32) : f_X8_line X a1 a2 = f_X9_line Y a1 a2 ∧ ok_X9_line Y a1 a2 := by
  obtain ⟨tc, oc, sl, ph, mn, hs⟩ := h.1
  rw [← sR_id (Y := Y)]
  generalize Y 1 = r at hs ⊢
  unfold f_X8_line f_X9_line ok_X9_line
  rcases line_arg a1 with ⟨e1, e2⟩ | ⟨l, hl, rfl, e1, e2⟩
  · rw [e1, e2, if_pos rfl, if_pos rfl, if_pos rfl]
    exact ⟨rfl, trivial⟩
  · rw [e1, e2, if_neg (show ¬ (1 : Int32) = 0 by decide), if_neg (show ¬ (1 : Int32) = 0 by decide), if_neg (show ¬ (1 : Int32) = 0 by decide), lineOf_n hl]
    by_cases h0 : a2 = 0
    · subst h0
      rw [if_pos rfl, if_pos rfl, if_pos rfl, rf_line0 hl]
      exact ⟨hs.1.g (LL0 hl), ro_line0 hl, trivial⟩
    rw [if_neg h0, if_neg h0, if_neg h0]
    by_cases h1 : a2 = 1
    · subst h1
      rw [if_pos rfl, if_pos rfl, if_pos rfl, rf_line1 hl]
      exact ⟨hs.1.g (LL1 hl), ro_line1 hl, trivial⟩
    rw [if_neg h1, if_neg h1, if_neg h1]
    by_cases h2 : a2 = 2
    · subst h2
      rw [if_pos rfl, if_pos rfl, if_pos rfl, rf_line2 hl, hs.1.g (LL2 hl)]
      exact ⟨rfl, ro_line2 hl, trivial⟩
    rw [if_neg h2, if_neg h2, if_neg h2]
    by_cases h3 : a2 = 3
    · subst h3
      rw [if_pos rfl, if_pos rfl, if_pos rfl, rf_line3 hl, hs.1.g (LL3 hl)]
      exact ⟨rfl, ro_line3 hl, trivial⟩
    rw [if_neg h3, if_neg h3, if_neg h3]
    by_cases h4 : a2 = 4
    · subst h4
      rw [if_pos rfl, if_pos rfl, if_pos rfl, rf_line4 hl]
      exact ⟨hs.1.g (LL4 hl), ro_line4 hl, trivial⟩
    rw [if_neg h4, if_neg h4, if_neg h4]
    by_cases h5 : a2 = 5
    · subst h5
      obtain ⟨o1, o2⟩ := R_on (Y := Y) (nI l) 1 hs.r1 hs.tc4
      rw [if_pos rfl, if_pos rfl, if_pos rfl, o1, X_riderCount (r := r) l (1 + 15 * l) (fun k hk => hs.1.g (LE hl hk)), ride_cn hs hl]
      exact ⟨rfl, o2, trivial⟩
    rw [if_neg h5, if_neg h5, if_neg h5]
    by_cases h6 : a2 = 6
    · subst h6
      obtain ⟨o1, o2⟩ := R_on (Y := Y) (nI l) 2 hs.r1 hs.tc4
      have h40 := hs.tc4
      rw [if_pos rfl, if_pos rfl, if_pos rfl, o1, X_hallLength (r := r) l (1 + 15 * l) (nL_lin hl) (by rw [hs.1.g LK1, hs.r1]) h40 (fun u hu => hs.1.g (LT6 (by omega))) (fun u hu => hs.1.g (LT7 (by omega)))]
      exact ⟨rfl, o2, trivial⟩
    rw [if_neg h6, if_neg h6, if_neg h6]
    by_cases h7 : a2 = 7
    · subst h7
      rw [if_pos rfl, if_pos rfl, if_pos rfl, rf_line5 hl]
      exact ⟨hs.1.g (LL5 hl), ro_line5 hl, trivial⟩
    rw [if_neg h7, if_neg h7, if_neg h7]
    by_cases h8 : a2 = 8
    · subst h8
      rw [if_pos rfl, if_pos rfl, if_pos rfl, rf_line6 hl]
      exact ⟨hs.1.g (LL6 hl), ro_line6 hl, trivial⟩
    rw [if_neg h8, if_neg h8, if_neg h8]
    exact ⟨rfl, trivial⟩
theorem q_slot (h : Rl X Y) (a1 a2 : Int32) : f_X8_slot X a1 a2 = f_X9_slot Y a1 a2 ∧ ok_X9_slot Y a1 a2 := by
  obtain ⟨tc, oc, sl, ph, mn, hs⟩ := h.1
  rw [← sR_id (Y := Y)]
  generalize Y 1 = r at hs ⊢
  unfold f_X8_slot f_X9_slot ok_X9_slot
  rcases line_arg a1 with ⟨e1, e2⟩ | ⟨l, hl, rfl, e1, e2⟩
  · rw [e1, e2, if_pos rfl, if_pos rfl, if_pos rfl]
    exact ⟨rfl, trivial⟩
  · have hL := (hs.lin hl).1
    have hr : f_X9_ofLine (sR Y r) (nI l) 0 = nI (sl l) := by rw [rf_line0 hl, sR_1, hL.1]
    rw [e1, e2, if_neg (show ¬ (1 : Int32) = 0 by decide), if_neg (show ¬ (1 : Int32) = 0 by decide), if_neg (show ¬ (1 : Int32) = 0 by decide), lineOf_n hl, hr, hs.1.g (LL0 hl), hL.1, in_eq]
    rcases in_sub (b := sl l) (by omega) a2 with q | ⟨q, k, hk, rfl⟩
    · rw [q, if_pos rfl, if_pos rfl, if_pos rfl]
      exact ⟨rfl, ro_line0 hl, trivial⟩
    · rw [q, if_neg (show ¬ (1 : Int32) = 0 by decide), if_neg (show ¬ (1 : Int32) = 0 by decide), if_neg (show ¬ (1 : Int32) = 0 by decide), riderIn_n (by omega), rf_seat hl (by omega)]
      exact ⟨hs.1.g (LE hl (by omega)), ro_line0 hl, ro_seat hl (by omega), trivial⟩
theorem q_station (h : Rl X Y) (a1 a2 : Int32) : f_X8_station X a1 a2 = f_X9_station Y a1 a2 ∧ ok_X9_station Y a1 a2 := by
  obtain ⟨tc, oc, sl, ph, mn, hs⟩ := h.1
  rw [← sR_id (Y := Y)]
  generalize Y 1 = r at hs ⊢
  have h40 := hs.tc4
  unfold f_X8_station f_X9_station ok_X9_station
  obtain ⟨hA, hok⟩ := station_arg (Y := Y) hs a1
  rcases hA with ⟨e1, e2⟩ | ⟨l, n, hl, hn, rfl, e1, e2⟩
  · rw [e1, e2, if_pos rfl, if_pos rfl]
    exact ⟨rfl, hok, trivial⟩
  · have hn6 : n < 6 := Nat.lt_of_lt_of_le hn (hs.mn6 hl)
    have hA : 74 + 10 * (6 * l + n) < 194 := by omega
    rw [e1, e2, if_neg (show ¬ (1 : Int32) = 0 by decide), if_neg (show ¬ (1 : Int32) = 0 by decide), st_at hl hn6]
    simp only [gOpt]
    rw [nS_lin hl hn6, nS_sta hl hn6, lineOf_n hl]
    by_cases h0 : a2 = 0
    · subst h0
      rw [if_pos rfl, if_pos rfl, if_pos rfl, iS0 (by omega)]
      exact ⟨hs.1.g (LS0 hl hn6), hok, vS0 (by omega), trivial⟩
    rw [if_neg h0, if_neg h0, if_neg h0]
    by_cases h1 : a2 = 1
    · subst h1
      obtain ⟨k, hk, s1, s2, s3⟩ := slot_sim (Y := Y) hs hl hn
      rw [if_pos rfl, if_pos rfl, if_pos rfl, s1, s2]
      exact ⟨rfl, hok, s3, trivial⟩
    rw [if_neg h1, if_neg h1, if_neg h1]
    by_cases h2 : a2 = 2
    · subst h2
      obtain ⟨o1, o2⟩ := R_waitMany (Y := Y) (nI (10 * l + n)) hs.r1 h40
      rw [if_pos rfl, if_pos rfl, if_pos rfl, o1, X_queueLength (r := r) (nI (10 * l + n)) (by rw [hs.1.g LK1, hs.r1]) h40 (fun t ht => queue_w hs hl hn6 ht)]
      exact ⟨rfl, hok, o2, trivial⟩
    rw [if_neg h2, if_neg h2, if_neg h2]
    by_cases h3 : a2 = 3
    · subst h3
      rw [if_pos rfl, if_pos rfl, if_pos rfl, show (nI (74 + 10 * (6 * l + n)) + 3 : Int32) - 2 = nI (74 + 10 * (6 * l + n) + 1) from iA (w := 1), c1 (by omega)]
      exact ⟨hs.1.g (LS1 hl hn6), hok, vp_in_nI (by omega) (by decide), trivial⟩
    rw [if_neg h3, if_neg h3, if_neg h3]
    by_cases h4 : a2 = 4
    · subst h4
      rw [if_pos rfl, if_pos rfl, if_pos rfl, show (nI (74 + 10 * (6 * l + n)) + 4 : Int32) - 2 = nI (74 + 10 * (6 * l + n) + 2) from iA (w := 2), c1 (by omega)]
      exact ⟨hs.1.g (LS2 hl hn6), hok, vp_in_nI (by omega) (by decide), trivial⟩
    rw [if_neg h4, if_neg h4, if_neg h4]
    by_cases h5 : a2 = 5
    · subst h5
      rw [if_pos rfl, if_pos rfl, if_pos rfl, show (nI (74 + 10 * (6 * l + n)) + 5 : Int32) - 2 = nI (74 + 10 * (6 * l + n) + 3) from iA (w := 3), c1 (by omega)]
      exact ⟨hs.1.g (LS3 hl hn6), hok, vp_in_nI (by omega) (by decide), trivial⟩
    rw [if_neg h5, if_neg h5, if_neg h5]
    by_cases h6 : a2 = 6
    · subst h6
      rw [if_pos rfl, if_pos rfl, if_pos rfl, show (nI (74 + 10 * (6 * l + n)) + 6 : Int32) - 2 = nI (74 + 10 * (6 * l + n) + 4) from iA (w := 4), c1 (by omega)]
      exact ⟨hs.1.g (LS4 hl hn6), hok, vp_in_nI (by omega) (by decide), trivial⟩
    rw [if_neg h6, if_neg h6, if_neg h6]
    by_cases h7 : a2 = 7
    · subst h7
      rw [if_pos rfl, if_pos rfl, if_pos rfl, show (nI (74 + 10 * (6 * l + n)) + 7 : Int32) - 2 = nI (74 + 10 * (6 * l + n) + 5) from iA (w := 5), c1 (by omega)]
      exact ⟨hs.1.g (LS5 hl hn6), hok, vp_in_nI (by omega) (by decide), trivial⟩
    rw [if_neg h7, if_neg h7, if_neg h7]
    by_cases h8 : a2 = 8
    · subst h8
      obtain ⟨hR, ho⟩ := next_sim (Y := Y) hs hl hn
      rw [if_pos rfl, if_pos rfl, if_pos rfl]
      refine ⟨?_, hok, ho, trivial⟩
      rcases hR with ⟨q1, q2⟩ | ⟨u, u1, u2, u3, u4⟩
      · rw [q1, q2]
        rfl
      · rw [u3, u4]
        show f_X8_numberOf_R (vw 0 X) (35 + 2 * u) = nI u
        unfold f_X8_numberOf_R
        rw [nT_tic]
    rw [if_neg h8, if_neg h8, if_neg h8]
    exact ⟨rfl, hok, trivial⟩
end TOLD
