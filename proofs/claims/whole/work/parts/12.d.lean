/-! what is told depends on the state of now alone -/
theorem n_line {X Y : gM} (h : SE (vw 0 X) (Y 1)) (a1 a2 : Int32) : f_X8_line X a1 a2 = f_X9_line Y a1 a2 ∧ ok_X9_line Y a1 a2 := by
  obtain ⟨tc, oc, sl, ph, mn, hs⟩ := h
  rw [← sR_id (Y := Y)]
  generalize Y 1 = r at hs ⊢
  unfold f_X8_line f_X9_line ok_X9_line
  rcases line_arg a1 with ⟨e1, e2⟩ | ⟨l, hl, rfl, e1, e2⟩
  · rw [e1, e2, if_pos rfl, if_pos rfl, if_pos rfl]
    exact ⟨rfl, trivial⟩
  · rw [e1, e2, if_neg (show ¬ (1 : Int32) = 0 by decide), if_neg (show ¬ (1 : Int32) = 0 by decide), if_neg (show ¬ (1 : Int32) = 0 by decide), lineOf_n hl]
    by_cases h0 : a2 = 0
    · subst h0
      rw [if_pos rfl, if_pos rfl, if_pos rfl, rf_line0 hl]
      exact ⟨hs.1.g (LL0 hl), ro_line0 hl, trivial⟩
    rw [if_neg h0, if_neg h0, if_neg h0]
    by_cases h1 : a2 = 1
    · subst h1
      rw [if_pos rfl, if_pos rfl, if_pos rfl, rf_line1 hl]
      exact ⟨hs.1.g (LL1 hl), ro_line1 hl, trivial⟩
    rw [if_neg h1, if_neg h1, if_neg h1]
    by_cases h2 : a2 = 2
    · subst h2
      rw [if_pos rfl, if_pos rfl, if_pos rfl, rf_line2 hl, hs.1.g (LL2 hl)]
      exact ⟨rfl, ro_line2 hl, trivial⟩
    rw [if_neg h2, if_neg h2, if_neg h2]
    by_cases h3 : a2 = 3
    · subst h3
      rw [if_pos rfl, if_pos rfl, if_pos rfl, rf_line3 hl, hs.1.g (LL3 hl)]
      exact ⟨rfl, ro_line3 hl, trivial⟩
    rw [if_neg h3, if_neg h3, if_neg h3]
    by_cases h4 : a2 = 4
    · subst h4
      rw [if_pos rfl, if_pos rfl, if_pos rfl, rf_line4 hl]
      exact ⟨hs.1.g (LL4 hl), ro_line4 hl, trivial⟩
    rw [if_neg h4, if_neg h4, if_neg h4]
    by_cases h5 : a2 = 5
    · subst h5
      obtain ⟨o1, o2⟩ := R_on (Y := Y) (nI l) 1 hs.r1 hs.tc4
      rw [if_pos rfl, if_pos rfl, if_pos rfl, o1, X_riderCount (r := r) l (1 + 15 * l) (fun k hk => hs.1.g (LE hl hk)), ride_cn hs hl]
      exact ⟨rfl, o2, trivial⟩
    rw [if_neg h5, if_neg h5, if_neg h5]
    by_cases h6 : a2 = 6
    · subst h6
      obtain ⟨o1, o2⟩ := R_on (Y := Y) (nI l) 2 hs.r1 hs.tc4
      have h40 := hs.tc4
      rw [if_pos rfl, if_pos rfl, if_pos rfl, o1, X_hallLength (r := r) l (1 + 15 * l) (nL_lin hl) (by rw [hs.1.g LK1, hs.r1]) h40 (fun u hu => hs.1.g (LT6 (by omega))) (fun u hu => hs.1.g (LT7 (by omega)))]
      exact ⟨rfl, o2, trivial⟩
    rw [if_neg h6, if_neg h6, if_neg h6]
    by_cases h7 : a2 = 7
    · subst h7
      rw [if_pos rfl, if_pos rfl, if_pos rfl, rf_line5 hl]
      exact ⟨hs.1.g (LL5 hl), ro_line5 hl, trivial⟩
    rw [if_neg h7, if_neg h7, if_neg h7]
    by_cases h8 : a2 = 8
    · subst h8
      rw [if_pos rfl, if_pos rfl, if_pos rfl, rf_line6 hl]
      exact ⟨hs.1.g (LL6 hl), ro_line6 hl, trivial⟩
    rw [if_neg h8, if_neg h8, if_neg h8]
    exact ⟨rfl, trivial⟩
theorem n_slot {X Y : gM} (h : SE (vw 0 X) (Y 1)) (a1 a2 : Int32) : f_X8_slot X a1 a2 = f_X9_slot Y a1 a2 ∧ ok_X9_slot Y a1 a2 := by
  obtain ⟨tc, oc, sl, ph, mn, hs⟩ := h
  rw [← sR_id (Y := Y)]
  generalize Y 1 = r at hs ⊢
  unfold f_X8_slot f_X9_slot ok_X9_slot
  rcases line_arg a1 with ⟨e1, e2⟩ | ⟨l, hl, rfl, e1, e2⟩
  · rw [e1, e2, if_pos rfl, if_pos rfl, if_pos rfl]
    exact ⟨rfl, trivial⟩
  · have hL := (hs.lin hl).1
    have hr : f_X9_ofLine (sR Y r) (nI l) 0 = nI (sl l) := by rw [rf_line0 hl, sR_1, hL.1]
    rw [e1, e2, if_neg (show ¬ (1 : Int32) = 0 by decide), if_neg (show ¬ (1 : Int32) = 0 by decide), if_neg (show ¬ (1 : Int32) = 0 by decide), lineOf_n hl, hr, hs.1.g (LL0 hl), hL.1, in_eq]
    rcases in_sub (b := sl l) (by omega) a2 with q | ⟨q, k, hk, rfl⟩
    · rw [q, if_pos rfl, if_pos rfl, if_pos rfl]
      exact ⟨rfl, ro_line0 hl, trivial⟩
    · rw [q, if_neg (show ¬ (1 : Int32) = 0 by decide), if_neg (show ¬ (1 : Int32) = 0 by decide), if_neg (show ¬ (1 : Int32) = 0 by decide), riderIn_n (by omega), rf_seat hl (by omega)]
      exact ⟨hs.1.g (LE hl (by omega)), ro_line0 hl, ro_seat hl (by omega), trivial⟩
theorem n_station {X Y : gM} (h : SE (vw 0 X) (Y 1)) (a1 a2 : Int32) : f_X8_station X a1 a2 = f_X9_station Y a1 a2 ∧ ok_X9_station Y a1 a2 := by
  obtain ⟨tc, oc, sl, ph, mn, hs⟩ := h
  rw [← sR_id (Y := Y)]
  generalize Y 1 = r at hs ⊢
  have h40 := hs.tc4
  unfold f_X8_station f_X9_station ok_X9_station
  obtain ⟨hA, hok⟩ := station_arg (Y := Y) hs a1
  rcases hA with ⟨e1, e2⟩ | ⟨l, n, hl, hn, rfl, e1, e2⟩
  · rw [e1, e2, if_pos rfl, if_pos rfl]
    exact ⟨rfl, hok, trivial⟩
  · have hn6 : n < 6 := Nat.lt_of_lt_of_le hn (hs.mn6 hl)
    have hA : 74 + 10 * (6 * l + n) < 194 := by omega
    rw [e1, e2, if_neg (show ¬ (1 : Int32) = 0 by decide), if_neg (show ¬ (1 : Int32) = 0 by decide), st_at hl hn6]
    simp only [gOpt]
    rw [nS_lin hl hn6, nS_sta hl hn6, lineOf_n hl]
    by_cases h0 : a2 = 0
    · subst h0
      rw [if_pos rfl, if_pos rfl, if_pos rfl, iS0 (by omega)]
      exact ⟨hs.1.g (LS0 hl hn6), hok, vS0 (by omega), trivial⟩
    rw [if_neg h0, if_neg h0, if_neg h0]
    by_cases h1 : a2 = 1
    · subst h1
      obtain ⟨k, hk, s1, s2, s3⟩ := slot_sim (Y := Y) hs hl hn
      rw [if_pos rfl, if_pos rfl, if_pos rfl, s1, s2]
      exact ⟨rfl, hok, s3, trivial⟩
    rw [if_neg h1, if_neg h1, if_neg h1]
    by_cases h2 : a2 = 2
    · subst h2
      obtain ⟨o1, o2⟩ := R_waitMany (Y := Y) (nI (10 * l + n)) hs.r1 h40
      rw [if_pos rfl, if_pos rfl, if_pos rfl, o1, X_queueLength (r := r) (nI (10 * l + n)) (by rw [hs.1.g LK1, hs.r1]) h40 (fun t ht => queue_w hs hl hn6 ht)]
      exact ⟨rfl, hok, o2, trivial⟩
    rw [if_neg h2, if_neg h2, if_neg h2]
    by_cases h3 : a2 = 3
    · subst h3
      rw [if_pos rfl, if_pos rfl, if_pos rfl, show (nI (74 + 10 * (6 * l + n)) + 3 : Int32) - 2 = nI (74 + 10 * (6 * l + n) + 1) from iA (w := 1), c1 (by omega)]
      exact ⟨hs.1.g (LS1 hl hn6), hok, vp_in_nI (by omega) (by decide), trivial⟩
    rw [if_neg h3, if_neg h3, if_neg h3]
    by_cases h4 : a2 = 4
    · subst h4
      rw [if_pos rfl, if_pos rfl, if_pos rfl, show (nI (74 + 10 * (6 * l + n)) + 4 : Int32) - 2 = nI (74 + 10 * (6 * l + n) + 2) from iA (w := 2), c1 (by omega)]
      exact ⟨hs.1.g (LS2 hl hn6), hok, vp_in_nI (by omega) (by decide), trivial⟩
    rw [if_neg h4, if_neg h4, if_neg h4]
    by_cases h5 : a2 = 5
    · subst h5
      rw [if_pos rfl, if_pos rfl, if_pos rfl, show (nI (74 + 10 * (6 * l + n)) + 5 : Int32) - 2 = nI (74 + 10 * (6 * l + n) + 3) from iA (w := 3), c1 (by omega)]
      exact ⟨hs.1.g (LS3 hl hn6), hok, vp_in_nI (by omega) (by decide), trivial⟩
    rw [if_neg h5, if_neg h5, if_neg h5]
    by_cases h6 : a2 = 6
    · subst h6
      rw [if_pos rfl, if_pos rfl, if_pos rfl, show (nI (74 + 10 * (6 * l + n)) + 6 : Int32) - 2 = nI (74 + 10 * (6 * l + n) + 4) from iA (w := 4), c1 (by omega)]
      exact ⟨hs.1.g (LS4 hl hn6), hok, vp_in_nI (by omega) (by decide), trivial⟩
    rw [if_neg h6, if_neg h6, if_neg h6]
    by_cases h7 : a2 = 7
    · subst h7
      rw [if_pos rfl, if_pos rfl, if_pos rfl, show (nI (74 + 10 * (6 * l + n)) + 7 : Int32) - 2 = nI (74 + 10 * (6 * l + n) + 5) from iA (w := 5), c1 (by omega)]
      exact ⟨hs.1.g (LS5 hl hn6), hok, vp_in_nI (by omega) (by decide), trivial⟩
    rw [if_neg h7, if_neg h7, if_neg h7]
    by_cases h8 : a2 = 8
    · subst h8
      obtain ⟨hR, ho⟩ := next_sim (Y := Y) hs hl hn
      rw [if_pos rfl, if_pos rfl, if_pos rfl]
      refine ⟨?_, hok, ho, trivial⟩
      rcases hR with ⟨q1, q2⟩ | ⟨u, u1, u2, u3, u4⟩
      · rw [q1, q2]
        rfl
      · rw [u3, u4]
        show f_X8_numberOf_R (vw 0 X) (35 + 2 * u) = nI u
        unfold f_X8_numberOf_R
        rw [nT_tic]
    rw [if_neg h8, if_neg h8, if_neg h8]
    exact ⟨rfl, hok, trivial⟩
theorem n_calls {X Y : gM} (h : SE (vw 0 X) (Y 1)) (a1 a2 : Int32) : f_X8_calls X a1 a2 = f_X9_calls Y a1 a2 ∧ ok_X9_calls Y a1 a2 := by
  obtain ⟨tc, oc, sl, ph, mn, hs⟩ := h
  rw [← sR_id (Y := Y)]
  generalize Y 1 = r at hs ⊢
  unfold f_X8_calls f_X9_calls ok_X9_calls
  obtain ⟨hA, hok⟩ := station_arg (Y := Y) hs a1
  rcases hA with ⟨e1, e2⟩ | ⟨l, n, hl, hn, rfl, e1, e2⟩
  · rw [e1, e2, if_pos rfl, if_pos rfl]
    exact ⟨rfl, hok, trivial⟩
  · have hn6 : n < 6 := Nat.lt_of_lt_of_le hn (hs.mn6 hl)
    obtain ⟨-, q, q3, e5⟩ := hs.sta hl hn
    have hA : 74 + 10 * (6 * l + n) < 194 := by omega
    rw [e1, e2, if_neg (show ¬ (1 : Int32) = 0 by decide), if_neg (show ¬ (1 : Int32) = 0 by decide), st_at hl hn6]
    simp only [gOpt]
    by_cases h0 : 0 ≤ a2
    · rw [if_pos h0, if_pos h0, if_pos h0, iS5 (by omega)]
      have y5 : sR Y r 1 (74 + 10 * (6 * l + n) + 5) = nI q := e5
      rw [y5]
      rcases c_at (Z := vw 0 X) (c := 1 + 15 * l + 2 + 1 + 2 * n) (by rw [hs.1.g (LS5 hl hn6), e5]) q3 h0 with ⟨w1, w2⟩ | ⟨k, hk, rfl, w2⟩
      · rw [w2, if_pos w1, if_pos w1]
        exact ⟨rfl, hok, vS5 (by omega), trivial⟩
      · have hle : ¬ nI q ≤ nI k := nI_ge hk (by omega)
        rw [w2, if_neg hle, if_neg hle, i6k (by omega)]
        exact ⟨hs.1.g (LV hl hn6 (by omega)), hok, vS5 (by omega), v6k (by omega), trivial⟩
    · rw [if_neg h0, if_neg h0, if_neg h0]
      exact ⟨rfl, hok, trivial⟩
theorem n_ticket {X Y : gM} (h : SE (vw 0 X) (Y 1)) (a1 a2 : Int32) : f_X8_ticket X a1 a2 = f_X9_ticket Y a1 a2 ∧ ok_X9_ticket Y a1 a2 := by
  obtain ⟨tc, oc, sl, ph, mn, hs⟩ := h
  rw [← sR_id (Y := Y)]
  generalize Y 1 = r at hs ⊢
  have h40 := hs.tc4
  unfold f_X8_ticket f_X9_ticket ok_X9_ticket
  rcases ticket_arg (Y := Y) hs a1 with ⟨e1, e2⟩ | ⟨t, ht, rfl, e1, e2⟩
  · rw [e1, e2, if_pos rfl, if_pos rfl]
    exact ⟨rfl, trivial⟩
  · have ht4 : t < 40 := by omega
    rw [e1, e2, if_neg (show ¬ (1 : Int32) = 0 by decide), if_neg (show ¬ (1 : Int32) = 0 by decide), in_eq]
    simp only [gOpt]
    rcases in_arg (N := 13) (by omega) a2 with q | ⟨q, k, hk, rfl⟩
    · have q' : f_X8_within a2 0 13 = 0 := q
      rw [q', if_pos rfl, if_pos rfl]
      have ne : ∀ k, k ≤ 13 → a2 ≠ nI k := by
        rintro k hk rfl
        have := (show ∀ k, k ≤ 13 → f_X8_within (nI k) 0 13 = 1 by decide +kernel) k hk
        rw [q'] at this
        exact absurd this (by decide)
      rw [if_neg (show ¬ a2 = 0 from ne 0 (by omega)), if_neg (show ¬ a2 = 1 from ne 1 (by omega)), if_neg (show ¬ a2 = 2 from ne 2 (by omega)), if_neg (show ¬ a2 = 3 from ne 3 (by omega)), if_neg (show ¬ a2 = 4 from ne 4 (by omega)), if_neg (show ¬ a2 = 5 from ne 5 (by omega)), if_neg (show ¬ a2 = 6 from ne 6 (by omega)), if_neg (show ¬ a2 = 7 from ne 7 (by omega)), if_neg (show ¬ a2 = 8 from ne 8 (by omega)), if_neg (show ¬ a2 = 9 from ne 9 (by omega)), if_neg (show ¬ a2 = 10 from ne 10 (by omega)), if_neg (show ¬ a2 = 11 from ne 11 (by omega)), if_neg (show ¬ a2 = 12 from ne 12 (by omega)), if_neg (show ¬ a2 = 13 from ne 13 (by omega))]
      exact ⟨rfl, trivial⟩
    · have q' : f_X8_within (nI k) 0 13 = 1 := q
      rw [q', if_neg (show ¬ (1 : Int32) = 0 by decide), if_neg (show ¬ (1 : Int32) = 0 by decide), rf_of ht4 (by omega)]
      refine ⟨?_, ro_of ht4 (by omega), trivial⟩
      rcases (show k = 0 ∨ k = 1 ∨ k = 2 ∨ k = 3 ∨ k = 4 ∨ k = 5 ∨ k = 6 ∨ k = 7 ∨ k = 8 ∨ k = 9 ∨ k = 10 ∨ k = 11 ∨ k = 12 ∨ k = 13 by omega) with rfl | rfl | rfl | rfl | rfl | rfl | rfl | rfl | rfl | rfl | rfl | rfl | rfl | rfl
      · exact hs.1.g (LT0 ht4)
      · exact hs.1.g (LT1 ht4)
      · exact hs.1.g (LT2 ht4)
      · exact hs.1.g (LT3 ht4)
      · exact hs.1.g (LT4 ht4)
      · exact hs.1.g (LT5 ht4)
      · exact hs.1.g (LT6 ht4)
      · exact hs.1.g (LT7 ht4)
      · exact hs.1.g (LT8 ht4)
      · exact hs.1.g (LT9 ht4)
      · exact hs.1.g (LT10 ht4)
      · exact hs.1.g (LT11 ht4)
      · exact hs.1.g (LT12 ht4)
      · exact hs.1.g (LT13 ht4)
theorem n_ordered {X Y : gM} (h : SE (vw 0 X) (Y 1)) (a1 a2 : Int32) : f_X8_ordered X a1 a2 = f_X9_ordered Y a1 a2 ∧ ok_X9_ordered Y a1 a2 := by
  obtain ⟨tc, oc, sl, ph, mn, hs⟩ := h
  rw [← sR_id (Y := Y)]
  generalize Y 1 = r at hs ⊢
  have h4 := hs.oc4
  unfold f_X8_ordered f_X9_ordered ok_X9_ordered
  rcases order_arg (Y := Y) hs a1 with ⟨e1, e2⟩ | ⟨o, ho, rfl, e1, e2⟩
  · rw [e1, e2, if_pos rfl, if_pos rfl]
    exact ⟨rfl, trivial⟩
  · have ho4 : o < 4 := by omega
    rw [e1, e2, if_neg (show ¬ (1 : Int32) = 0 by decide), if_neg (show ¬ (1 : Int32) = 0 by decide), in_eq]
    simp only [gOpt]
    rcases in_arg (N := 6) (by omega) a2 with q | ⟨q, k, hk, rfl⟩
    · have q' : f_X8_within a2 0 6 = 0 := q
      rw [q', if_pos rfl, if_pos rfl]
      have ne : ∀ k, k ≤ 6 → a2 ≠ nI k := by
        rintro k hk rfl
        have := (show ∀ k, k ≤ 6 → f_X8_within (nI k) 0 6 = 1 by decide +kernel) k hk
        rw [q'] at this
        exact absurd this (by decide)
      rw [if_neg (show ¬ a2 = 0 from ne 0 (by omega)), if_neg (show ¬ a2 = 1 from ne 1 (by omega)), if_neg (show ¬ a2 = 2 from ne 2 (by omega)), if_neg (show ¬ a2 = 3 from ne 3 (by omega)), if_neg (show ¬ a2 = 4 from ne 4 (by omega)), if_neg (show ¬ a2 = 5 from ne 5 (by omega)), if_neg (show ¬ a2 = 6 from ne 6 (by omega))]
      exact ⟨rfl, trivial⟩
    · have q' : f_X8_within (nI k) 0 6 = 1 := q
      rw [q', if_neg (show ¬ (1 : Int32) = 0 by decide), if_neg (show ¬ (1 : Int32) = 0 by decide), iO (by omega)]
      refine ⟨?_, vO (by omega), trivial⟩
      rcases (show k = 0 ∨ k = 1 ∨ k = 2 ∨ k = 3 ∨ k = 4 ∨ k = 5 ∨ k = 6 by omega) with rfl | rfl | rfl | rfl | rfl | rfl | rfl
      · exact hs.1.g (LO0 ho4)
      · exact hs.1.g (LO1 ho4)
      · exact hs.1.g (LO2 ho4)
      · exact hs.1.g (LO3 ho4)
      · have eo := (hs.ord ho).2.1
        have e : vw 0 X (115 + 2 * o) 5 = r (194 + 10 * o + 4) := hs.1.g (LO4 ho4)
        show (if gBit (vw 0 X (115 + 2 * o) 5) = 0 then (0 : Int32) else 1) = r (194 + 10 * o + 4)
        rw [e, gBit_01 eo]
        rcases eo with z | z <;> rw [z] <;> rfl
      · exact hs.1.g (LO5 ho4)
      · exact hs.1.g (LO6 ho4)
theorem n_event {X Y : gM} (h : SE (vw 0 X) (Y 1)) (a1 a2 : Int32) : f_X8_event X a1 a2 = f_X9_event Y a1 a2 ∧ ok_X9_event Y a1 a2 := by
  obtain ⟨tc, oc, sl, ph, mn, hs⟩ := h
  obtain ⟨kn, nx, b1, b2, b3, b4, b5, b6⟩ := hs.2.2.1
  unfold f_X8_event f_X9_event ok_X9_event
  by_cases h0 : a1 < 0
  · rw [if_pos h0, if_pos h0, if_pos h0]
    exact ⟨rfl, trivial⟩
  · rw [if_neg h0, if_neg h0, if_neg h0, in_eq]
    rcases in_arg (N := 4) (by omega) a2 with q | ⟨q, j, hj, rfl⟩
    · have q' : f_X8_within a2 0 4 = 0 := q
      rw [q', if_pos rfl, if_pos rfl, if_pos rfl]
      exact ⟨rfl, trivial⟩
    · have q' : f_X8_within (nI j) 0 4 = 1 := q
      have y9 : Y 1 9 = nI kn := b4
      rw [q', if_neg (show ¬ (1 : Int32) = 0 by decide), if_neg (show ¬ (1 : Int32) = 0 by decide), if_neg (show ¬ (1 : Int32) = 0 by decide), y9]
      unfold f_X1_told
      rw [b3]
      rcases in_sub (b := kn) (by omega) a1 with w | ⟨w, b, hb, rfl⟩
      · have hle : nI kn ≤ a1 := by
          obtain ⟨k, hk, rfl⟩ := nI_of h0
          rw [nI_leI (by omega) hk]
          by_cases hk2 : k < kn
          · rw [within_n hk (by omega) hk2] at w
            exact absurd w (by decide)
          · omega
        rw [w, if_pos rfl, if_pos hle, if_pos hle]
        exact ⟨rfl, trivial⟩
      · have hle : ¬ nI kn ≤ nI b := nI_ge hb (by omega)
        have em : f_J9_floorMod_7cf53 (((nI nx) - 1) - nI b) 12 * 5 + nI j = nI ((nx + 11 - b) % 12 * 5 + j) := by
          have e1 : f_J9_floorMod_7cf53 (((nI nx) - 1) - nI b) 12 = nI ((nx + 11 - b) % 12) := (show ∀ nx, nx < 12 → ∀ b, b < 12 → f_J9_floorMod_7cf53 (((nI nx) - 1) - nI b) 12 = nI ((nx + 11 - b) % 12) by decide +kernel) nx b2 b (by omega)
          rw [e1]
          show nI _ * nI 5 + nI j = _
          rw [nI_mul, nI_add]
        have ei : f_X8_within (nI ((nx + 11 - b) % 12 * 5 + j)) 0 59 = 1 := (show ∀ k, k < 60 → f_X8_within (nI k) 0 59 = 1 by decide +kernel) _ (by omega)
        rw [w, if_neg (show ¬ (1 : Int32) = 0 by decide), if_neg hle, if_neg hle, b5, em, ei, if_neg (show ¬ (1 : Int32) = 0 by decide), c1 (by omega), i5 (by omega)]
        exact ⟨b6 b j hb (by omega), v5 (by omega), trivial⟩
theorem n_waiting {X Y : gM} (h : SE (vw 0 X) (Y 1)) (a1 a2 : Int32) : f_X8_waiting X a1 a2 = f_X9_waiting Y a1 a2 ∧ ok_X9_waiting Y a1 a2 := by
  obtain ⟨tc, oc, sl, ph, mn, hs⟩ := h
  rw [← sR_id (Y := Y)]
  generalize Y 1 = r at hs ⊢
  have h40 := hs.tc4
  unfold f_X8_waiting f_X9_waiting ok_X9_waiting
  obtain ⟨hA, hok⟩ := station_arg (Y := Y) hs a1
  rcases hA with ⟨e1, e2⟩ | ⟨l, n, hl, hn, rfl, e1, e2⟩
  · rw [e1, e2, if_pos rfl, if_pos rfl]
    exact ⟨rfl, hok, trivial⟩
  · have hn6 : n < 6 := Nat.lt_of_lt_of_le hn (hs.mn6 hl)
    rw [e1, e2, if_neg (show ¬ (1 : Int32) = 0 by decide), if_neg (show ¬ (1 : Int32) = 0 by decide)]
    simp only [gOpt]
    rw [nS_lin hl hn6, nS_sta hl hn6]
    by_cases h0 : 0 ≤ a2
    · rw [if_pos h0, if_pos h0, if_pos h0]
      obtain ⟨p, hp, rfl⟩ := nI_of (Int32.not_lt.mpr h0)
      generalize ha : nI (10 * l + n) = a at *
      have hkd : ∀ u, u < tc → ∃ k, 1 ≤ k ∧ k ≤ 3 ∧ r (294 + 17 * u + 1) = nI k := fun u hu => (hs.tik hu).1
      have W : ∀ d k f, k + d = tc → d < f → ((∃ t, t < tc ∧ bWt r a t = true ∧ cn (bAh r a t) tc = p ∧ lf_X9_waiting_19 (sR Y r) a (nI p) (fun _ => (-5)) f k = nI t) ∨ ((∀ u, k ≤ u → u < tc → ¬ (bWt r a u = true ∧ cn (bAh r a u) tc = p)) ∧ lf_X9_waiting_19 (sR Y r) a (nI p) (fun _ => (-5)) f k = (-5))) ∧ lok_X9_waiting_19 (sR Y r) a (nI p) (fun _ => True) f k := by
        intro d
        induction d with
        | zero =>
          intro k f hk hf
          obtain ⟨g, rfl⟩ : ∃ g, f = g + 1 := ⟨f - 1, by omega⟩
          have : k = tc := by omega
          subst this
          have y1 : sR Y r 1 1 = nI k := hs.r1
          have hle : nI k ≤ nI k := nI_le (Nat.le_refl _) (by omega)
          simp only [lf_X9_waiting_19, lok_X9_waiting_19, y1, if_pos hle]
          exact ⟨Or.inr ⟨fun u h1 h2 => by omega, trivial⟩, trivial⟩
        | succ d ih =>
          intro k f hk hf
          obtain ⟨g, rfl⟩ : ∃ g, f = g + 1 := ⟨f - 1, by omega⟩
          have hk4 : k < 40 := by omega
          have y1 : sR Y r 1 1 = nI tc := hs.r1
          have hle : ¬ nI tc ≤ nI k := nI_ge (by omega) (by omega)
          have hw := R_isWaiting (Y := Y) (r := r) a hk4
          obtain ⟨ah1, ah2⟩ := R_ahead (Y := Y) (a := a) hs.r1 h40 (show k < tc by omega)
          obtain ⟨i1, i2⟩ := ih (k + 1) g (by omega) (by omega)
          have cl := cn_le (bAh r a k) tc
          simp only [lf_X9_waiting_19, lok_X9_waiting_19, y1, if_neg hle, hw.1, hw.2, ah1, ah2, true_and]
          have pass : ¬ (bWt r a k = true ∧ cn (bAh r a k) tc = p) → ((∃ t, t < tc ∧ bWt r a t = true ∧ cn (bAh r a t) tc = p ∧ lf_X9_waiting_19 (sR Y r) a (nI p) (fun _ => (-5)) g (k + 1) = nI t) ∨ ((∀ u, k ≤ u → u < tc → ¬ (bWt r a u = true ∧ cn (bAh r a u) tc = p)) ∧ lf_X9_waiting_19 (sR Y r) a (nI p) (fun _ => (-5)) g (k + 1) = (-5))) := by
            intro hno
            rcases i1 with q | ⟨q1, q2⟩
            · exact Or.inl q
            · refine Or.inr ⟨fun u h1 h2 => ?_, q2⟩
              by_cases hu : u = k
              · rw [hu]
                exact hno
              · exact q1 u (by omega) h2
          by_cases hb : bWt r a k = true
          · simp only [if_pos hb, if_neg (show ¬ (1 : Int32) = 0 by decide)]
            by_cases hc : cn (bAh r a k) tc = p
            · simp only [if_pos (show nI (cn (bAh r a k) tc) = nI p by rw [hc])]
              exact ⟨Or.inl ⟨k, by omega, hb, hc, rfl⟩, trivial⟩
            · have hc' : ¬ nI (cn (bAh r a k) tc) = nI p := fun z => hc (nI_inj (by omega) hp z)
              simp only [if_neg hc']
              exact ⟨pass (fun z => hc z.2), i2⟩
          · simp only [if_neg hb, if_true]
            exact ⟨pass (fun z => hb z.1), i2⟩
      obtain ⟨w1, w2⟩ := W tc 0 2147483648 (by omega) (by omega)
      refine ⟨?_, hok, w2⟩
      have hq : ∀ t, t < tc → (f_X5_queue (vw 0 X) (35 + 2 * t) = a ↔ bWt r a t = true) := fun t ht => by rw [← ha]; exact queue_w hs hl hn6 ht
      have m1 : ∀ t κ, t < tc → wk r a κ t = true → bWt r a t = true ∧ r (294 + 17 * t + 1) = nI κ := fun t κ _ hw => by simpa [wk] using hw
      have kk : ∀ t, t < tc → bWt r a t = true → ∃ κ, 1 ≤ κ ∧ κ ≤ 3 ∧ wk r a κ t = true ∧ cn (bAh r a t) tc = sK r a tc κ + cn (wk r a κ) t ∧ cn (wk r a κ) t < cn (wk r a κ) tc := by
        intro t ht hb
        obtain ⟨κ, q1, q3, q⟩ := hkd t ht
        have hw : wk r a κ t = true := by simp [wk, hb, q]
        exact ⟨κ, q1, q3, hw, ahead_v hkd ht q q1 q3, cn_lt ht hw⟩
      have sk1 : sK r a tc 1 = cn (wk r a 3) tc + cn (wk r a 2) tc := rfl
      have sk2 : sK r a tc 2 = cn (wk r a 3) tc + 0 := rfl
      have sk3 : sK r a tc 3 = 0 + 0 := rfl
      rcases inQ_sim (X := vw 0 X) (by rw [hs.1.g LK1, hs.r1]) h40 hq (fun t ht => hs.1.g (LT1 (by omega))) hp with ⟨t, κ, z1, z3, ht, hw, ep, eq⟩ | ⟨hle, eq⟩
      · rw [eq]
        show f_X8_numberOf_R (vw 0 X) (35 + 2 * t) = _
        unfold f_X8_numberOf_R
        rw [nT_tic]
        obtain ⟨hb, hr⟩ := m1 t κ ht hw
        have hah := ahead_v (a := a) hkd ht hr z1 z3
        have hlt := cn_lt ht hw
        rcases w1 with ⟨t', t1, t2, t3, t4⟩ | ⟨hno, -⟩
        · rw [t4]
          obtain ⟨κ', y1, y3, y4, y5, y6⟩ := kk t' t1 t2
          have hκ : κ = κ' := by
            rcases (show κ = 1 ∨ κ = 2 ∨ κ = 3 by omega) with rfl | rfl | rfl <;> rcases (show κ' = 1 ∨ κ' = 2 ∨ κ' = 3 by omega) with rfl | rfl | rfl <;> first | rfl | (exfalso; omega)
          subst hκ
          have : t = t' := by
            rcases Nat.lt_or_ge t t' with q | q
            · have := cn_lt q hw
              omega
            · rcases Nat.lt_or_ge t' t with q' | q'
              · have := cn_lt q' y4
                omega
              · omega
          rw [this]
        · exact absurd ⟨hb, by omega⟩ (hno t (by omega) ht)
      · rw [eq]
        show f_X8_numberOf_N = _
        rcases w1 with ⟨t', t1, t2, t3, t4⟩ | ⟨-, e⟩
        · exfalso
          obtain ⟨κ', y1, y3, y4, y5, y6⟩ := kk t' t1 t2
          rcases (show κ' = 1 ∨ κ' = 2 ∨ κ' = 3 by omega) with rfl | rfl | rfl <;> omega
        · rw [e]
          rfl
    · rw [if_neg h0, if_neg h0, if_neg h0]
      exact ⟨rfl, hok, trivial⟩
theorem n_count {X U Y : gM} (h : SE (vw 0 X) (Y 1)) (h2 : SE (vw 0 U) (Y 1)) (a1 : Int32) (h19 : ¬ a1 = 19) (h20 : ¬ a1 = 20) : f_X8_count X a1 = f_X8_count U a1 := by
  obtain ⟨tc, oc, sl, ph, mn, hs⟩ := h
  obtain ⟨tc', oc', sl', ph', mn', hs'⟩ := h2
  have h40 := hs.tc4
  have h40' := hs'.tc4
  have et : tc = tc' := nI_inj (by omega) (by omega) (hs.r1.symm.trans hs'.r1)
  subst et
  have g : ∀ i c j, LC i c j → vw 0 X c j = vw 0 U c j := fun i c j hl => (hs.1.g hl).trans (hs'.1.g hl).symm
  unfold f_X8_count
  rw [g _ _ _ LK0, g _ _ _ LK1, g _ _ _ LK2, g _ _ _ LK3, g _ _ _ LK4, g _ _ _ LK5, g _ _ _ LK6, g _ _ _ LK7, g _ _ _ LK8, X_countIn (X := vw 0 X) (r := Y 1) (a1 - 2) (by rw [hs.1.g LK1, hs.r1]) h40 (fun t ht => hs.1.g (LT6 (by omega))), X_countIn (X := vw 0 U) (r := Y 1) (a1 - 2) (by rw [hs'.1.g LK1, hs'.r1]) h40 (fun t ht => hs'.1.g (LT6 (by omega)))]
  simp only [if_neg h19, if_neg h20]
