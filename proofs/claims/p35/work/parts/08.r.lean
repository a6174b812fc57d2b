section TOLD2
variable {X Y : gM}
theorem c_at {Z : gM} {c q : Nat} (h4 : Z c 4 = nI q) (hq : q ≤ 3) {a : Int32} (ha : 0 ≤ a) : (nI q ≤ a ∧ f_X4_callAt Z c a = (-5)) ∨ ∃ k, k < q ∧ a = nI k ∧ f_X4_callAt Z c a = Z (c + 1) k := by
  have n0 : ¬ a < 0 := Int32.not_lt.mpr ha
  unfold f_X4_callAt
  rw [if_neg n0, h4]
  by_cases hle : nI q ≤ a
  · rw [if_pos hle]
    exact Or.inl ⟨hle, rfl⟩
  · obtain ⟨k, hk, rfl⟩ := nI_of n0
    rw [nI_leI (by omega) hk] at hle
    rw [if_neg (nI_ge (by omega) (by omega)), if_neg (show ¬ (3 : Int32) ≤ nI k from nI_ge (b := 3) (by omega) (by decide)), c1 hk]
    exact Or.inr ⟨k, by omega, rfl, rfl⟩
theorem q_calls (h : Rl X Y) (a1 a2 : Int32) : f_X8_calls X a1 a2 = f_X9_calls Y a1 a2 ∧ ok_X9_calls Y a1 a2 := by
  obtain ⟨tc, oc, sl, ph, mn, hs⟩ := h.1
  rw [← sR_id (Y := Y)]
  generalize Y 1 = r at hs ⊢
  unfold f_X8_calls f_X9_calls ok_X9_calls
  obtain ⟨hA, hok⟩ := station_arg (Y := Y) hs a1
  rcases hA with ⟨e1, e2⟩ | ⟨l, n, hl, hn, rfl, e1, e2⟩
  · rw [e1, e2, if_pos rfl, if_pos rfl]
    exact ⟨rfl, hok, trivial⟩
  · have hn6 : n < 6 := Nat.lt_of_lt_of_le hn (hs.mn6 hl)
    obtain ⟨-, q, q3, e5⟩ := hs.sta hl hn
    have hA : 74 + 10 * (6 * l + n) < 194 := by omega
    rw [e1, e2, if_neg (show ¬ (1 : Int32) = 0 by decide), if_neg (show ¬ (1 : Int32) = 0 by decide), st_at hl hn6]
    simp only [gOpt]
    by_cases h0 : 0 ≤ a2
    · rw [if_pos h0, if_pos h0, if_pos h0, iS5 (by omega)]
      have y5 : sR Y r 1 (74 + 10 * (6 * l + n) + 5) = nI q := e5
      rw [y5]
      rcases c_at (Z := vw 0 X) (c := 1 + 15 * l + 2 + 1 + 2 * n) (by rw [hs.1.g (LS5 hl hn6), e5]) q3 h0 with ⟨w1, w2⟩ | ⟨k, hk, rfl, w2⟩
      · rw [w2, if_pos w1, if_pos w1]
        exact ⟨rfl, hok, vS5 (by omega), trivial⟩
      · have hle : ¬ nI q ≤ nI k := nI_ge hk (by omega)
        rw [w2, if_neg hle, if_neg hle, i6k (by omega)]
        exact ⟨hs.1.g (LV hl hn6 (by omega)), hok, vS5 (by omega), v6k (by omega), trivial⟩
    · rw [if_neg h0, if_neg h0, if_neg h0]
      exact ⟨rfl, hok, trivial⟩
theorem q_ticket (h : Rl X Y) (a1 a2 : Int32) : f_X8_ticket X a1 a2 = f_X9_ticket Y a1 a2 ∧ ok_X9_ticket Y a1 a2 := by
  obtain ⟨tc, oc, sl, ph, mn, hs⟩ := h.1
  rw [← sR_id (Y := Y)]
  generalize Y 1 = r at hs ⊢
  have h40 := hs.tc4
  unfold f_X8_ticket f_X9_ticket ok_X9_ticket
  rcases ticket_arg (Y := Y) hs a1 with ⟨e1, e2⟩ | ⟨t, ht, rfl, e1, e2⟩
  · rw [e1, e2, if_pos rfl, if_pos rfl]
    exact ⟨rfl, trivial⟩
  · have ht4 : t < 40 := by omega
    rw [e1, e2, if_neg (show ¬ (1 : Int32) = 0 by decide), if_neg (show ¬ (1 : Int32) = 0 by decide), in_eq]
    simp only [gOpt]
    rcases in_arg (N := 13) (by omega) a2 with q | ⟨q, k, hk, rfl⟩
    · have q' : f_X8_within a2 0 13 = 0 := q
      rw [q', if_pos rfl, if_pos rfl]
      have ne : ∀ k, k ≤ 13 → a2 ≠ nI k := by
        rintro k hk rfl
        have := (show ∀ k, k ≤ 13 → f_X8_within (nI k) 0 13 = 1 by decide +kernel) k hk
        rw [q'] at this
        exact absurd this (by decide)
      rw [if_neg (show ¬ a2 = 0 from ne 0 (by omega)), if_neg (show ¬ a2 = 1 from ne 1 (by omega)), if_neg (show ¬ a2 = 2 from ne 2 (by omega)), if_neg (show ¬ a2 = 3 from ne 3 (by omega)), if_neg (show ¬ a2 = 4 from ne 4 (by omega)), if_neg (show ¬ a2 = 5 from ne 5 (by omega)), if_neg (show ¬ a2 = 6 from ne 6 (by omega)), if_neg (show ¬ a2 = 7 from ne 7 (by omega)), if_neg (show ¬ a2 = 8 from ne 8 (by omega)), if_neg (show ¬ a2 = 9 from ne 9 (by omega)), if_neg (show ¬ a2 = 10 from ne 10 (by omega)), if_neg (show ¬ a2 = 11 from ne 11 (by omega)), if_neg (show ¬ a2 = 12 from ne 12 (by omega)), if_neg (show ¬ a2 = 13 from ne 13 (by omega))]
      exact ⟨rfl, trivial⟩
    · have q' : f_X8_within (nI k) 0 13 = 1 := q
      rw [q', if_neg (show ¬ (1 : Int32) = 0 by decide), if_neg (show ¬ (1 : Int32) = 0 by decide), rf_of ht4 (by omega)]
      refine ⟨?_, ro_of ht4 (by omega), trivial⟩
      rcases (show k = 0 ∨ k = 1 ∨ k = 2 ∨ k = 3 ∨ k = 4 ∨ k = 5 ∨ k = 6 ∨ k = 7 ∨ k = 8 ∨ k = 9 ∨ k = 10 ∨ k = 11 ∨ k = 12 ∨ k = 13 by omega) with rfl | rfl | rfl | rfl | rfl | rfl | rfl | rfl | rfl | rfl | rfl | rfl | rfl | rfl
      · exact hs.1.g (LT0 ht4)
      · exact hs.1.g (LT1 ht4)
      · exact hs.1.g (LT2 ht4)
      · exact hs.1.g (LT3 ht4)
      · exact hs.1.g (LT4 ht4)
      · exact hs.1.g (LT5 ht4)
      · exact hs.1.g (LT6 ht4)
      · exact hs.1.g (LT7 ht4)
      · exact hs.1.g (LT8 ht4)
      · exact hs.1.g (LT9 ht4)
      · exact hs.1.g (LT10 ht4)
      · exact hs.1.g (LT11 ht4)
      · exact hs.1.g (LT12 ht4)
      · exact hs.1.g (LT13 ht4)
theorem iO {o w : Nat} (h : 194 + 10 * o + w < 2147483648) : ((194 + (10 * nI o)) + nI w).toNatClampNeg = 194 + 10 * o + w := by
  show ((nI 194 + nI 10 * nI o) + nI w).toNatClampNeg = _
  rw [nI_mul, nI_add, nI_add, c1 h]
theorem vO {o w : Nat} (h : 194 + 10 * o + w < 974) : vp_in ((194 + (10 * nI o)) + nI w) 974 := by
  show vp_in ((nI 194 + nI 10 * nI o) + nI w) 974
  rw [nI_mul, nI_add, nI_add]
  exact vp_in_nI h (by decide)
theorem q_ordered (h : Rl X Y) (a1 a2 : Int32) : f_X8_ordered X a1 a2 = f_X9_ordered Y a1 a2 ∧ ok_X9_ordered Y a1 a2 := by
  obtain ⟨tc, oc, sl, ph, mn, hs⟩ := h.1
  rw [← sR_id (Y := Y)]
  generalize Y 1 = r at hs ⊢
  have h4 := hs.oc4
  unfold f_X8_ordered f_X9_ordered ok_X9_ordered
  rcases order_arg (Y := Y) hs a1 with ⟨e1, e2⟩ | ⟨o, ho, rfl, e1, e2⟩
  · rw [e1, e2, if_pos rfl, if_pos rfl]
    exact ⟨rfl, trivial⟩
  · have ho4 : o < 4 := by omega
    rw [e1, e2, if_neg (show ¬ (1 : Int32) = 0 by decide), if_neg (show ¬ (1 : Int32) = 0 by decide), in_eq]
    simp only [gOpt]
    rcases in_arg (N := 6) (by omega) a2 with q | ⟨q, k, hk, rfl⟩
    · have q' : f_X8_within a2 0 6 = 0 := q
      rw [q', if_pos rfl, if_pos rfl]
      have ne : ∀ k, k ≤ 6 → a2 ≠ nI k := by
        rintro k hk rfl
        have := (show ∀ k, k ≤ 6 → f_X8_within (nI k) 0 6 = 1 by decide +kernel) k hk
        rw [q'] at this
        exact absurd this (by decide)
      rw [if_neg (show ¬ a2 = 0 from ne 0 (by omega)), if_neg (show ¬ a2 = 1 from ne 1 (by omega)), if_neg (show ¬ a2 = 2 from ne 2 (by omega)), if_neg (show ¬ a2 = 3 from ne 3 (by omega)), if_neg (show ¬ a2 = 4 from ne 4 (by omega)), if_neg (show ¬ a2 = 5 from ne 5 (by omega)), if_neg (show ¬ a2 = 6 from ne 6 (by omega))]
      exact ⟨rfl, trivial⟩
    · have q' : f_X8_within (nI k) 0 6 = 1 := q
      rw [q', if_neg (show ¬ (1 : Int32) = 0 by decide), if_neg (show ¬ (1 : Int32) = 0 by decide), iO (by omega)]
      refine ⟨?_, vO (by omega), trivial⟩
      rcases (show k = 0 ∨ k = 1 ∨ k = 2 ∨ k = 3 ∨ k = 4 ∨ k = 5 ∨ k = 6 by omega) with rfl | rfl | rfl | rfl | rfl | rfl | rfl
      · exact hs.1.g (LO0 ho4)
      · exact hs.1.g (LO1 ho4)
      · exact hs.1.g (LO2 ho4)
      · exact hs.1.g (LO3 ho4)
      · have eo := (hs.ord ho).2.1
        have e : vw 0 X (115 + 2 * o) 5 = r (194 + 10 * o + 4) := hs.1.g (LO4 ho4)
        show (if gBit (vw 0 X (115 + 2 * o) 5) = 0 then (0 : Int32) else 1) = r (194 + 10 * o + 4)
        rw [e, gBit_01 eo]
        rcases eo with z | z <;> rw [z] <;> rfl
      · exact hs.1.g (LO5 ho4)
      · exact hs.1.g (LO6 ho4)
theorem q_price (h : Rl X Y) (a1 a2 : Int32) : f_X8_price X a1 a2 = f_X9_price Y a1 a2 := by
  obtain ⟨tc, oc, sl, ph, mn, hs⟩ := h.1
  unfold f_X8_price f_X9_price
  rw [in_eq, in_eq]
  have e : f_X3_priceOf (vw 0 X) a1 a2 = f_X9_cost Y a1 a2 := by
    unfold f_X3_priceOf f_X9_cost
    rw [hs.1.g LK6]
  rw [e]
theorem i5 {b j : Nat} (h : 234 + 5 * b + j < 2147483648) : ((234 + (5 * nI b)) + nI j).toNatClampNeg = 234 + 5 * b + j := by
  show ((nI 234 + nI 5 * nI b) + nI j).toNatClampNeg = _
  rw [nI_mul, nI_add, nI_add, c1 h]
theorem v5 {b j : Nat} (h : 234 + 5 * b + j < 974) : vp_in ((234 + (5 * nI b)) + nI j) 974 := by
  show vp_in ((nI 234 + nI 5 * nI b) + nI j) 974
  rw [nI_mul, nI_add, nI_add]
  exact vp_in_nI h (by decide)
theorem q_event (h : Rl X Y) (a1 a2 : Int32) : f_X8_event X a1 a2 = f_X9_event Y a1 a2 ∧ ok_X9_event Y a1 a2 := by
  obtain ⟨tc, oc, sl, ph, mn, hs⟩ := h.1
  obtain ⟨kn, nx, b1, b2, b3, b4, b5, b6⟩ := hs.2.2.1
  unfold f_X8_event f_X9_event ok_X9_event
  by_cases h0 : a1 < 0
  · rw [if_pos h0, if_pos h0, if_pos h0]
    exact ⟨rfl, trivial⟩
  · rw [if_neg h0, if_neg h0, if_neg h0, in_eq]
    rcases in_arg (N := 4) (by omega) a2 with q | ⟨q, j, hj, rfl⟩
    · have q' : f_X8_within a2 0 4 = 0 := q
      rw [q', if_pos rfl, if_pos rfl, if_pos rfl]
      exact ⟨rfl, trivial⟩
    · have q' : f_X8_within (nI j) 0 4 = 1 := q
      have y9 : Y 1 9 = nI kn := b4
      rw [q', if_neg (show ¬ (1 : Int32) = 0 by decide), if_neg (show ¬ (1 : Int32) = 0 by decide), if_neg (show ¬ (1 : Int32) = 0 by decide), y9]
      unfold f_X1_told
      rw [b3]
      rcases in_sub (b := kn) (by omega) a1 with w | ⟨w, b, hb, rfl⟩
      · have hle : nI kn ≤ a1 := by
          obtain ⟨k, hk, rfl⟩ := nI_of h0
          rw [nI_leI (by omega) hk]
          by_cases hk2 : k < kn
          · rw [within_n hk (by omega) hk2] at w
            exact absurd w (by decide)
          · omega
        rw [w, if_pos rfl, if_pos hle, if_pos hle]
        exact ⟨rfl, trivial⟩
      · have hle : ¬ nI kn ≤ nI b := nI_ge hb (by omega)
        have em : f_J9_floorMod_7cf53 (((nI nx) - 1) - nI b) 12 * 5 + nI j = nI ((nx + 11 - b) % 12 * 5 + j) := by
          have e1 : f_J9_floorMod_7cf53 (((nI nx) - 1) - nI b) 12 = nI ((nx + 11 - b) % 12) := (show ∀ nx, nx < 12 → ∀ b, b < 12 → f_J9_floorMod_7cf53 (((nI nx) - 1) - nI b) 12 = nI ((nx + 11 - b) % 12) by decide +kernel) nx b2 b (by omega)
          rw [e1]
          show nI _ * nI 5 + nI j = _
          rw [nI_mul, nI_add]
        have ei : f_X8_within (nI ((nx + 11 - b) % 12 * 5 + j)) 0 59 = 1 := (show ∀ k, k < 60 → f_X8_within (nI k) 0 59 = 1 by decide +kernel) _ (by omega)
        rw [w, if_neg (show ¬ (1 : Int32) = 0 by decide), if_neg hle, if_neg hle, b5, em, ei, if_neg (show ¬ (1 : Int32) = 0 by decide), c1 (by omega), i5 (by omega)]
        exact ⟨b6 b j hb (by omega), v5 (by omega), trivial⟩
theorem q_count (h : Rl X Y) (a1 : Int32) : f_X8_count X a1 = f_X9_count Y a1 ∧ ok_X9_count Y a1 := by
  obtain ⟨tc, oc, sl, ph, mn, hs⟩ := h.1
  obtain ⟨hh, h4, k1, k2, -⟩ := h.2.1
  obtain ⟨m, m1, m2, m3, -⟩ := h.2.2.2.2
  have h40 := hs.tc4
  obtain ⟨o1, o2⟩ := R_inState (Y := Y) (a1 - 2) hs.r1 h40
  rw [sR_id] at o1 o2
  have g : ∀ i c j, LC i c j → vw 0 X c j = Y 1 i := fun i c j hl => hs.1.g hl
  have vl : vx X 0 2 = Y 0 7 := by
    show X (371 + 0) 2 = _
    rw [m3]
    exact m2
  unfold f_X8_count f_X9_count ok_X9_count
  rw [in_eq, g _ _ _ LK0, g _ _ _ LK1, g _ _ _ LK2, g _ _ _ LK3, g _ _ _ LK4, g _ _ _ LK5, g _ _ _ LK6, g _ _ _ LK7, g _ _ _ LK8, k1, ← k2, vl, o1, X_countIn (r := Y 1) (a1 - 2) (by rw [hs.1.g LK1, hs.r1]) h40 (fun t ht => hs.1.g (LT6 (by omega)))]
  refine ⟨rfl, ?_⟩
  split
  · trivial
  · exact ⟨o2, trivial⟩
end TOLD2
