/-! a station is served: both sides -/
theorem i_mod {a s : Nat} (ha : a < 50) (hs : s < 25) (h0 : 0 < s) : nI a - nI a / nI s * nI s = nI (a % s) := (show ∀ a, a < 50 → ∀ s, s < 25 → 0 < s → nI a - nI a / nI s * nI s = nI (a % s) by decide +kernel) a ha s hs h0
theorem upd_cg {f g : Nat → Int32} {k i : Nat} {x : Int32} (h : f i = g i) : upd f k x i = upd g k x i := by
  unfold upd
  split
  · rfl
  · exact h
theorem updM_sn' {X : gM} {c d j k : Nat} {v : Int32} (h : k ≠ j := by decide) : updM X c j v d k = X d k := by
  by_cases hc : d = c
  · subst hc
    exact updM_sn h
  · exact updM_n hc
theorem PS.unset {E : List Nat} {X : gM} {r : Nat → Int32} {i c j : Nat} {v : Int32} (hl : LC i c j) (h : PS E (updM X c j v) r) : PS (i :: E) X r := by
  obtain ⟨h1, rfl, rfl⟩ := hl
  intro k hk he
  have hki : k ≠ i := fun z => he (by rw [z]; exact List.mem_cons_self)
  rw [← h k hk (fun z => he (List.mem_cons_of_mem _ z))]
  by_cases hc : zc k = zc i
  · rw [hc, updM_sn (fun z => hki (z_inj hk h1 hc z))]
  · rw [updM_n hc]
/-- arrivals are counted -/
def AR (Y : gM) (r : Nat → Int32) (tc : Nat) (v : Int32) (r2 : Nat → Int32) (tc2 : Nat) : Prop := ∃ d, cn (bSt r2 3) tc2 = cn (bSt r 3) tc + d ∧ v = Y 0 8 + nI d
theorem AR.same {Y : gM} {r r2 : Nat → Int32} {tc tc2 : Nat} (h : cn (bSt r2 3) tc2 = cn (bSt r 3) tc) : AR Y r tc (Y 0 8) r2 tc2 := ⟨0, h, (Int32.add_zero _).symm⟩
theorem cn_st1 {r r2 : Nat → Int32} {tc t : Nat} (hs : ∀ u, u < tc → u ≠ t → r2 (294 + 17 * u + 6) = r (294 + 17 * u + 6)) (h1 : r (294 + 17 * t + 6) ≠ 3) (h2 : r2 (294 + 17 * t + 6) ≠ 3) : cn (bSt r2 3) tc = cn (bSt r 3) tc := by
  refine cn_cong tc (fun u hu => ?_)
  unfold bSt
  by_cases h : u = t
  · subst h
    simp [h1, h2]
  · rw [hs u hu h]
section ROWS8
variable {X Y : gM} {r : Nat → Int32} {tc oc : Nat} {sl ph mn : Nat → Nat} {l n t k u : Nat}
theorem within_n {a b : Nat} (ha : a < 2147483648) (hb : b < 2147483648) (h : a < b) : f_X8_within (nI a) 0 (nI b - 1) = 1 := by
  unfold f_X8_within
  have e : nI b - 1 = nI (b - 1) := by
    have := nI_pred (b - 1)
    rwa [show b - 1 + 1 = b by omega] at this
  rw [if_neg (nI_pos ha), e, if_neg (nI_nlt (by omega) (by omega))]
theorem ticketOf_n (h1 : X 0 5 = nI tc) (h40 : tc ≤ 40) (ht : t < tc) : f_X3_ticketOf X (nI t) = some (35 + 2 * t) := by
  unfold f_X3_ticketOf
  rw [h1, within_n (by omega) (by omega) ht, if_neg (by decide), if_neg (show ¬ (40 : Int32) ≤ nI t from nI_ge (b := 40) (by omega) (by decide)), c1 (by omega)]
theorem ticketOf_5 : f_X3_ticketOf X (-5) = none := by
  unfold f_X3_ticketOf f_X8_within
  rw [if_pos (show (-5 : Int32) < 0 by decide), if_pos rfl]
theorem riderIn_n {c : Nat} (hk : k < 24) : f_X0_riderIn X c (nI k) = X (c + 1) k := by
  have h : f_X8_within (nI k) 0 23 = 1 := (show ∀ k, k < 24 → f_X8_within (nI k) 0 23 = 1 by decide +kernel) k hk
  unfold f_X0_riderIn
  rw [h, if_neg (by decide), c1 (by omega)]
theorem slot_sim (h : SS X r tc oc sl ph mn) (hl : l < 2) (hn : n < mn l) : ∃ k, k < sl l ∧ f_X0_slotAt X (1 + 15 * l) (X (1 + 15 * l + 2 + 1 + 2 * n) 5) = nI k ∧ f_X9_slotAt (sR Y r) (nI (10 * l + n)) = nI k ∧ ok_X9_slotAt (sR Y r) (nI (10 * l + n)) := by
  have hn6 : n < 6 := Nat.lt_of_lt_of_le hn (h.mn6 hl)
  obtain ⟨⟨a1, a2, a3⟩, ⟨b1, b2⟩, -⟩ := h.lin hl
  obtain ⟨⟨o, o1, o2⟩, -⟩ := h.sta hl hn
  refine ⟨(ph l + o) % sl l, Nat.mod_lt _ (by omega), ?_, ?_, ?_⟩
  · unfold f_X0_slotAt f_X0_around
    rw [h.1.g (LL0 hl), h.1.g (LL1 hl), h.1.g (LS0 hl hn6), a1, b1, o2, if_neg (nI_nle (by omega) (by omega)), nI_add, i_mod (by omega) (by omega) (by omega)]
  · unfold f_X9_slotAt
    rw [st_div hl (by omega), rf_line1 hl, rf_line0 hl, st_at hl hn6, iS0 (by omega), sR_1, a1, b1, o2, nI_add, i_mod (by omega) (by omega) (by omega)]
  · unfold ok_X9_slotAt
    rw [st_div hl (by omega), rf_line0 hl, st_at hl hn6, sR_1, a1]
    exact ⟨ro_line1 hl, vS0 (by omega), ro_line0 hl, nI_ne0 (by omega) (by omega), trivial⟩
theorem rp_boards (hl : l < 2) (hn : n < 6) (hk : k < 24) (hu : u < 40) : p_X9_boards (sR Y r) (nI u) (nI (10 * l + n)) (nI k) = sR Y (rBoard r u l n k) ∧ ok_X9_boards (sR Y r) (nI u) (nI (10 * l + n)) (nI k) := by
  constructor
  · simp only [p_X9_boards, st_div hl (show n < 10 by omega), st_mod hl (show n < 10 by omega), rp_put6 hu, rp_put7 hu, rp_put8 hu, rp_put16 hu, rp_put10 hu, rf_of10 hu, sR_u1, sR_1, ri_seat hl hk, st_at hl hn, iS1 (show 74 + 10 * (6 * l + n) < 2000 by omega), rp_logs]
    simp (disch := omega) only [pk_us, pk_un]
    unfold rBoard
    by_cases hb : r (294 + 17 * u + 10) = (-5)
    · simp only [if_pos hb]
    · simp only [if_neg hb]
  · simp only [ok_X9_boards, st_div hl (show n < 10 by omega), st_mod hl (show n < 10 by omega), rp_put6 hu, rp_put7 hu, rp_put8 hu, rp_put16 hu, rp_put10 hu, ro_put6 hu, ro_put7 hu, ro_put8 hu, ro_put16 hu, ro_put10 hu, ro_of10 hu, rv_seat hl hk, ri_seat hl hk, st_at hl hn, vS1 (show 74 + 10 * (6 * l + n) + 1 < 974 by omega), ro_logs, implies_true, and_true, true_and, ite_self]
/-! what is lost at this station commutes with an end -/
theorem rOut_upd {i : Nat} {v z : Int32} (h1 : i ≠ 26 + 24 * l + k) (h2 : i ≠ 294 + 17 * t + 7) (h3 : i ≠ 294 + 17 * t + 8) (h4 : i ≠ 294 + 17 * t + 6) (h5 : i ≠ 294 + 17 * t + 11) (h6 : i ≠ 294 + 17 * t + 12) (h7 : i ≠ 5) (h8 : i ≠ 4) (h9 : i ≠ 0) (h10 : i ≠ 294 + 17 * t + 5) : rOut (upd r i v) (upd r i v) t l n k z = upd (rOut r r t l n k z) i v := by
  unfold rOut rEndC rRise
  rw [pk_un (Ne.symm h10), pk_un (Ne.symm h9), pk_un (Ne.symm h7), pk_un (Ne.symm h8)]
  funext y
  by_cases hy : y = i
  · subst hy
    rw [pk_us, pk_un h8, pk_un h7, pk_un h6, pk_un h5, pk_un h4, pk_un h3, pk_un h2, pk_un h1, pk_us]
  · rw [pk_un hy]
    exact upd_cg (upd_cg (upd_cg (upd_cg (upd_cg (upd_cg (upd_cg (upd_cg (pk_un hy))))))))
theorem rOut_drop {A j q : Nat} {z : Int32} (hA : A + 10 ≤ 194) (hA7 : 74 ≤ A) (hl : l < 2) (hk : k < 24) (hq : q ≤ 3) : rOut (rDrop r A j q) (rDrop r A j q) t l n k z = rDrop (rOut r r t l n k z) A j q := by
  have ro : ∀ (f : Nat → Int32) i, (i < A + 5 ∨ A + 9 ≤ i) → rDrop f A j q i = f i := by
    intro f i hi
    unfold rDrop
    rw [if_neg (by omega), if_neg (by omega)]
  unfold rOut rEndC rRise
  rw [ro r _ (by omega), ro r _ (by omega), ro r _ (by omega), ro r _ (by omega)]
  funext y
  by_cases hy : y < A + 5 ∨ A + 9 ≤ y
  · rw [ro _ y hy]
    exact upd_cg (upd_cg (upd_cg (upd_cg (upd_cg (upd_cg (upd_cg (upd_cg (ro r y hy))))))))
  · rw [pk_un (by omega), pk_un (by omega), pk_un (by omega), pk_un (by omega), pk_un (by omega), pk_un (by omega), pk_un (by omega), pk_un (by omega)]
    unfold rDrop
    by_cases h5 : y = A + 5
    · rw [if_pos h5, if_pos h5]
    · rw [if_neg h5, if_neg h5]
      by_cases hr : A + 6 + j ≤ y ∧ y < A + 5 + q
      · rw [if_pos hr, if_pos hr]
        rw [pk_un (by omega), pk_un (by omega), pk_un (by omega), pk_un (by omega), pk_un (by omega), pk_un (by omega), pk_un (by omega), pk_un (by omega)]
      · rw [if_neg hr, if_neg hr]
        rw [pk_un (by omega), pk_un (by omega), pk_un (by omega), pk_un (by omega), pk_un (by omega), pk_un (by omega), pk_un (by omega), pk_un (by omega)]
theorem rOut_6 {z : Int32} {u : Nat} (hl : l < 2) (hk : k < 24) : rOut r r t l n k z (294 + 17 * u + 6) = if u = t then z else r (294 + 17 * u + 6) := by
  unfold rOut rEndC rRise
  by_cases h : u = t
  · subst h
    rw [if_pos rfl]
    simp (disch := omega) only [pk_us, pk_un]
  · rw [if_neg h]
    simp (disch := omega) only [pk_us, pk_un]
theorem rOut_s {z : Int32} (hl : l < 2) (hk : k < 24) : rOut r r t l n k z (26 + 24 * l + k) = (-5) := by
  unfold rOut rEndC rRise
  simp (disch := omega) only [pk_us, pk_un]
end ROWS8
