/-! calls: the first with a value, its removal; both sides -/
def rDrop (r : Nat → Int32) (A j q : Nat) : Nat → Int32 := fun i => if i = A + 5 then nI (q - 1) else if A + 6 + j ≤ i ∧ i < A + 5 + q then r (i + 1) else r i
def rSh (r : Nat → Int32) (A k q : Nat) : Nat → Int32 := fun i => if A + 6 + k ≤ i ∧ i < A + 5 + q then r (i + 1) else r i
def xDrop (X : gM) (c j q : Nat) : gM := fun a b => if a = c ∧ b = 4 then nI (q - 1) else if a = c + 1 ∧ j ≤ b ∧ b + 1 < q then X a (b + 1) else X a b
def xSh (X : gM) (c k q : Nat) : gM := fun a b => if a = c + 1 ∧ k ≤ b ∧ b + 1 < q then X a (b + 1) else X a b
theorem i6k {A k : Nat} (h : A + 6 + k < 2147483648) : ((nI A + 6) + nI k).toNatClampNeg = A + 6 + k := by
  show ((nI A + nI 6) + nI k).toNatClampNeg = _
  rw [nI_add, nI_add, c1 h]
theorem i6k1 {A k : Nat} (h : A + 6 + k + 1 < 2147483648) : (((nI A + 6) + nI k) + 1).toNatClampNeg = A + 6 + k + 1 := by
  show (((nI A + nI 6) + nI k) + nI 1).toNatClampNeg = _
  rw [nI_add, nI_add, nI_add, c1 h]
theorem v6k {A k : Nat} (h : A + 6 + k < 974) : vp_in ((nI A + 6) + nI k) 974 := by
  show vp_in ((nI A + nI 6) + nI k) 974
  rw [nI_add, nI_add]
  exact vp_in_nI h (by decide)
theorem v6k1 {A k : Nat} (h : A + 6 + k + 1 < 974) : vp_in (((nI A + 6) + nI k) + 1) 974 := by
  show vp_in (((nI A + nI 6) + nI k) + nI 1) 974
  rw [nI_add, nI_add, nI_add]
  exact vp_in_nI h (by decide)
section CALLS
variable {X Y : gM} {r : Nat → Int32} {tc oc : Nat} {sl ph mn : Nat → Nat} {A c j q : Nat} {a1 a2 : Int32}
theorem drop_loop {K : gM → Int32 → gM} (hA : A + 10 < 974) (hq : q ≤ 3) : ∀ d k fuel r, k + d + 1 = q → d < fuel → r (A + 5) = nI (q - 1) → lf_X9_dropCall_20 a1 a2 (nI A) K fuel (sR Y r) (nI k) = K (sR Y (rSh r A k q)) (nI (k + d)) ∧ lok_X9_dropCall_20 a1 a2 (nI A) (fun _ _ => True) fuel (sR Y r) (nI k) := by
  intro d
  induction d with
  | zero =>
    intro k fuel r hk hf h5
    obtain ⟨g, rfl⟩ : ∃ g, fuel = g + 1 := ⟨fuel - 1, by omega⟩
    have e : rSh r A k q = r := by
      funext i
      unfold rSh
      rw [if_neg (by omega)]
    have hle : nI (q - 1) ≤ nI k := nI_le (by omega) (by omega)
    simp only [lf_X9_dropCall_20, lok_X9_dropCall_20, sR_1, iS5 (show A < 2000 by omega), h5, if_pos hle, e]
    exact ⟨rfl, vS5 (by omega), trivial⟩
  | succ d ih =>
    intro k fuel r hk hf h5
    obtain ⟨g, rfl⟩ : ∃ g, fuel = g + 1 := ⟨fuel - 1, by omega⟩
    have hle : ¬ nI (q - 1) ≤ nI k := nI_ge (by omega) (by omega)
    have e : rSh (upd r (A + 6 + k) (r (A + 6 + k + 1))) A (k + 1) q = rSh r A k q := by
      funext i
      unfold rSh
      by_cases h1 : A + 6 + k ≤ i ∧ i < A + 5 + q
      · rw [if_pos h1]
        by_cases h2 : i = A + 6 + k
        · subst h2
          rw [if_neg (by omega), pk_us]
        · rw [if_pos (by omega), pk_un (by omega)]
      · rw [if_neg h1, if_neg (by omega), pk_un (by omega)]
    have h5' : upd r (A + 6 + k) (r (A + 6 + k + 1)) (A + 5) = nI (q - 1) := by rw [pk_un (by omega), h5]
    obtain ⟨b1, b2⟩ := ih (k + 1) g (upd r (A + 6 + k) (r (A + 6 + k + 1))) (by omega) (by omega) h5'
    simp only [lf_X9_dropCall_20, lok_X9_dropCall_20, sR_1, iS5 (show A < 2000 by omega), h5, if_neg hle, i6k (show A + 6 + k < 2147483648 by omega), i6k1 (show A + 6 + k + 1 < 2147483648 by omega), sR_u1, nI_1]
    rw [b1, e, show k + 1 + d = k + (d + 1) by omega]
    refine ⟨rfl, vS5 (by omega), v6k1 (by omega), v6k (by omega), ?_⟩
    intro X1 e1
    subst e1
    exact b2
theorem R_drop {l n : Nat} (hl : l < 2) (hn : n < 6) (hq : q ≤ 3) (hj : j < q) (h5 : r (74 + 10 * (6 * l + n) + 5) = nI q) : p_X9_dropCall (sR Y r) (nI (10 * l + n)) (nI j) = sR Y (rDrop r (74 + 10 * (6 * l + n)) j q) ∧ ok_X9_dropCall (sR Y r) (nI (10 * l + n)) (nI j) := by
  have hA : 74 + 10 * (6 * l + n) < 194 := by omega
  generalize hAe : 74 + 10 * (6 * l + n) = A at *
  have em : nI q - 1 = nI (q - 1) := by
    have := nI_pred (q - 1)
    rwa [show q - 1 + 1 = q by omega] at this
  obtain ⟨b1, b2⟩ := drop_loop (Y := Y) (a1 := nI (10 * l + n)) (a2 := nI j) (K := fun X2 _ => X2) (A := A) (by omega) hq (q - 1 - j) j 4294967296 (upd r (A + 5) (nI (q - 1))) (by omega) (by omega) (by rw [pk_us])
  have e : rSh (upd r (A + 5) (nI (q - 1))) A j q = rDrop r A j q := by
    funext i
    unfold rSh rDrop
    by_cases h1 : i = A + 5
    · subst h1
      rw [if_neg (by omega), if_pos rfl, pk_us]
    · rw [if_neg h1, pk_un h1]
      by_cases h2 : A + 6 + j ≤ i ∧ i < A + 5 + q
      · rw [if_pos h2, if_pos h2, pk_un (by omega)]
      · rw [if_neg h2, if_neg h2]
  constructor
  · simp only [p_X9_dropCall, st_at hl hn, hAe, sR_1, iS5 (show A < 2000 by omega), h5, em, sR_u1]
    rw [b1, e]
  · simp only [ok_X9_dropCall, st_at hl hn, hAe, sR_1, iS5 (show A < 2000 by omega), h5, em, sR_u1]
    refine ⟨vS5 (by omega), vS5 (by omega), ?_⟩
    intro X1 e1
    subst e1
    exact b2
theorem rem_loop {K : gM → Nat → gM} (k1 : Nat) (hq : q ≤ 3) : ∀ d k fuel X, k + d + 1 = q → d < fuel → X c 4 = nI q → lf_X4_removeCall_15 c k1 K fuel X k = K (xSh X c k q) (k + d) := by
  intro d
  induction d with
  | zero =>
    intro k fuel X hk hf h4
    obtain ⟨g, rfl⟩ : ∃ g, fuel = g + 1 := ⟨fuel - 1, by omega⟩
    have e : xSh X c k q = X := by
      funext a b
      unfold xSh
      rw [if_neg (by omega)]
    have hle : nI q ≤ nI (k + 1) := nI_le (by omega) (by omega)
    simp only [lf_X4_removeCall_15, h4, if_pos hle, e, Nat.add_zero]
  | succ d ih =>
    intro k fuel X hk hf h4
    obtain ⟨g, rfl⟩ : ∃ g, fuel = g + 1 := ⟨fuel - 1, by omega⟩
    have hle : ¬ nI q ≤ nI (k + 1) := nI_ge (by omega) (by omega)
    have h3 : ¬ (3 : Int32) ≤ nI (k + 1) := nI_ge (b := 3) (by omega) (by decide)
    have e : xSh (updM X (c + 1) k (X (c + 1) (k + 1))) c (k + 1) q = xSh X c k q := by
      funext a b
      unfold xSh
      by_cases ha : a = c + 1
      · subst ha
        by_cases h1 : k ≤ b ∧ b + 1 < q
        · rw [if_pos (show c + 1 = c + 1 ∧ k ≤ b ∧ b + 1 < q from ⟨rfl, h1⟩)]
          by_cases h2 : b = k
          · subst h2
            rw [if_neg (by omega), updM_ss]
          · rw [if_pos (show c + 1 = c + 1 ∧ k + 1 ≤ b ∧ b + 1 < q from ⟨rfl, by omega⟩), updM_sn (by omega)]
        · rw [if_neg (show ¬ (c + 1 = c + 1 ∧ k ≤ b ∧ b + 1 < q) from fun z => h1 z.2), if_neg (show ¬ (c + 1 = c + 1 ∧ k + 1 ≤ b ∧ b + 1 < q) by omega), updM_sn (by omega)]
      · rw [if_neg (fun z => ha z.1), if_neg (fun z => ha z.1), updM_n ha]
    simp only [lf_X4_removeCall_15, h4, if_neg hle, if_neg h3]
    rw [ih (k + 1) g _ (by omega) (by omega) (by rw [updM_n (by omega), h4]), e, show k + 1 + d = k + (d + 1) by omega]
theorem X_remove (hq : q ≤ 3) (hj : j < q) (h4 : X c 4 = nI q) : p_X4_removeCall X c j = xDrop X c j q := by
  have em : nI q - 1 = nI (q - 1) := by
    have := nI_pred (q - 1)
    rwa [show q - 1 + 1 = q by omega] at this
  unfold p_X4_removeCall
  rw [if_neg (nI_pos (by omega)), h4, if_pos (nI_lt hj (by omega)), rem_loop j hq (q - 1 - j) j _ X (by omega) (by omega) h4]
  have e4 : xSh X c j q c 4 = nI q := by
    unfold xSh
    rw [if_neg (by omega), h4]
  dsimp only
  rw [e4, em]
  funext a b
  unfold xDrop
  by_cases ha : a = c
  · subst ha
    by_cases hb : b = 4
    · subst hb
      rw [if_pos ⟨rfl, rfl⟩, updM_ss]
    · rw [if_neg (fun z => hb z.2), updM_sn hb]
      rfl
  · rw [if_neg (fun z => ha z.1), updM_n ha]
    rfl
/-- the first call with a value -/
theorem call_find {l n : Nat} (hl : l < 2) (hn : n < 6) (hq : q ≤ 3) (h5 : r (74 + 10 * (6 * l + n) + 5) = nI q) (h4 : X (1 + 15 * l + 2 + 1 + 2 * n) 4 = nI q) (hv : ∀ k, k < 3 → X (1 + 15 * l + 2 + 1 + 2 * n + 1) k = r (74 + 10 * (6 * l + n) + 6 + k)) (v : Int32) :
    ((f_X9_callOf (sR Y r) (nI (10 * l + n)) v = (-5) ∧ p_X4_takeCall X (1 + 15 * l + 2 + 1 + 2 * n) v = (0, X)) ∨ ∃ j, j < q ∧ f_X9_callOf (sR Y r) (nI (10 * l + n)) v = nI j ∧ p_X4_takeCall X (1 + 15 * l + 2 + 1 + 2 * n) v = (1, p_X4_removeCall X (1 + 15 * l + 2 + 1 + 2 * n) j)) ∧ ok_X9_callOf (sR Y r) (nI (10 * l + n)) v := by
  have hA : 74 + 10 * (6 * l + n) < 194 := by omega
  generalize hAe : 74 + 10 * (6 * l + n) = A at *
  generalize hce : 1 + 15 * l + 2 + 1 + 2 * n = c at *
  have key : ∀ d k f1 f2, k + d = q → d < f1 → d < f2 → ((lf_X9_callOf_8 (sR Y r) (nI (10 * l + n)) v (nI A) (fun _ => (-5)) f2 k = (-5) ∧ lf_X4_takeCall_2 c v (fun X1 _ => (0, X1)) f1 X k = (0, X)) ∨ ∃ j, j < q ∧ lf_X9_callOf_8 (sR Y r) (nI (10 * l + n)) v (nI A) (fun _ => (-5)) f2 k = nI j ∧ lf_X4_takeCall_2 c v (fun X1 _ => (0, X1)) f1 X k = (1, p_X4_removeCall X c j)) ∧ lok_X9_callOf_8 (sR Y r) (nI (10 * l + n)) v (nI A) (fun _ => True) f2 k := by
    intro d
    induction d with
    | zero =>
      intro k f1 f2 hk hf1 hf2
      obtain ⟨g1, rfl⟩ : ∃ g, f1 = g + 1 := ⟨f1 - 1, by omega⟩
      obtain ⟨g2, rfl⟩ : ∃ g, f2 = g + 1 := ⟨f2 - 1, by omega⟩
      have : k = q := by omega
      subst this
      have hle : nI k ≤ nI k := nI_le (Nat.le_refl _) (by omega)
      simp only [lf_X9_callOf_8, lf_X4_takeCall_2, lok_X9_callOf_8, sR_1, iS5 (show A < 2000 by omega), h5, h4, if_pos hle]
      exact ⟨Or.inl (by simp), vS5 (by omega), trivial⟩
    | succ d ih =>
      intro k f1 f2 hk hf1 hf2
      obtain ⟨g1, rfl⟩ : ∃ g, f1 = g + 1 := ⟨f1 - 1, by omega⟩
      obtain ⟨g2, rfl⟩ : ∃ g, f2 = g + 1 := ⟨f2 - 1, by omega⟩
      have hle : ¬ nI q ≤ nI k := nI_ge (by omega) (by omega)
      have hat : f_X4_callAt X c (nI k) = r (A + 6 + k) := by
        unfold f_X4_callAt
        rw [if_neg (nI_pos (by omega)), h4, if_neg hle, if_neg (show ¬ (3 : Int32) ≤ nI k from nI_ge (b := 3) (by omega) (by decide)), c1 (by omega), hv k (by omega)]
      simp only [lf_X9_callOf_8, lf_X4_takeCall_2, lok_X9_callOf_8, sR_1, iS5 (show A < 2000 by omega), h5, h4, if_neg hle, hat, i6k (show A + 6 + k < 2147483648 by omega)]
      by_cases he : r (A + 6 + k) = v
      · simp only [if_pos he]
        exact ⟨Or.inr ⟨k, by omega, rfl, rfl⟩, vS5 (by omega), v6k (by omega), trivial⟩
      · simp only [if_neg he]
        obtain ⟨b1, b2⟩ := ih (k + 1) g1 g2 (by omega) (by omega) (by omega)
        exact ⟨b1, vS5 (by omega), v6k (by omega), b2⟩
  obtain ⟨b1, b2⟩ := key q 0 2147483648 2147483648 (by omega) (by omega) (by omega)
  unfold f_X9_callOf ok_X9_callOf p_X4_takeCall
  rw [st_at hl hn, hAe]
  exact ⟨b1, b2⟩
theorem PS.drop {l n : Nat} (h : PS [] X r) (hl : l < 2) (hn : n < 6) (hq : q ≤ 3) : PS [] (xDrop X (1 + 15 * l + 2 + 1 + 2 * n) j q) (rDrop r (74 + 10 * (6 * l + n)) j q) := by
  intro i hi _
  have q5 := LS5 hl hn
  by_cases h5 : i = 74 + 10 * (6 * l + n) + 5
  · subst h5
    unfold xDrop rDrop
    rw [if_pos ⟨q5.2.1, q5.2.2⟩, if_pos rfl]
  · have n1 : ¬ (zc i = 1 + 15 * l + 2 + 1 + 2 * n ∧ zf i = 4) := fun z => h5 (z_inj hi q5.1 (z.1.trans q5.2.1.symm) (z.2.trans q5.2.2.symm))
    unfold xDrop rDrop
    rw [if_neg n1, if_neg h5]
    by_cases hr : 74 + 10 * (6 * l + n) + 6 + j ≤ i ∧ i < 74 + 10 * (6 * l + n) + 5 + q
    · obtain ⟨b, rfl⟩ : ∃ b, i = 74 + 10 * (6 * l + n) + 6 + b := ⟨i - (74 + 10 * (6 * l + n) + 6), by omega⟩
      have qb := LV hl hn (show b < 3 by omega)
      rw [if_pos hr, if_pos ⟨qb.2.1, by rw [qb.2.2]; omega, by rw [qb.2.2]; omega⟩, qb.2.1, qb.2.2]
      exact h.g (LV hl hn (show b + 1 < 3 by omega))
    · rw [if_neg hr, if_neg, h i hi (by simp)]
      rintro ⟨z1, z2, z3⟩
      have qb := LV hl hn (show zf i < 3 by omega)
      have := z_inj hi qb.1 (z1.trans qb.2.1.symm) qb.2.2.symm
      omega
theorem Inv.call {r' : Nat → Int32} {l n q' : Nat} (h : Inv r tc oc sl ph mn) (hl : l < 2) (hn : n < mn l) (h5 : r' (74 + 10 * (6 * l + n) + 5) = nI q') (hq : q' ≤ 3) (hv : ∀ k, k < 3 → r' (74 + 10 * (6 * l + n) + 6 + k) ≠ (-5)) (hs : ∀ i, zr i = true → (i < 74 + 10 * (6 * l + n) + 5 ∨ 74 + 10 * (6 * l + n) + 9 ≤ i) → r' i = r i) : Inv r' tc oc sl ph mn := by
  obtain ⟨⟨a1, a2⟩, ⟨b1, b2⟩, c, d, e, f, g, kk⟩ := h
  have m6 : ∀ l, l < 2 → mn l ≤ 6 := fun l hl => (c l hl).2.2.2
  have s24 : ∀ l, l < 2 → sl l ≤ 24 := fun l hl => (c l hl).1.2.2
  have hn6 := Nat.lt_of_lt_of_le hn (m6 l hl)
  refine ⟨⟨by rw [hs 1 (by decide +kernel) (by omega), a1], a2⟩, ⟨by rw [hs 2 (by decide +kernel) (by omega), b1], b2⟩, ?_, ?_, ?_, ?_, ?_, ?_⟩
  · intro l' hl'
    unfold InvL
    rw [hs _ (zL0 hl') (by omega), hs _ (zL1 hl') (by omega), hs _ (zL4 hl') (by omega)]
    exact c l' hl'
  · intro l' n' hl' hn'
    have h6' : n' < 6 := Nat.lt_of_lt_of_le hn' (m6 l' hl')
    unfold InvS
    by_cases hh : l' = l ∧ n' = n
    · obtain ⟨rfl, rfl⟩ := hh
      rw [hs _ (zS0 hl' h6') (by omega)]
      exact ⟨(d l' n' hl' hn').1, q', hq, h5⟩
    · rw [hs _ (zS0 hl' h6') (by omega), hs _ (zS5 hl' h6') (by omega)]
      exact d l' n' hl' hn'
  · intro l' n' k hl' w2 w3
    by_cases hh : l' = l ∧ n' = n
    · obtain ⟨rfl, rfl⟩ := hh
      exact ⟨hv k w3, fun z => absurd z (by omega)⟩
    · rw [hs _ (zV hl' w2 w3) (by omega)]
      exact e l' n' k hl' w2 w3
  · intro o ho
    have h4 : o < 4 := Nat.lt_of_lt_of_le ho b2
    unfold InvO
    rw [hs _ (zO0 h4) (by omega), hs _ (zO4 h4) (by omega), hs _ (zO6 h4) (by omega), hs _ (zO7 h4) (by omega), hs _ (zO8 h4) (by omega), hs _ (zO9 h4) (by omega)]
    exact f o ho
  · intro t ht
    have h4 : t < 40 := Nat.lt_of_lt_of_le ht a2
    have q := g t ht
    unfold InvT at q ⊢
    rw [hs _ (zT1 h4) (by omega), hs _ (zT2 h4) (by omega), hs _ (zT3 h4) (by omega), hs _ (zT14 h4) (by omega), hs _ (zT6 h4) (by omega), hs _ (zT4 h4) (by omega), hs _ (zT7 h4) (by omega), hs _ (zT8 h4) (by omega)]
    obtain ⟨q1, q2, q3, q4, s, q5, q6, q7, q8, q9⟩ := q
    refine ⟨q1, q2, q3, q4, s, q5, q6, q7, fun hz => ?_, q9⟩
    obtain ⟨l', j, w1, w2, w3, w4, w5⟩ := q8 hz
    have := s24 l' w1
    exact ⟨l', j, w1, w2, w3, w4, by rw [hs _ (zE w1 (by omega)) (by omega), w5]⟩
  · intro l' j hl' hj
    unfold InvE
    rw [hs _ (zE hl' hj) (by omega)]
    rcases kk l' j hl' hj with q | ⟨t, q1, q2, q3, q4, q5⟩
    · exact Or.inl q
    · have h4 : t < 40 := Nat.lt_of_lt_of_le q1 a2
      exact Or.inr ⟨t, q1, q2, by rw [hs _ (zT6 h4) (by omega), q3], by rw [hs _ (zT7 h4) (by omega), q4], by rw [hs _ (zT8 h4) (by omega), q5]⟩
theorem SS.drop {l n : Nat} (h : SS X r tc oc sl ph mn) (hl : l < 2) (hn : n < mn l) (hj : j < q) (hq : q ≤ 3) : SS (xDrop X (1 + 15 * l + 2 + 1 + 2 * n) j q) (rDrop r (74 + 10 * (6 * l + n)) j q) tc oc sl ph mn := by
  have hn6 : n < 6 := Nat.lt_of_lt_of_le hn (h.mn6 hl)
  have h40 := h.tc4
  obtain ⟨hPS, hOn, hLg, hInv⟩ := h
  have ro : ∀ i, (i < 74 + 10 * (6 * l + n) + 5 ∨ 74 + 10 * (6 * l + n) + 9 ≤ i) → rDrop r (74 + 10 * (6 * l + n)) j q i = r i := by
    intro i hi
    unfold rDrop
    rw [if_neg (by omega), if_neg (by omega)]
  have xo : ∀ a b, 33 ≤ a → xDrop X (1 + 15 * l + 2 + 1 + 2 * n) j q a b = X a b := by
    intro a b ha
    unfold xDrop
    rw [if_neg (by omega), if_neg (by omega)]
  refine ⟨hPS.drop hl hn6 hq, ?_, ?_, ?_⟩
  · intro u hu h1
    rw [xo _ _ (by omega), ro _ (by omega), ro _ (by omega)]
    rw [ro _ (by omega)] at h1
    exact hOn u hu h1
  · exact hLg.same (fun j => xo _ _ (by omega)) (fun j => xo _ _ (by omega)) (fun i hi => ro i (by omega))
  · refine hInv.call hl hn (q' := q - 1) ?_ (by omega) (fun k hk => ?_) (fun i _ hi => ro i hi)
    · unfold rDrop
      rw [if_pos rfl]
    · unfold rDrop
      rw [if_neg (by omega)]
      by_cases hr : 74 + 10 * (6 * l + n) + 6 + j ≤ 74 + 10 * (6 * l + n) + 6 + k ∧ 74 + 10 * (6 * l + n) + 6 + k < 74 + 10 * (6 * l + n) + 5 + q
      · rw [if_pos hr]
        exact (hInv.2.2.2.2.1 l n (k + 1) hl hn6 (by omega)).1
      · rw [if_neg hr]
        exact (hInv.2.2.2.2.1 l n k hl hn6 hk).1
end CALLS
