/-! the place of one that waits: sorted by class on one side, counted on the other -/
theorem cn_or {p q : Nat → Bool} : ∀ n, (∀ k, k < n → ¬ (p k = true ∧ q k = true)) → cn (fun k => p k || q k) n = cn p n + cn q n := by
  intro n
  induction n with
  | zero => intro _; rfl
  | succ n ih =>
    intro h
    simp only [cn]
    rw [ih (fun k hk => h k (by omega))]
    have hn := h n (by omega)
    have key : ∀ b c : Bool, ¬ (b = true ∧ c = true) → ∀ x y : Nat, (x + y + if (b || c) = true then 1 else 0) = (x + if b = true then 1 else 0) + (y + if c = true then 1 else 0) := by
      intro b c hbc x y
      cases b <;> cases c
      · rfl
      · show x + y + 1 = x + 0 + (y + 1)
        omega
      · show x + y + 1 = x + 1 + (y + 0)
        omega
      · exact absurd ⟨rfl, rfl⟩ hbc
    exact key (p n) (q n) hn _ _
theorem cn_below {p : Nat → Bool} {t : Nat} : ∀ n, t ≤ n → cn (fun k => p k && decide (k < t)) n = cn p t := by
  intro n
  induction n with
  | zero =>
    intro h
    have : t = 0 := by omega
    subst this
    rfl
  | succ n ih =>
    intro h
    by_cases ht : t = n + 1
    · subst ht
      refine cn_cong (n + 1) (fun k hk => ?_)
      simp [hk]
    · simp only [cn]
      rw [ih (by omega)]
      have e : (p n && decide (n < t)) = false := by
        rw [Bool.and_eq_false_iff]
        exact Or.inr (decide_eq_false (by omega))
      show cn p t + (if (p n && decide (n < t)) = true then 1 else 0) = cn p t
      rw [e]
      rfl
theorem cn_zero {p : Nat → Bool} : ∀ n, (∀ k, k < n → p k = false) → cn p n = 0 := by
  intro n
  induction n with
  | zero => intro _; rfl
  | succ n ih =>
    intro h
    simp only [cn]
    rw [ih (fun k hk => h k (by omega)), h n (by omega)]
    rfl
def wk (r : Nat → Int32) (a : Int32) (κ : Nat) (t : Nat) : Bool := bWt r a t && decide (r (294 + 17 * t + 1) = nI κ)
def bAh (r : Nat → Int32) (a : Int32) (t u : Nat) : Bool := bWt r a u && (decide (r (294 + 17 * t + 1) < r (294 + 17 * u + 1)) || (decide (r (294 + 17 * u + 1) = r (294 + 17 * t + 1)) && decide (u < t)))
def sK (r : Nat → Int32) (a : Int32) (tc κ : Nat) : Nat := (if κ < 3 then cn (wk r a 3) tc else 0) + (if κ < 2 then cn (wk r a 2) tc else 0)
section WAIT
variable {X Y : gM} {r : Nat → Int32} {tc oc : Nat} {sl ph mn : Nat → Nat} {a : Int32}
theorem R_ahead (h1 : r 1 = nI tc) (h40 : tc ≤ 40) {t : Nat} (ht : t < tc) : f_X9_ahead (sR Y r) (nI t) a = nI (cn (bAh r a t) tc) ∧ ok_X9_ahead (sR Y r) (nI t) a := by
  have ht4 : t < 40 := by omega
  have key : ∀ d k f, k + d = tc → d < f → lf_X9_ahead_5 (sR Y r) (nI t) a (fun x _ => x) f (nI (cn (bAh r a t) k)) k = nI (cn (bAh r a t) tc) ∧ lok_X9_ahead_5 (sR Y r) (nI t) a (fun _ _ => True) f (nI (cn (bAh r a t) k)) k := by
    intro d
    induction d with
    | zero =>
      intro k f hk hf
      obtain ⟨g, rfl⟩ : ∃ g, f = g + 1 := ⟨f - 1, by omega⟩
      have : k = tc := by omega
      subst this
      simp only [lf_X9_ahead_5, lok_X9_ahead_5, sR_1, h1]
      rw [if_pos (nI_le (Nat.le_refl _) (by omega)), if_pos (nI_le (Nat.le_refl _) (by omega))]
      exact ⟨rfl, trivial⟩
    | succ d ih =>
      intro k f hk hf
      obtain ⟨g, rfl⟩ : ∃ g, f = g + 1 := ⟨f - 1, by omega⟩
      have hk4 : k < 40 := by omega
      have hle : ¬ nI tc ≤ nI k := nI_ge (by omega) (by omega)
      have hw := R_isWaiting (Y := Y) (r := r) a hk4
      have o1 : f_X9_of (sR Y r) (nI k) 1 = r (294 + 17 * k + 1) := rf_of1 hk4
      have o2 : f_X9_of (sR Y r) (nI t) 1 = r (294 + 17 * t + 1) := rf_of1 ht4
      have y1 : sR Y r 1 1 = nI tc := h1
      have i1 := ih (k + 1) g (by omega) (by omega)
      simp only [lf_X9_ahead_5, lok_X9_ahead_5, y1, if_neg hle, o1, o2, ro_of1 hk4, ro_of1 ht4, hw.1, hw.2, Int32.add_zero, true_and]
      by_cases c1' : r (294 + 17 * t + 1) < r (294 + 17 * k + 1)
      · simp only [if_pos c1']
        by_cases hb : bWt r a k = true
        · simp only [if_pos hb, if_neg (show ¬ (1 : Int32) = 0 by decide)]
          rw [cn_step1 (by simp [bAh, hb, c1'])]
          exact i1
        · simp only [if_neg hb, if_true]
          rw [cn_step0 (by simp [bAh, hb])]
          exact i1
      · simp only [if_neg c1']
        by_cases c2 : r (294 + 17 * k + 1) = r (294 + 17 * t + 1)
        · simp only [if_pos c2]
          by_cases c3 : t ≤ k
          · simp only [if_pos (nI_le c3 (show k < 2 ^ 31 by omega))]
            rw [cn_step0 (by
              have : decide (k < t) = false := by simp; omega
              simp [bAh, c1', this])]
            exact i1
          · simp only [if_neg (nI_ge (show k < t by omega) (show t < 2 ^ 31 by omega))]
            by_cases hb : bWt r a k = true
            · simp only [if_pos hb, if_neg (show ¬ (1 : Int32) = 0 by decide)]
              have : decide (k < t) = true := by simp; omega
              rw [cn_step1 (by simp [bAh, hb, c2, this])]
              exact i1
            · simp only [if_neg hb, if_true]
              rw [cn_step0 (by simp [bAh, hb])]
              exact i1
        · simp only [if_neg c2]
          rw [cn_step0 (by simp [bAh, c1', c2])]
          exact i1
  exact key tc 0 2147483648 (by omega) (by omega)
theorem ahead_v (hk : ∀ u, u < tc → ∃ k, 1 ≤ k ∧ k ≤ 3 ∧ r (294 + 17 * u + 1) = nI k) {t κ : Nat} (ht : t < tc) (hκ : r (294 + 17 * t + 1) = nI κ) (h1 : 1 ≤ κ) (h3 : κ ≤ 3) : cn (bAh r a t) tc = sK r a tc κ + cn (wk r a κ) t := by
  have e : cn (bAh r a t) tc = cn (fun k => ((fun u => (if κ < 3 then wk r a 3 u else false) || (if κ < 2 then wk r a 2 u else false)) k) || ((fun u => wk r a κ u && decide (u < t)) k)) tc := by
    refine cn_cong tc (fun u hu => ?_)
    obtain ⟨k, k1, k3, ek⟩ := hk u hu
    unfold bAh wk
    dsimp only
    rw [hκ, ek]
    have el : ∀ a, a < 4 → ∀ b, b < 4 → (decide (nI a < nI b) = decide (a < b) ∧ decide (nI a = nI b) = decide (a = b)) := by decide +kernel
    rw [(el κ (by omega) k (by omega)).1, (el k (by omega) κ (by omega)).2, (el k (by omega) 3 (by omega)).2, (el k (by omega) 2 (by omega)).2]
    cases bWt r a u <;> cases decide (u < t) <;> rcases (show κ = 1 ∨ κ = 2 ∨ κ = 3 by omega) with rfl | rfl | rfl <;> rcases (show k = 1 ∨ k = 2 ∨ k = 3 by omega) with rfl | rfl | rfl <;> rfl
  have dj : ∀ κ κ' u, κ ≠ κ' → κ ≤ 3 → κ' ≤ 3 → ¬ (wk r a κ u = true ∧ wk r a κ' u = true) := by
    rintro κ κ' u hne a3 b3 ⟨w1, w2⟩
    have q1 : bWt r a u = true ∧ r (294 + 17 * u + 1) = nI κ := by simpa [wk] using w1
    have q2 : bWt r a u = true ∧ r (294 + 17 * u + 1) = nI κ' := by simpa [wk] using w2
    exact hne (nI_inj (by omega) (by omega) (q1.2.symm.trans q2.2))
  rw [e, cn_or, cn_below tc (by omega)]
  · congr 1
    unfold sK
    rcases (show κ = 1 ∨ κ = 2 ∨ κ = 3 by omega) with rfl | rfl | rfl
    · rw [if_pos (by omega), if_pos (by omega)]
      exact cn_or tc (fun u hu => dj 3 2 u (by decide) (by decide) (by decide))
    · rw [if_pos (by omega), if_neg (by omega), Nat.add_zero]
      refine cn_cong tc (fun u hu => ?_)
      cases wk r a 3 u <;> rfl
    · rw [if_neg (by omega), if_neg (by omega), Nat.add_zero]
      exact cn_zero tc (fun u hu => rfl)
  · rintro u hu ⟨w1, w2⟩
    have w2' : wk r a κ u = true := by
      have : wk r a κ u = true ∧ u < t := by simpa using w2
      exact this.1
    by_cases z3 : κ < 3
    · by_cases z2 : κ < 2
      · rw [if_pos z3, if_pos z2] at w1
        rcases (show wk r a 3 u = true ∨ wk r a 2 u = true by simpa using w1) with q | q
        · exact dj 3 κ u (by omega) (by decide) h3 ⟨q, w2'⟩
        · exact dj 2 κ u (by omega) (by decide) h3 ⟨q, w2'⟩
      · rw [if_pos z3, if_neg z2] at w1
        have q : wk r a 3 u = true := by simpa using w1
        exact dj 3 κ u (by omega) (by decide) h3 ⟨q, w2'⟩
    · rw [if_neg z3, if_neg (show ¬ κ < 2 by omega)] at w1
      exact absurd w1 (by decide)
/-- one class of those that wait -/
theorem inQ_loop {K : Int32 → Nat → Option Nat} {a2 : Int32} (h1 : X 0 5 = nI tc) (h40 : tc ≤ 40) (hq : ∀ t, t < tc → (f_X5_queue X (35 + 2 * t) = a ↔ bWt r a t = true)) (hk : ∀ t, t < tc → X (35 + 2 * t + 1) 1 = r (294 + 17 * t + 1)) (κ : Nat) : ∀ d k f p, k + d = tc → d < f → p < 2147483648 → (∃ t, k ≤ t ∧ t < tc ∧ wk r a κ t = true ∧ cn (wk r a κ) t = cn (wk r a κ) k + p ∧ lf_X3_inQueue_14 X a a2 κ K f (nI p) k = some (35 + 2 * t)) ∨ (∃ j, cn (wk r a κ) tc = cn (wk r a κ) k + j ∧ j ≤ p ∧ lf_X3_inQueue_14 X a a2 κ K f (nI p) k = K (nI (p - j)) tc) := by
  intro d
  induction d with
  | zero =>
    intro k f p hkk hf hp
    obtain ⟨g, rfl⟩ : ∃ g, f = g + 1 := ⟨f - 1, by omega⟩
    have : k = tc := by omega
    subst this
    simp only [lf_X3_inQueue_14, h1, if_pos (nI_le (Nat.le_refl k) (show k < 2 ^ 31 by omega))]
    exact Or.inr ⟨0, rfl, by omega, rfl⟩
  | succ d ih =>
    intro k f p hkk hf hp
    obtain ⟨g, rfl⟩ : ∃ g, f = g + 1 := ⟨f - 1, by omega⟩
    have hle : ¬ nI tc ≤ nI k := nI_ge (by omega) (by omega)
    have h40' : ¬ (40 : Int32) ≤ nI k := nI_ge (b := 40) (by omega) (by decide)
    have q := hq k (by omega)
    simp only [lf_X3_inQueue_14, h1, if_neg hle, if_neg h40', hk k (by omega)]
    have skip : wk r a κ k = false → (∃ t, k ≤ t ∧ t < tc ∧ wk r a κ t = true ∧ cn (wk r a κ) t = cn (wk r a κ) k + p ∧ lf_X3_inQueue_14 X a a2 κ K g (nI p) (k + 1) = some (35 + 2 * t)) ∨ (∃ j, cn (wk r a κ) tc = cn (wk r a κ) k + j ∧ j ≤ p ∧ lf_X3_inQueue_14 X a a2 κ K g (nI p) (k + 1) = K (nI (p - j)) tc) := by
      intro hw
      have e : cn (wk r a κ) (k + 1) = cn (wk r a κ) k := by
        simp only [cn, hw]
        rfl
      rcases ih (k + 1) g p (by omega) (by omega) hp with ⟨t, t1, t2, t3, t4, t5⟩ | ⟨j, j1, j2, j3⟩
      · exact Or.inl ⟨t, by omega, t2, t3, by rw [t4, e], t5⟩
      · exact Or.inr ⟨j, by rw [j1, e], j2, j3⟩
    by_cases hb : bWt r a k = true
    · rw [if_pos (q.mpr hb)]
      by_cases hκ : r (294 + 17 * k + 1) = nI κ
      · rw [if_pos hκ]
        have hw : wk r a κ k = true := by simp [wk, hb, hκ]
        by_cases hp0 : p = 0
        · subst hp0
          rw [if_pos (show nI 0 = 0 from rfl)]
          exact Or.inl ⟨k, by omega, by omega, hw, rfl, rfl⟩
        · rw [if_neg (show ¬ nI p = 0 from nI_ne0 (by omega) (by omega))]
          have em : nI p + (-1) = nI (p - 1) := by
            rw [Int32.add_neg_eq_sub]
            have := nI_pred (p - 1)
            rwa [show p - 1 + 1 = p by omega] at this
          have e : cn (wk r a κ) (k + 1) = cn (wk r a κ) k + 1 := by
            simp only [cn, hw]
            rfl
          rw [em]
          rcases ih (k + 1) g (p - 1) (by omega) (by omega) (by omega) with ⟨t, t1, t2, t3, t4, t5⟩ | ⟨j, j1, j2, j3⟩
          · exact Or.inl ⟨t, by omega, t2, t3, by omega, t5⟩
          · exact Or.inr ⟨j + 1, by omega, by omega, by rw [j3, show p - 1 - j = p - (j + 1) by omega]⟩
      · rw [if_neg hκ]
        exact skip (by simp [wk, hκ])
    · rw [if_neg (fun z => hb (q.mp z))]
      exact skip (by simp [wk, hb])
theorem inQ_sim (h1 : X 0 5 = nI tc) (h40 : tc ≤ 40) (hq : ∀ t, t < tc → (f_X5_queue X (35 + 2 * t) = a ↔ bWt r a t = true)) (hk : ∀ t, t < tc → X (35 + 2 * t + 1) 1 = r (294 + 17 * t + 1)) {p : Nat} (hp : p < 2147483648) : (∃ t κ, 1 ≤ κ ∧ κ ≤ 3 ∧ t < tc ∧ wk r a κ t = true ∧ p = sK r a tc κ + cn (wk r a κ) t ∧ f_X3_inQueue X a (nI p) = some (35 + 2 * t)) ∨ (sK r a tc 1 + cn (wk r a 1) tc ≤ p ∧ f_X3_inQueue X a (nI p) = none) := by
  unfold f_X3_inQueue
  rw [show (4 : Nat) = 0 + 1 + 1 + 1 + 1 from rfl]
  have n3 : ¬ nI 3 < 1 := by decide +kernel
  have n2 : ¬ nI (3 - 1) < 1 := by decide +kernel
  have n1 : ¬ nI (3 - 1 - 1) < 1 := by decide +kernel
  have n0 : nI (3 - 1 - 1 - 1) < 1 := by decide +kernel
  simp only [lf_X3_inQueue_5, if_neg n3, if_neg n2, if_neg n1, if_pos n0]
  rcases inQ_loop (X := X) (r := r) (a := a) (a2 := nI p) (K := fun x _ => lf_X3_inQueue_14 X a (nI p) (3 - 1) (fun x _ => lf_X3_inQueue_14 X a (nI p) (3 - 1 - 1) (fun _ _ => none) 41 x 0) 41 x 0) h1 h40 hq hk 3 tc 0 41 p (by omega) (by omega) hp with ⟨t, t1, t2, t3, t4, t5⟩ | ⟨j, j1, j2, j3⟩
  · refine Or.inl ⟨t, 3, by omega, by omega, t2, t3, ?_, t5⟩
    have : cn (wk r a 3) 0 = 0 := rfl
    unfold sK
    rw [if_neg (by omega), if_neg (by omega)]
    omega
  · rw [j3]
    have z3 : cn (wk r a 3) 0 = 0 := rfl
    rcases inQ_loop (X := X) (r := r) (a := a) (a2 := nI p) (K := fun x _ => lf_X3_inQueue_14 X a (nI p) (3 - 1 - 1) (fun _ _ => none) 41 x 0) h1 h40 hq hk 2 tc 0 41 (p - j) (by omega) (by omega) (by omega) with ⟨t, t1, t2, t3, t4, t5⟩ | ⟨i, i1, i2, i3⟩
    · refine Or.inl ⟨t, 2, by omega, by omega, t2, t3, ?_, t5⟩
      have : cn (wk r a 2) 0 = 0 := rfl
      unfold sK
      rw [if_pos (by omega), if_neg (by omega)]
      omega
    · have z2 : cn (wk r a 2) 0 = 0 := rfl
      have i3' : lf_X3_inQueue_14 X a (nI p) (3 - 1) (fun x _ => lf_X3_inQueue_14 X a (nI p) (3 - 1 - 1) (fun _ _ => none) 41 x 0) 41 (nI (p - j)) 0 = lf_X3_inQueue_14 X a (nI p) (3 - 1 - 1) (fun _ _ => none) 41 (nI (p - j - i)) 0 := i3
      rw [i3']
      rcases inQ_loop (X := X) (r := r) (a := a) (a2 := nI p) (K := fun _ _ => none) h1 h40 hq hk 1 tc 0 41 (p - j - i) (by omega) (by omega) (by omega) with ⟨t, t1, t2, t3, t4, t5⟩ | ⟨m, m1, m2, m3⟩
      · refine Or.inl ⟨t, 1, by omega, by omega, t2, t3, ?_, t5⟩
        have : cn (wk r a 1) 0 = 0 := rfl
        unfold sK
        rw [if_pos (by omega), if_pos (by omega)]
        omega
      · refine Or.inr ⟨?_, m3⟩
        have : cn (wk r a 1) 0 = 0 := rfl
        unfold sK
        rw [if_pos (by omega), if_pos (by omega)]
        omega
end WAIT
theorem q_waiting {X Y : gM} (h : Rl X Y) (a1 a2 : Int32) : f_X8_waiting X a1 a2 = f_X9_waiting Y a1 a2 ∧ ok_X9_waiting Y a1 a2 := by
  obtain ⟨tc, oc, sl, ph, mn, hs⟩ := h.1
  rw [← sR_id (Y := Y)]
  generalize Y 1 = r at hs ⊢
  have h40 := hs.tc4
  unfold f_X8_waiting f_X9_waiting ok_X9_waiting
  obtain ⟨hA, hok⟩ := station_arg (Y := Y) hs a1
  rcases hA with ⟨e1, e2⟩ | ⟨l, n, hl, hn, rfl, e1, e2⟩
  · rw [e1, e2, if_pos rfl, if_pos rfl]
    exact ⟨rfl, hok, trivial⟩
  · have hn6 : n < 6 := Nat.lt_of_lt_of_le hn (hs.mn6 hl)
    rw [e1, e2, if_neg (show ¬ (1 : Int32) = 0 by decide), if_neg (show ¬ (1 : Int32) = 0 by decide)]
    simp only [gOpt]
    rw [nS_lin hl hn6, nS_sta hl hn6]
    by_cases h0 : 0 ≤ a2
    · rw [if_pos h0, if_pos h0, if_pos h0]
      obtain ⟨p, hp, rfl⟩ := nI_of (Int32.not_lt.mpr h0)
      generalize ha : nI (10 * l + n) = a at *
      have hkd : ∀ u, u < tc → ∃ k, 1 ≤ k ∧ k ≤ 3 ∧ r (294 + 17 * u + 1) = nI k := fun u hu => (hs.tik hu).1
      have W : ∀ d k f, k + d = tc → d < f → ((∃ t, t < tc ∧ bWt r a t = true ∧ cn (bAh r a t) tc = p ∧ lf_X9_waiting_19 (sR Y r) a (nI p) (fun _ => (-5)) f k = nI t) ∨ ((∀ u, k ≤ u → u < tc → ¬ (bWt r a u = true ∧ cn (bAh r a u) tc = p)) ∧ lf_X9_waiting_19 (sR Y r) a (nI p) (fun _ => (-5)) f k = (-5))) ∧ lok_X9_waiting_19 (sR Y r) a (nI p) (fun _ => True) f k := by
        intro d
        induction d with
        | zero =>
          intro k f hk hf
          obtain ⟨g, rfl⟩ : ∃ g, f = g + 1 := ⟨f - 1, by omega⟩
          have : k = tc := by omega
          subst this
          have y1 : sR Y r 1 1 = nI k := hs.r1
          have hle : nI k ≤ nI k := nI_le (Nat.le_refl _) (by omega)
          simp only [lf_X9_waiting_19, lok_X9_waiting_19, y1, if_pos hle]
          exact ⟨Or.inr ⟨fun u h1 h2 => by omega, trivial⟩, trivial⟩
        | succ d ih =>
          intro k f hk hf
          obtain ⟨g, rfl⟩ : ∃ g, f = g + 1 := ⟨f - 1, by omega⟩
          have hk4 : k < 40 := by omega
          have y1 : sR Y r 1 1 = nI tc := hs.r1
          have hle : ¬ nI tc ≤ nI k := nI_ge (by omega) (by omega)
          have hw := R_isWaiting (Y := Y) (r := r) a hk4
          obtain ⟨ah1, ah2⟩ := R_ahead (Y := Y) (a := a) hs.r1 h40 (show k < tc by omega)
          obtain ⟨i1, i2⟩ := ih (k + 1) g (by omega) (by omega)
          have cl := cn_le (bAh r a k) tc
          simp only [lf_X9_waiting_19, lok_X9_waiting_19, y1, if_neg hle, hw.1, hw.2, ah1, ah2, true_and]
          have pass : ¬ (bWt r a k = true ∧ cn (bAh r a k) tc = p) → ((∃ t, t < tc ∧ bWt r a t = true ∧ cn (bAh r a t) tc = p ∧ lf_X9_waiting_19 (sR Y r) a (nI p) (fun _ => (-5)) g (k + 1) = nI t) ∨ ((∀ u, k ≤ u → u < tc → ¬ (bWt r a u = true ∧ cn (bAh r a u) tc = p)) ∧ lf_X9_waiting_19 (sR Y r) a (nI p) (fun _ => (-5)) g (k + 1) = (-5))) := by
            intro hno
            rcases i1 with q | ⟨q1, q2⟩
            · exact Or.inl q
            · refine Or.inr ⟨fun u h1 h2 => ?_, q2⟩
              by_cases hu : u = k
              · rw [hu]
                exact hno
              · exact q1 u (by omega) h2
          by_cases hb : bWt r a k = true
          · simp only [if_pos hb, if_neg (show ¬ (1 : Int32) = 0 by decide)]
            by_cases hc : cn (bAh r a k) tc = p
            · simp only [if_pos (show nI (cn (bAh r a k) tc) = nI p by rw [hc])]
              exact ⟨Or.inl ⟨k, by omega, hb, hc, rfl⟩, trivial⟩
            · have hc' : ¬ nI (cn (bAh r a k) tc) = nI p := fun z => hc (nI_inj (by omega) hp z)
              simp only [if_neg hc']
              exact ⟨pass (fun z => hc z.2), i2⟩
          · simp only [if_neg hb, if_true]
            exact ⟨pass (fun z => hb z.1), i2⟩
      obtain ⟨w1, w2⟩ := W tc 0 2147483648 (by omega) (by omega)
      refine ⟨?_, hok, w2⟩
      have hq : ∀ t, t < tc → (f_X5_queue (vw 0 X) (35 + 2 * t) = a ↔ bWt r a t = true) := fun t ht => by rw [← ha]; exact queue_w hs hl hn6 ht
      have m1 : ∀ t κ, t < tc → wk r a κ t = true → bWt r a t = true ∧ r (294 + 17 * t + 1) = nI κ := fun t κ _ hw => by simpa [wk] using hw
      have kk : ∀ t, t < tc → bWt r a t = true → ∃ κ, 1 ≤ κ ∧ κ ≤ 3 ∧ wk r a κ t = true ∧ cn (bAh r a t) tc = sK r a tc κ + cn (wk r a κ) t ∧ cn (wk r a κ) t < cn (wk r a κ) tc := by
        intro t ht hb
        obtain ⟨κ, q1, q3, q⟩ := hkd t ht
        have hw : wk r a κ t = true := by simp [wk, hb, q]
        exact ⟨κ, q1, q3, hw, ahead_v hkd ht q q1 q3, cn_lt ht hw⟩
      have sk1 : sK r a tc 1 = cn (wk r a 3) tc + cn (wk r a 2) tc := rfl
      have sk2 : sK r a tc 2 = cn (wk r a 3) tc + 0 := rfl
      have sk3 : sK r a tc 3 = 0 + 0 := rfl
      rcases inQ_sim (X := vw 0 X) (by rw [hs.1.g LK1, hs.r1]) h40 hq (fun t ht => hs.1.g (LT1 (by omega))) hp with ⟨t, κ, z1, z3, ht, hw, ep, eq⟩ | ⟨hle, eq⟩
      · rw [eq]
        show f_X8_numberOf_R (vw 0 X) (35 + 2 * t) = _
        unfold f_X8_numberOf_R
        rw [nT_tic]
        obtain ⟨hb, hr⟩ := m1 t κ ht hw
        have hah := ahead_v (a := a) hkd ht hr z1 z3
        have hlt := cn_lt ht hw
        rcases w1 with ⟨t', t1, t2, t3, t4⟩ | ⟨hno, -⟩
        · rw [t4]
          obtain ⟨κ', y1, y3, y4, y5, y6⟩ := kk t' t1 t2
          have hκ : κ = κ' := by
            rcases (show κ = 1 ∨ κ = 2 ∨ κ = 3 by omega) with rfl | rfl | rfl <;> rcases (show κ' = 1 ∨ κ' = 2 ∨ κ' = 3 by omega) with rfl | rfl | rfl <;> first | rfl | (exfalso; omega)
          subst hκ
          have : t = t' := by
            rcases Nat.lt_or_ge t t' with q | q
            · have := cn_lt q hw
              omega
            · rcases Nat.lt_or_ge t' t with q' | q'
              · have := cn_lt q' y4
                omega
              · omega
          rw [this]
        · exact absurd ⟨hb, by omega⟩ (hno t (by omega) ht)
      · rw [eq]
        show f_X8_numberOf_N = _
        rcases w1 with ⟨t', t1, t2, t3, t4⟩ | ⟨-, e⟩
        · exfalso
          obtain ⟨κ', y1, y3, y4, y5, y6⟩ := kk t' t1 t2
          rcases (show κ' = 1 ∨ κ' = 2 ∨ κ' = 3 by omega) with rfl | rfl | rfl <;> omega
        · rw [e]
          rfl
    · rw [if_neg h0, if_neg h0, if_neg h0]
      exact ⟨rfl, hok, trivial⟩
