/-! who would board: both sides -/
theorem nS_lin {l n : Nat} (h : l < 2) (hn : n < 6) : nLin (1 + 15 * l + 2 + 1 + 2 * n) = l := (show ∀ l, l < 2 → ∀ n, n < 6 → nLin (1 + 15 * l + 2 + 1 + 2 * n) = l by decide +kernel) l h n hn
theorem nS_sta {l n : Nat} (h : l < 2) (hn : n < 6) : nSta (1 + 15 * l + 2 + 1 + 2 * n) = n := (show ∀ l, l < 2 → ∀ n, n < 6 → nSta (1 + 15 * l + 2 + 1 + 2 * n) = n by decide +kernel) l h n hn
theorem nL_lin {l : Nat} (h : l < 2) : nLin (1 + 15 * l) = l := (show ∀ l, l < 2 → nLin (1 + 15 * l) = l by decide +kernel) l h
theorem nT_tic {t : Nat} : nTic (35 + 2 * t) = t := by
  unfold nTic
  omega
theorem lineOf_n {X : gM} {l : Nat} (h : l < 2) : f_X3_lineOf X (nI l) = 1 + 15 * l := by
  rcases (show l = 0 ∨ l = 1 by omega) with rfl | rfl <;> rfl
section FIRST
variable {X Y : gM} {r : Nat → Int32} {tc oc : Nat} {sl ph mn : Nat → Nat}
theorem SS.tc4 (h : SS X r tc oc sl ph mn) : tc ≤ 40 := h.2.2.2.1.2
theorem SS.r1 (h : SS X r tc oc sl ph mn) : r 1 = nI tc := h.2.2.2.1.1
theorem SS.r2 (h : SS X r tc oc sl ph mn) : r 2 = nI oc := h.2.2.2.2.1.1
theorem SS.oc4 (h : SS X r tc oc sl ph mn) : oc ≤ 4 := h.2.2.2.2.1.2
theorem SS.lin (h : SS X r tc oc sl ph mn) {l : Nat} (hl : l < 2) : InvL r sl ph mn l := h.2.2.2.2.2.1 l hl
theorem SS.mn6 (h : SS X r tc oc sl ph mn) {l : Nat} (hl : l < 2) : mn l ≤ 6 := (h.lin hl).2.2.2
theorem SS.sta (h : SS X r tc oc sl ph mn) {l n : Nat} (hl : l < 2) (hn : n < mn l) : InvS r sl l n := h.2.2.2.2.2.2.1 l n hl hn
theorem SS.ord (h : SS X r tc oc sl ph mn) {o : Nat} (ho : o < oc) : InvO r mn o := h.2.2.2.2.2.2.2.2.1 o ho
theorem SS.tik (h : SS X r tc oc sl ph mn) {t : Nat} (ht : t < tc) : InvT r sl mn t := h.2.2.2.2.2.2.2.2.2.1 t ht
theorem SS.sea (h : SS X r tc oc sl ph mn) {l k : Nat} (hl : l < 2) (hk : k < 24) : InvE r tc l k := h.2.2.2.2.2.2.2.2.2.2 l k hl hk
theorem queue_w (h : SS X r tc oc sl ph mn) {l n : Nat} (hl : l < 2) (hn : n < 6) {t : Nat} (ht : t < tc) : f_X5_queue X (35 + 2 * t) = nI (10 * l + n) ↔ bWt r (nI (10 * l + n)) t = true := by
  have h4 : t < 40 := Nat.lt_of_lt_of_le ht h.tc4
  obtain ⟨_, _, _, _, s, q5, q6, _, _, q9⟩ := h.tik ht
  unfold f_X5_queue bWt
  rw [h.1.g (LT6 h4), h.1.g (LT2 h4), h.1.g (LT7 h4), q6]
  by_cases h0 : s = 0
  · subst h0
    rw [if_pos (show nI 0 = 0 from rfl)]
    simp [nI_0]
  · have hn0 : nI s ≠ 0 := nI_ne0 (by omega) (by omega)
    rw [if_neg hn0]
    by_cases h2 : s = 2
    · subst h2
      obtain ⟨l', a1, a2⟩ := q9 rfl
      rw [if_pos (show nI 2 = 2 from rfl), a2]
      constructor
      · intro z
        have z1 : nI (20 + l') = nI (10 * l + n) := by rw [← z]; exact (nI_add 20 l').symm
        have := nI_inj (by omega) (by omega) z1
        omega
      · intro z
        simp [hn0] at z
    · rw [if_neg (show ¬ nI s = 2 from fun z => h2 (nI_inj (b := 2) (by omega) (by omega) z))]
      constructor
      · intro z
        exact absurd z.symm (nI_n5 (by omega))
      · intro z
        simp [hn0] at z
theorem queue_h (h : SS X r tc oc sl ph mn) {l : Nat} (hl : l < 2) {t : Nat} (ht : t < tc) : f_X5_queue X (35 + 2 * t) = 20 + nI l ↔ bOn r (nI l) 2 t = true := by
  have h4 : t < 40 := Nat.lt_of_lt_of_le ht h.tc4
  obtain ⟨_, q2, _, _, s, q5, q6, _, _, q9⟩ := h.tik ht
  have e20 : (20 : Int32) + nI l = nI (20 + l) := nI_add 20 l
  unfold f_X5_queue bOn
  rw [h.1.g (LT6 h4), h.1.g (LT2 h4), h.1.g (LT7 h4), q6, e20]
  by_cases h0 : s = 0
  · subst h0
    rw [if_pos (show nI 0 = 0 from rfl)]
    obtain ⟨l', n', a1, a2, a3⟩ := q2
    rw [a3]
    have := h.mn6 a1
    constructor
    · intro z
      have := nI_inj (by omega) (by omega) z
      omega
    · intro z
      simp [show nI 0 ≠ 2 by decide +kernel] at z
  · have hn0 : nI s ≠ 0 := nI_ne0 (by omega) (by omega)
    rw [if_neg hn0]
    by_cases h2 : s = 2
    · subst h2
      obtain ⟨l', a1, a2⟩ := q9 rfl
      rw [if_pos (show nI 2 = 2 from rfl), a2, show (20 : Int32) + nI l' = nI (20 + l') from nI_add 20 l']
      constructor
      · intro z
        have := nI_inj (by omega) (by omega) z
        have e : l' = l := by omega
        subst e
        simp [show nI 2 = 2 from rfl]
      · intro z
        have e : nI l' = nI l := by simpa [show nI 2 = 2 from rfl] using z
        have := nI_inj (by omega) (by omega) e
        rw [this]
    · have h2' : nI s ≠ 2 := fun z => h2 (nI_inj (b := 2) (by omega) (by omega) z)
      rw [if_neg h2']
      constructor
      · intro z
        exact absurd z.symm (nI_n5 (by omega))
      · intro z
        simp [h2'] at z
/-- what both sides found -/
def RO (tc : Nat) (P : Nat → Bool) (o : Option Nat) (x : Int32) : Prop := (o = none ∧ x = (-5)) ∨ ∃ u, u < tc ∧ P u = true ∧ o = some (35 + 2 * u) ∧ x = nI u
theorem first_w (h1 : X 0 5 = nI tc) (h2 : r 1 = nI tc) (h40 : tc ≤ 40) (a : Int32) (hq : ∀ t, t < tc → (f_X5_queue X (35 + 2 * t) = a ↔ bWt r a t = true)) (hk : ∀ t, t < tc → X (35 + 2 * t + 1) 1 = r (294 + 17 * t + 1)) : RO tc (bWt r a) (f_X3_firstIn X a) (f_X9_firstWaiting (sR Y r) a) ∧ ok_X9_firstWaiting (sR Y r) a := by
  have key : ∀ d k f1 f2 o x, k + d = tc → d < f1 → d < f2 → RO tc (bWt r a) o x → RO tc (bWt r a) (lf_X3_firstIn_4 X a (fun o _ => gOpt o none (fun q2 => some q2)) f1 o k) (lf_X9_firstWaiting_5 (sR Y r) a (fun x _ => x) f2 x k) ∧ lok_X9_firstWaiting_5 (sR Y r) a (fun _ _ => True) f2 x k := by
    intro d
    induction d with
    | zero =>
      intro k f1 f2 o x hkk hf1 hf2 hR
      obtain ⟨g1, rfl⟩ : ∃ g, f1 = g + 1 := ⟨f1 - 1, by omega⟩
      obtain ⟨g2, rfl⟩ : ∃ g, f2 = g + 1 := ⟨f2 - 1, by omega⟩
      have : k = tc := by omega
      subst this
      have hle : nI k ≤ nI k := nI_le (Nat.le_refl _) (by omega)
      rcases hR with ⟨rfl, rfl⟩ | ⟨u, u1, u2, rfl, rfl⟩
      · simp only [lf_X3_firstIn_4, lf_X9_firstWaiting_5, lok_X9_firstWaiting_5, gOpt, h1, h2, sR_1, if_pos hle]
        exact ⟨Or.inl ⟨rfl, rfl⟩, trivial⟩
      · simp only [lf_X3_firstIn_4, lf_X9_firstWaiting_5, lok_X9_firstWaiting_5, gOpt, h1, h2, sR_1, if_pos hle]
        exact ⟨Or.inr ⟨u, u1, u2, rfl, rfl⟩, trivial⟩
    | succ d ih =>
      intro k f1 f2 o x hkk hf1 hf2 hR
      obtain ⟨g1, rfl⟩ : ∃ g, f1 = g + 1 := ⟨f1 - 1, by omega⟩
      obtain ⟨g2, rfl⟩ : ∃ g, f2 = g + 1 := ⟨f2 - 1, by omega⟩
      have hk4 : k < 40 := by omega
      have hle : ¬ nI tc ≤ nI k := nI_ge (by omega) (by omega)
      have h40' : ¬ (40 : Int32) ≤ nI k := nI_ge (b := 40) (by omega) (by decide)
      have hw := R_isWaiting (Y := Y) (r := r) a hk4
      have q := hq k (by omega)
      rcases hR with ⟨rfl, rfl⟩ | ⟨u, u1, u2, rfl, rfl⟩
      · simp only [lf_X3_firstIn_4, lf_X9_firstWaiting_5, lok_X9_firstWaiting_5, gOpt, h1, h2, sR_1, if_neg hle, if_neg h40', hw.1, hw.2, true_and]
        by_cases hp : bWt r a k = true
        · simp only [if_pos hp, if_pos (q.mpr hp), if_neg (show ¬ (1 : Int32) = 0 by decide), if_true]
          exact ih (k + 1) g1 g2 _ _ (by omega) (by omega) (by omega) (Or.inr ⟨k, by omega, hp, rfl, rfl⟩)
        · simp only [if_neg hp, if_neg (fun z => hp (q.mp z)), if_true]
          exact ih (k + 1) g1 g2 _ _ (by omega) (by omega) (by omega) (Or.inl ⟨rfl, rfl⟩)
      · have hu4 : u < 40 := by omega
        simp only [lf_X3_firstIn_4, lf_X9_firstWaiting_5, lok_X9_firstWaiting_5, gOpt, h1, h2, sR_1, if_neg hle, if_neg h40', hw.1, hw.2, true_and, hk k (by omega), hk u u1, rf_of1 hk4, rf_of1 hu4, ro_of1 hk4, ro_of1 hu4]
        by_cases hp : bWt r a k = true
        · simp only [if_pos hp, if_pos (q.mpr hp), if_neg (show ¬ (1 : Int32) = 0 by decide), if_neg (show ¬ nI u = (-5) from nI_n5 (by omega))]
          by_cases hc : r (294 + 17 * k + 1) ≤ r (294 + 17 * u + 1)
          · simp only [if_pos hc]
            exact ih (k + 1) g1 g2 _ _ (by omega) (by omega) (by omega) (Or.inr ⟨u, u1, u2, rfl, rfl⟩)
          · simp only [if_neg hc]
            exact ih (k + 1) g1 g2 _ _ (by omega) (by omega) (by omega) (Or.inr ⟨k, by omega, hp, rfl, rfl⟩)
        · simp only [if_neg hp, if_neg (fun z => hp (q.mp z)), if_true]
          exact ih (k + 1) g1 g2 _ _ (by omega) (by omega) (by omega) (Or.inr ⟨u, u1, u2, rfl, rfl⟩)
  exact key tc 0 41 2147483648 none (-5) (by omega) (by omega) (by omega) (Or.inl ⟨rfl, rfl⟩)
theorem first_h (h1 : X 0 5 = nI tc) (h2 : r 1 = nI tc) (h40 : tc ≤ 40) (a b : Int32) (hq : ∀ t, t < tc → (f_X5_queue X (35 + 2 * t) = b ↔ bOn r a 2 t = true)) (hk : ∀ t, t < tc → X (35 + 2 * t + 1) 1 = r (294 + 17 * t + 1)) : RO tc (bOn r a 2) (f_X3_firstIn X b) (f_X9_firstInHall (sR Y r) a) ∧ ok_X9_firstInHall (sR Y r) a := by
  have key : ∀ d k f1 f2 o x, k + d = tc → d < f1 → d < f2 → RO tc (bOn r a 2) o x → RO tc (bOn r a 2) (lf_X3_firstIn_4 X b (fun o _ => gOpt o none (fun q2 => some q2)) f1 o k) (lf_X9_firstInHall_5 (sR Y r) a (fun x _ => x) f2 x k) ∧ lok_X9_firstInHall_5 (sR Y r) a (fun _ _ => True) f2 x k := by
    intro d
    induction d with
    | zero =>
      intro k f1 f2 o x hkk hf1 hf2 hR
      obtain ⟨g1, rfl⟩ : ∃ g, f1 = g + 1 := ⟨f1 - 1, by omega⟩
      obtain ⟨g2, rfl⟩ : ∃ g, f2 = g + 1 := ⟨f2 - 1, by omega⟩
      have : k = tc := by omega
      subst this
      have hle : nI k ≤ nI k := nI_le (Nat.le_refl _) (by omega)
      rcases hR with ⟨rfl, rfl⟩ | ⟨u, u1, u2, rfl, rfl⟩
      · simp only [lf_X3_firstIn_4, lf_X9_firstInHall_5, lok_X9_firstInHall_5, gOpt, h1, h2, sR_1, if_pos hle]
        exact ⟨Or.inl ⟨rfl, rfl⟩, trivial⟩
      · simp only [lf_X3_firstIn_4, lf_X9_firstInHall_5, lok_X9_firstInHall_5, gOpt, h1, h2, sR_1, if_pos hle]
        exact ⟨Or.inr ⟨u, u1, u2, rfl, rfl⟩, trivial⟩
    | succ d ih =>
      intro k f1 f2 o x hkk hf1 hf2 hR
      obtain ⟨g1, rfl⟩ : ∃ g, f1 = g + 1 := ⟨f1 - 1, by omega⟩
      obtain ⟨g2, rfl⟩ : ∃ g, f2 = g + 1 := ⟨f2 - 1, by omega⟩
      have hk4 : k < 40 := by omega
      have hle : ¬ nI tc ≤ nI k := nI_ge (by omega) (by omega)
      have h40' : ¬ (40 : Int32) ≤ nI k := nI_ge (b := 40) (by omega) (by decide)
      have q := hq k (by omega)
      have hb : bOn r a 2 k = true ↔ (r (294 + 17 * k + 6) = 2 ∧ r (294 + 17 * k + 7) = a) := by simp [bOn]
      rcases hR with ⟨rfl, rfl⟩ | ⟨u, u1, u2, rfl, rfl⟩
      · simp only [lf_X3_firstIn_4, lf_X9_firstInHall_5, lok_X9_firstInHall_5, gOpt, h1, h2, sR_1, if_neg hle, if_neg h40', rf_of6 hk4, rf_of7 hk4, ro_of6 hk4, ro_of7 hk4, true_and]
        by_cases hp : bOn r a 2 k = true
        · simp only [if_pos (q.mpr hp), if_pos (hb.mp hp).1, if_pos (hb.mp hp).2, if_true]
          exact ih (k + 1) g1 g2 _ _ (by omega) (by omega) (by omega) (Or.inr ⟨k, by omega, hp, rfl, rfl⟩)
        · simp only [if_neg (fun z => hp (q.mp z))]
          by_cases h6 : r (294 + 17 * k + 6) = 2
          · simp only [if_pos h6, if_neg (fun z => hp (hb.mpr ⟨h6, z⟩))]
            exact ih (k + 1) g1 g2 _ _ (by omega) (by omega) (by omega) (Or.inl ⟨rfl, rfl⟩)
          · simp only [if_neg h6]
            exact ih (k + 1) g1 g2 _ _ (by omega) (by omega) (by omega) (Or.inl ⟨rfl, rfl⟩)
      · have hu4 : u < 40 := by omega
        simp only [lf_X3_firstIn_4, lf_X9_firstInHall_5, lok_X9_firstInHall_5, gOpt, h1, h2, sR_1, if_neg hle, if_neg h40', rf_of6 hk4, rf_of7 hk4, ro_of6 hk4, ro_of7 hk4, true_and, hk k (by omega), hk u u1, rf_of1 hk4, rf_of1 hu4, ro_of1 hk4, ro_of1 hu4]
        by_cases hp : bOn r a 2 k = true
        · simp only [if_pos (q.mpr hp), if_pos (hb.mp hp).1, if_pos (hb.mp hp).2, if_neg (show ¬ nI u = (-5) from nI_n5 (by omega))]
          by_cases hc : r (294 + 17 * k + 1) ≤ r (294 + 17 * u + 1)
          · simp only [if_pos hc]
            exact ih (k + 1) g1 g2 _ _ (by omega) (by omega) (by omega) (Or.inr ⟨u, u1, u2, rfl, rfl⟩)
          · simp only [if_neg hc]
            exact ih (k + 1) g1 g2 _ _ (by omega) (by omega) (by omega) (Or.inr ⟨k, by omega, hp, rfl, rfl⟩)
        · simp only [if_neg (fun z => hp (q.mp z))]
          by_cases h6 : r (294 + 17 * k + 6) = 2
          · simp only [if_pos h6, if_neg (fun z => hp (hb.mpr ⟨h6, z⟩))]
            exact ih (k + 1) g1 g2 _ _ (by omega) (by omega) (by omega) (Or.inr ⟨u, u1, u2, rfl, rfl⟩)
          · simp only [if_neg h6]
            exact ih (k + 1) g1 g2 _ _ (by omega) (by omega) (by omega) (Or.inr ⟨u, u1, u2, rfl, rfl⟩)
  exact key tc 0 41 2147483648 none (-5) (by omega) (by omega) (by omega) (Or.inl ⟨rfl, rfl⟩)
/-- the one that would board: it waits, or is in the hall -/
theorem next_sim (h : SS X r tc oc sl ph mn) {l n : Nat} (hl : l < 2) (hn : n < mn l) : RO tc (fun t => decide (r (294 + 17 * t + 6) = 0 ∨ r (294 + 17 * t + 6) = 2)) (f_X3_nextToBoard X (1 + 15 * l + 2 + 1 + 2 * n)) (f_X9_nextAt (sR Y r) (nI (10 * l + n))) ∧ ok_X9_nextAt (sR Y r) (nI (10 * l + n)) := by
  have hn6 : n < 6 := Nat.lt_of_lt_of_le hn (h.mn6 hl)
  have h1 : X 0 5 = nI tc := by rw [h.1.g LK1, h.r1]
  have hk : ∀ t, t < tc → X (35 + 2 * t + 1) 1 = r (294 + 17 * t + 1) := fun t ht => h.1.g (LT1 (Nat.lt_of_lt_of_le ht h.tc4))
  obtain ⟨w1, w2⟩ := first_w (Y := Y) h1 h.r1 h.tc4 (nI (10 * l + n)) (fun t ht => queue_w h hl hn6 ht) hk
  obtain ⟨g1, g2⟩ := first_h (Y := Y) h1 h.r1 h.tc4 (nI l) (20 + nI l) (fun t ht => queue_h h hl ht) hk
  have w3 : RO tc (fun t => decide (r (294 + 17 * t + 6) = 0 ∨ r (294 + 17 * t + 6) = 2)) (f_X3_firstIn X (nI (10 * l + n))) (f_X9_firstWaiting (sR Y r) (nI (10 * l + n))) := by
    rcases w1 with q | ⟨u, u1, u2, u3⟩
    · exact Or.inl q
    · refine Or.inr ⟨u, u1, ?_, u3⟩
      have : r (294 + 17 * u + 6) = 0 ∧ r (294 + 17 * u + 2) = nI (10 * l + n) := by simpa [bWt] using u2
      simp [this.1]
  have ew : gOpt (f_X3_firstIn X (nI (10 * l + n))) (none : Option Nat) (fun q2 => some q2) = f_X3_firstIn X (nI (10 * l + n)) := by
    cases f_X3_firstIn X (nI (10 * l + n)) <;> rfl
  have ej : isJ (1 + 15 * l + 2 + 1 + 2 * n) = if n = 0 then 1 else 0 := by
    unfold isJ
    rw [nS_sta hl hn6]
  have eh : f_X0_hall X (f_X3_lineOf X (nI l)) = 20 + nI l := by
    unfold f_X0_hall
    rw [lineOf_n hl, nL_lin hl]
  unfold f_X3_nextToBoard f_X9_nextAt ok_X9_nextAt
  rw [ej, nS_lin hl hn6, nS_sta hl hn6, st_div hl (by omega), st_mod hl (by omega), eh]
  by_cases h0 : n = 0
  · subst h0
    rw [if_pos rfl, if_neg (show ¬ (1 : Int32) = 0 by decide), if_pos (show nI 0 = 0 from rfl), if_pos (show nI 0 = 0 from rfl)]
    rcases g1 with ⟨q1, q2⟩ | ⟨u, u1, u2, u3, u4⟩
    · rw [q1, q2, if_pos rfl, if_pos rfl]
      refine ⟨?_, g2, w2, trivial⟩
      show RO tc _ (gOpt (f_X3_firstIn X (nI (10 * l + 0))) none (fun q4 => some q4)) _
      rw [ew]
      exact w3
    · rw [u3, u4, if_neg (nI_n5 (by have := h.tc4; omega)), if_neg (nI_n5 (by have := h.tc4; omega))]
      refine ⟨Or.inr ⟨u, u1, ?_, rfl, rfl⟩, g2, trivial⟩
      have : r (294 + 17 * u + 6) = 2 ∧ r (294 + 17 * u + 7) = nI l := by simpa [bOn] using u2
      simp [this.1]
  · have hn0 : nI n ≠ 0 := nI_ne0 (by omega) (by omega)
    rw [if_neg h0, if_pos rfl, if_neg hn0, if_neg hn0, ew]
    exact ⟨w3, w2, trivial⟩
end FIRST
