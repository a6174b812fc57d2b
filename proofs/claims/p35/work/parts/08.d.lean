/-! counting loops on both sides -/
def cn (p : Nat → Bool) : Nat → Nat
  | 0 => 0
  | n + 1 => cn p n + (if p n then 1 else 0)
theorem cn_le (p : Nat → Bool) : ∀ n, cn p n ≤ n := by
  intro n
  induction n with
  | zero => exact Nat.le_refl 0
  | succ n ih =>
    simp only [cn]
    split <;> omega
theorem cn_cong {p q : Nat → Bool} : ∀ n, (∀ k, k < n → p k = q k) → cn p n = cn q n := by
  intro n
  induction n with
  | zero => intro _; rfl
  | succ n ih =>
    intro h
    simp only [cn]
    rw [ih (fun k hk => h k (by omega)), h n (by omega)]
theorem cn_mono {p : Nat → Bool} {m n : Nat} (h : m ≤ n) : cn p m ≤ cn p n := by
  induction n with
  | zero =>
    have : m = 0 := by omega
    subst this
    exact Nat.le_refl _
  | succ n ih =>
    rcases Nat.lt_or_ge m (n + 1) with h1 | h1
    · have := ih (by omega)
      simp only [cn]
      omega
    · have : m = n + 1 := by omega
      subst this
      exact Nat.le_refl _
theorem cn_lt {p : Nat → Bool} {m n : Nat} (h : m < n) (hp : p m = true) : cn p m < cn p n := by
  have h1 : cn p (m + 1) ≤ cn p n := cn_mono (by omega)
  simp only [cn, hp, if_true] at h1
  omega
/-- one place changes -/
theorem cn_set {p q : Nat → Bool} {m : Nat} : ∀ n, m < n → (∀ k, k < n → k ≠ m → q k = p k) → p m = false → q m = true → cn q n = cn p n + 1 := by
  intro n
  induction n with
  | zero => intro h; omega
  | succ n ih =>
    intro hm hs h1 h2
    simp only [cn]
    by_cases h : m = n
    · subst h
      rw [cn_cong (p := q) (q := p) m (fun k hk => hs k (by omega) (by omega)), h1, h2]
      simp
    · rw [ih (by omega) (fun k hk => hs k (by omega)) h1 h2, hs n (by omega) (by omega)]
      omega
def sm (f : Nat → Nat) : Nat → Nat
  | 0 => 0
  | n + 1 => sm f n + f n
theorem sm_cong {f g : Nat → Nat} : ∀ n, (∀ k, k < n → f k = g k) → sm f n = sm g n := by
  intro n
  induction n with
  | zero => intro _; rfl
  | succ n ih =>
    intro h
    simp only [sm]
    rw [ih (fun k hk => h k (by omega)), h n (by omega)]
theorem sm_add {f g : Nat → Nat} : ∀ n, sm (fun k => f k + g k) n = sm f n + sm g n := by
  intro n
  induction n with
  | zero => rfl
  | succ n ih =>
    simp only [sm]
    rw [ih]
    omega
theorem sm_0 : ∀ n, sm (fun _ => 0) n = 0 := by
  intro n
  induction n with
  | zero => rfl
  | succ n ih =>
    simp only [sm]
    rw [ih]
theorem sm_swap {g : Nat → Nat → Nat} {m : Nat} : ∀ n, sm (fun k => sm (g k) m) n = sm (fun t => sm (fun k => g k t) n) m := by
  intro n
  induction n with
  | zero => simp only [sm]; rw [sm_0]
  | succ n ih =>
    simp only [sm]
    rw [ih, sm_add]
theorem sm_one {f : Nat → Nat} {t0 : Nat} : ∀ n, t0 < n → (∀ t, t < n → t ≠ t0 → f t = 0) → f t0 = 1 → sm f n = 1 := by
  intro n
  induction n with
  | zero => intro h; omega
  | succ n ih =>
    intro h hs h1
    simp only [sm]
    by_cases h2 : t0 = n
    · subst h2
      rw [sm_cong (g := fun _ => 0) t0 (fun k hk => hs k (by omega) (by omega)), sm_0, h1]
    · rw [ih (by omega) (fun t ht => hs t (by omega)) h1, hs n (by omega) (by omega)]
theorem sm_zero {f : Nat → Nat} {n : Nat} (h : ∀ t, t < n → f t = 0) : sm f n = 0 := by
  rw [sm_cong (g := fun _ => 0) n h, sm_0]
theorem cn_sm {p : Nat → Bool} : ∀ n, cn p n = sm (fun k => if p k then 1 else 0) n := by
  intro n
  induction n with
  | zero => rfl
  | succ n ih =>
    simp only [cn, sm]
    rw [ih]
/-- as many seats are taken as words ride -/
theorem cn_bij {p q : Nat → Bool} {n m : Nat} {φ : Nat → Nat → Bool} (h1 : ∀ k, k < n → p k = true → ∃ t, t < m ∧ φ k t = true ∧ q t = true) (h2 : ∀ t, t < m → q t = true → ∃ k, k < n ∧ φ k t = true ∧ p k = true) (h3 : ∀ k, k < n → ∀ t, t < m → φ k t = true → p k = true ∧ q t = true) (h4 : ∀ k t t', φ k t = true → φ k t' = true → t < m → t' < m → t = t') (h5 : ∀ k k' t, k < n → k' < n → t < m → φ k t = true → φ k' t = true → k = k') : cn p n = cn q m := by
  rw [cn_sm, cn_sm]
  rw [sm_cong (g := fun k => sm (fun t => if φ k t then 1 else 0) m) n, sm_swap]
  · refine sm_cong m (fun t ht => ?_)
    by_cases hq : q t = true
    · obtain ⟨k, a1, a2, a3⟩ := h2 t ht hq
      rw [if_pos hq]
      refine sm_one n a1 (fun k' hk' hne => ?_) (by rw [if_pos a2])
      rw [if_neg (fun z => hne (h5 k' k t hk' a1 ht z a2))]
    · rw [if_neg hq]
      refine sm_zero (fun k hk => ?_)
      rw [if_neg (fun z => hq (h3 k hk t ht z).2)]
  · intro k hk
    by_cases hp : p k = true
    · obtain ⟨t, a1, a2, a3⟩ := h1 k hk hp
      rw [if_pos hp]
      exact (sm_one m a1 (fun t' ht' hne => by rw [if_neg (fun z => hne (h4 k t' t z a2 ht' a1))]) (by rw [if_pos a2])).symm
    · rw [if_neg hp]
      refine (sm_zero (fun t ht => ?_)).symm
      rw [if_neg (fun z => hp (h3 k hk t ht z).1)]
/-! what is counted -/
def bSt (r : Nat → Int32) (a : Int32) (t : Nat) : Bool := decide (r (294 + 17 * t + 6) = a)
def bOn (r : Nat → Int32) (l a : Int32) (t : Nat) : Bool := decide (r (294 + 17 * t + 6) = a) && decide (r (294 + 17 * t + 7) = l)
def bWt (r : Nat → Int32) (a : Int32) (t : Nat) : Bool := decide (r (294 + 17 * t + 6) = 0) && decide (r (294 + 17 * t + 2) = a)
def bSe (r : Nat → Int32) (l k : Nat) : Bool := decide (r (26 + 24 * l + k) ≠ (-5))
section CNT
variable {X Y : gM} {r : Nat → Int32} {tc : Nat}
theorem cn_step1 {p : Nat → Bool} {k : Nat} (h : p k = true) : nI (cn p k) + 1 = nI (cn p (k + 1)) := by
  simp only [cn, h, if_true]
  exact nI_1 _
theorem cn_step0 {p : Nat → Bool} {k : Nat} (h : p k = false) : nI (cn p k) = nI (cn p (k + 1)) := by
  simp only [cn, h]
  rfl
theorem X_countIn (a : Int32) (h1 : X 0 5 = nI tc) (h40 : tc ≤ 40) (hs : ∀ t, t < tc → X (35 + 2 * t) 4 = r (294 + 17 * t + 6)) : f_X3_countIn X a = nI (cn (bSt r a) tc) := by
  have key : ∀ d k f, k + d = tc → d < f → lf_X3_countIn_4 X a (fun x _ => x) f (nI (cn (bSt r a) k)) k = nI (cn (bSt r a) tc) := by
    intro d
    induction d with
    | zero =>
      intro k f hk hf
      obtain ⟨g, rfl⟩ : ∃ g, f = g + 1 := ⟨f - 1, by omega⟩
      have : k = tc := by omega
      subst this
      simp only [lf_X3_countIn_4, h1]
      rw [if_pos (nI_le (Nat.le_refl _) (by omega))]
    | succ d ih =>
      intro k f hk hf
      obtain ⟨g, rfl⟩ : ∃ g, f = g + 1 := ⟨f - 1, by omega⟩
      simp only [lf_X3_countIn_4, h1]
      rw [if_neg (nI_ge (by omega) (by omega)), if_neg (show ¬ (40 : Int32) ≤ nI k from nI_ge (b := 40) (by omega) (by decide)), hs k (by omega)]
      by_cases hp : r (294 + 17 * k + 6) = a
      · rw [if_pos hp, cn_step1 (by simp [bSt, hp])]
        exact ih (k + 1) g (by omega) (by omega)
      · rw [if_neg hp, cn_step0 (by simp [bSt, hp])]
        exact ih (k + 1) g (by omega) (by omega)
  exact key tc 0 41 (by omega) (by omega)
theorem X_queueLength (a : Int32) (h1 : X 0 5 = nI tc) (h40 : tc ≤ 40) (hs : ∀ t, t < tc → (f_X5_queue X (35 + 2 * t) = a ↔ bWt r a t = true)) : f_X3_queueLength X a = nI (cn (bWt r a) tc) := by
  have key : ∀ d k f, k + d = tc → d < f → lf_X3_queueLength_4 X a (fun x _ => x) f (nI (cn (bWt r a) k)) k = nI (cn (bWt r a) tc) := by
    intro d
    induction d with
    | zero =>
      intro k f hk hf
      obtain ⟨g, rfl⟩ : ∃ g, f = g + 1 := ⟨f - 1, by omega⟩
      have : k = tc := by omega
      subst this
      simp only [lf_X3_queueLength_4, h1]
      rw [if_pos (nI_le (Nat.le_refl _) (by omega))]
    | succ d ih =>
      intro k f hk hf
      obtain ⟨g, rfl⟩ : ∃ g, f = g + 1 := ⟨f - 1, by omega⟩
      simp only [lf_X3_queueLength_4, h1]
      rw [if_neg (nI_ge (by omega) (by omega)), if_neg (show ¬ (40 : Int32) ≤ nI k from nI_ge (b := 40) (by omega) (by decide))]
      by_cases hp : bWt r a k = true
      · rw [if_pos ((hs k (by omega)).mpr hp), cn_step1 hp]
        exact ih (k + 1) g (by omega) (by omega)
      · rw [if_neg (fun z => hp ((hs k (by omega)).mp z)), cn_step0 (by simpa using hp)]
        exact ih (k + 1) g (by omega) (by omega)
  exact key tc 0 41 (by omega) (by omega)
theorem X_hallLength (l : Nat) (c : Nat) (hc : nLin c = l) (h1 : X 0 5 = nI tc) (h40 : tc ≤ 40) (hs : ∀ t, t < tc → X (35 + 2 * t) 4 = r (294 + 17 * t + 6)) (hw : ∀ t, t < tc → X (35 + 2 * t) 5 = r (294 + 17 * t + 7)) : f_X3_hallLength X c = nI (cn (bOn r (nI l) 2) tc) := by
  have key : ∀ d k f, k + d = tc → d < f → lf_X3_hallLength_4 X c (fun x _ => x) f (nI (cn (bOn r (nI l) 2) k)) k = nI (cn (bOn r (nI l) 2) tc) := by
    intro d
    induction d with
    | zero =>
      intro k f hk hf
      obtain ⟨g, rfl⟩ : ∃ g, f = g + 1 := ⟨f - 1, by omega⟩
      have : k = tc := by omega
      subst this
      simp only [lf_X3_hallLength_4, h1]
      rw [if_pos (nI_le (Nat.le_refl _) (by omega))]
    | succ d ih =>
      intro k f hk hf
      obtain ⟨g, rfl⟩ : ∃ g, f = g + 1 := ⟨f - 1, by omega⟩
      simp only [lf_X3_hallLength_4, h1]
      rw [if_neg (nI_ge (by omega) (by omega)), if_neg (show ¬ (40 : Int32) ≤ nI k from nI_ge (b := 40) (by omega) (by decide)), hs k (by omega), hw k (by omega), hc]
      by_cases hp : r (294 + 17 * k + 6) = 2
      · rw [if_pos hp]
        by_cases hq : r (294 + 17 * k + 7) = nI l
        · rw [if_pos hq, cn_step1 (by simp [bOn, hp, hq])]
          exact ih (k + 1) g (by omega) (by omega)
        · rw [if_neg hq, cn_step0 (by simp [bOn, hp, hq])]
          exact ih (k + 1) g (by omega) (by omega)
      · rw [if_neg hp, cn_step0 (by simp [bOn, hp])]
        exact ih (k + 1) g (by omega) (by omega)
  exact key tc 0 41 (by omega) (by omega)
theorem X_riderCount (l : Nat) (c : Nat) (hs : ∀ k, k < 24 → X (c + 1) k = r (26 + 24 * l + k)) : f_X0_riderCount X c = nI (cn (bSe r l) 24) := by
  have key : ∀ d k f, k + d = 24 → d < f → lf_X0_riderCount_4 X c (fun x _ => x) f (nI (cn (bSe r l) k)) k = nI (cn (bSe r l) 24) := by
    intro d
    induction d with
    | zero =>
      intro k f hk hf
      obtain ⟨g, rfl⟩ : ∃ g, f = g + 1 := ⟨f - 1, by omega⟩
      have : k = 24 := by omega
      subst this
      simp only [lf_X0_riderCount_4]
      rw [if_pos (show (24 : Int32) ≤ nI 24 by decide +kernel)]
    | succ d ih =>
      intro k f hk hf
      obtain ⟨g, rfl⟩ : ∃ g, f = g + 1 := ⟨f - 1, by omega⟩
      simp only [lf_X0_riderCount_4]
      rw [if_neg (show ¬ (24 : Int32) ≤ nI k from nI_ge (b := 24) (by omega) (by decide)), hs k (by omega)]
      by_cases hp : r (26 + 24 * l + k) = (-5)
      · rw [if_pos hp, cn_step0 (by simp [bSe, hp])]
        exact ih (k + 1) g (by omega) (by omega)
      · rw [if_neg hp, cn_step1 (by simp [bSe, hp])]
        exact ih (k + 1) g (by omega) (by omega)
  exact key 24 0 25 (by omega) (by omega)
theorem R_inState (a : Int32) (h1 : r 1 = nI tc) (h40 : tc ≤ 40) : f_X9_inState (sR Y r) a = nI (cn (bSt r a) tc) ∧ ok_X9_inState (sR Y r) a := by
  have key : ∀ d k f, k + d = tc → d < f → lf_X9_inState_4 (sR Y r) a (fun x _ => x) f (nI (cn (bSt r a) k)) k = nI (cn (bSt r a) tc) ∧ lok_X9_inState_4 (sR Y r) a (fun _ _ => True) f (nI (cn (bSt r a) k)) k := by
    intro d
    induction d with
    | zero =>
      intro k f hk hf
      obtain ⟨g, rfl⟩ : ∃ g, f = g + 1 := ⟨f - 1, by omega⟩
      have : k = tc := by omega
      subst this
      simp only [lf_X9_inState_4, lok_X9_inState_4, sR_1, h1]
      rw [if_pos (nI_le (Nat.le_refl _) (by omega)), if_pos (nI_le (Nat.le_refl _) (by omega))]
      exact ⟨rfl, trivial⟩
    | succ d ih =>
      intro k f hk hf
      obtain ⟨g, rfl⟩ : ∃ g, f = g + 1 := ⟨f - 1, by omega⟩
      have hk4 : k < 40 := by omega
      simp only [lf_X9_inState_4, lok_X9_inState_4, rf_of6 hk4, ro_of6 hk4, sR_1, h1, Int32.add_zero, true_and]
      rw [if_neg (nI_ge (by omega) (by omega)), if_neg (nI_ge (by omega) (by omega))]
      by_cases hp : r (294 + 17 * k + 6) = a
      · rw [if_pos hp, if_pos hp, cn_step1 (by simp [bSt, hp])]
        exact ih (k + 1) g (by omega) (by omega)
      · rw [if_neg hp, if_neg hp, cn_step0 (by simp [bSt, hp])]
        exact ih (k + 1) g (by omega) (by omega)
  exact key tc 0 2147483648 (by omega) (by omega)
theorem R_on (a1 a2 : Int32) (h1 : r 1 = nI tc) (h40 : tc ≤ 40) : f_X9_on (sR Y r) a1 a2 = nI (cn (bOn r a1 a2) tc) ∧ ok_X9_on (sR Y r) a1 a2 := by
  have key : ∀ d k f, k + d = tc → d < f → lf_X9_on_5 (sR Y r) a1 a2 (fun x _ => x) f (nI (cn (bOn r a1 a2) k)) k = nI (cn (bOn r a1 a2) tc) ∧ lok_X9_on_5 (sR Y r) a1 a2 (fun _ _ => True) f (nI (cn (bOn r a1 a2) k)) k := by
    intro d
    induction d with
    | zero =>
      intro k f hk hf
      obtain ⟨g, rfl⟩ : ∃ g, f = g + 1 := ⟨f - 1, by omega⟩
      have : k = tc := by omega
      subst this
      simp only [lf_X9_on_5, lok_X9_on_5, sR_1, h1]
      rw [if_pos (nI_le (Nat.le_refl _) (by omega)), if_pos (nI_le (Nat.le_refl _) (by omega))]
      exact ⟨rfl, trivial⟩
    | succ d ih =>
      intro k f hk hf
      obtain ⟨g, rfl⟩ : ∃ g, f = g + 1 := ⟨f - 1, by omega⟩
      have hk4 : k < 40 := by omega
      simp only [lf_X9_on_5, lok_X9_on_5, rf_of6 hk4, ro_of6 hk4, rf_of7 hk4, ro_of7 hk4, sR_1, h1, Int32.add_zero, true_and]
      rw [if_neg (nI_ge (by omega) (by omega)), if_neg (nI_ge (by omega) (by omega))]
      by_cases hp : r (294 + 17 * k + 6) = a2
      · rw [if_pos hp, if_pos hp]
        by_cases hq : r (294 + 17 * k + 7) = a1
        · rw [if_pos hq, if_pos hq, cn_step1 (by simp [bOn, hp, hq])]
          exact ih (k + 1) g (by omega) (by omega)
        · rw [if_neg hq, if_neg hq, cn_step0 (by simp [bOn, hp, hq])]
          exact ih (k + 1) g (by omega) (by omega)
      · rw [if_neg hp, if_neg hp, cn_step0 (by simp [bOn, hp])]
        exact ih (k + 1) g (by omega) (by omega)
  exact key tc 0 2147483648 (by omega) (by omega)
theorem R_isWaiting (a : Int32) {t : Nat} (ht : t < 40) : f_X9_isWaiting (sR Y r) (nI t) a = (if bWt r a t = true then 1 else 0) ∧ ok_X9_isWaiting (sR Y r) (nI t) a := by
  simp only [f_X9_isWaiting, ok_X9_isWaiting, rf_of6 ht, rf_of2 ht, ro_of6 ht, ro_of2 ht, sR_1, bWt, true_and, and_true]
  by_cases h : r (294 + 17 * t + 6) = 0
  · by_cases h2 : r (294 + 17 * t + 2) = a
    · simp [h, h2]
    · simp [h, h2]
  · simp [h]
theorem R_waitMany (a : Int32) (h1 : r 1 = nI tc) (h40 : tc ≤ 40) : f_X9_waitMany (sR Y r) a = nI (cn (bWt r a) tc) ∧ ok_X9_waitMany (sR Y r) a := by
  have key : ∀ d k f, k + d = tc → d < f → lf_X9_waitMany_4 (sR Y r) a (fun x _ => x) f (nI (cn (bWt r a) k)) k = nI (cn (bWt r a) tc) ∧ lok_X9_waitMany_4 (sR Y r) a (fun _ _ => True) f (nI (cn (bWt r a) k)) k := by
    intro d
    induction d with
    | zero =>
      intro k f hk hf
      obtain ⟨g, rfl⟩ : ∃ g, f = g + 1 := ⟨f - 1, by omega⟩
      have : k = tc := by omega
      subst this
      simp only [lf_X9_waitMany_4, lok_X9_waitMany_4, sR_1, h1]
      rw [if_pos (nI_le (Nat.le_refl _) (by omega)), if_pos (nI_le (Nat.le_refl _) (by omega))]
      exact ⟨rfl, trivial⟩
    | succ d ih =>
      intro k f hk hf
      obtain ⟨g, rfl⟩ : ∃ g, f = g + 1 := ⟨f - 1, by omega⟩
      have hk4 : k < 40 := by omega
      simp only [lf_X9_waitMany_4, lok_X9_waitMany_4, (R_isWaiting (Y := Y) (r := r) a hk4).1, (R_isWaiting (Y := Y) (r := r) a hk4).2, sR_1, h1, Int32.add_zero, true_and]
      rw [if_neg (nI_ge (by omega) (by omega)), if_neg (nI_ge (by omega) (by omega))]
      by_cases hp : bWt r a k = true
      · rw [if_pos hp, if_neg (show ¬ (1 : Int32) = 0 by decide), if_neg (show ¬ (1 : Int32) = 0 by decide), cn_step1 hp]
        exact ih (k + 1) g (by omega) (by omega)
      · rw [if_neg hp, if_pos rfl, if_pos rfl, cn_step0 (by simpa using hp)]
        exact ih (k + 1) g (by omega) (by omega)
  exact key tc 0 2147483648 (by omega) (by omega)
end CNT
