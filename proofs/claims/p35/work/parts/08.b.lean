/-! the invariant of the reference's row -/
def zr (i : Nat) : Bool :=
  if i < 3 then i != 0 else if i < 10 then false else if i < 26 then (i - 10) % 8 == 0 || (i - 10) % 8 == 1 || (i - 10) % 8 == 4
  else if i < 74 then true else if i < 194 then (i - 74) % 10 == 0 || ((i - 74) % 10 >= 5 && (i - 74) % 10 != 9)
  else if i < 234 then (i - 194) % 10 == 0 || ((i - 194) % 10 >= 4 && (i - 194) % 10 != 5) else if i < 294 then false
  else if i < 974 then (i - 294) % 17 == 1 || (i - 294) % 17 == 2 || (i - 294) % 17 == 3 || (i - 294) % 17 == 4 || (i - 294) % 17 == 6 || (i - 294) % 17 == 7 || (i - 294) % 17 == 8 || (i - 294) % 17 == 14 else false
theorem nz {i j : Nat} (hi : zr i = true) (hj : zr j = false) : i ≠ j := fun z => by rw [z, hj] at hi; exact absurd hi (by decide)
/-- a station's number as callers give it -/
def isC (mn : Nat → Nat) (x : Int32) : Prop := ∃ l n, l < 2 ∧ n < mn l ∧ x = nI (10 * l + n)
def InvL (r : Nat → Int32) (sl ph mn : Nat → Nat) (l : Nat) : Prop := (r (10 + 8 * l + 0) = nI (sl l) ∧ 2 ≤ sl l ∧ sl l ≤ 24) ∧ (r (10 + 8 * l + 1) = nI (ph l) ∧ ph l < sl l) ∧ (r (10 + 8 * l + 4) = nI (mn l) ∧ mn l ≤ 6)
def InvS (r : Nat → Int32) (sl : Nat → Nat) (l n : Nat) : Prop := (∃ o, o < sl l ∧ r (74 + 10 * (6 * l + n) + 0) = nI o) ∧ (∃ q, q ≤ 3 ∧ r (74 + 10 * (6 * l + n) + 5) = nI q)
def InvO (r : Nat → Int32) (mn : Nat → Nat) (o : Nat) : Prop := (∃ p, 1 ≤ p ∧ p ≤ 50 ∧ r (194 + 10 * o + 0) = nI p) ∧ (r (194 + 10 * o + 4) = 0 ∨ r (194 + 10 * o + 4) = 1) ∧ (∃ k, 1 ≤ k ∧ k ≤ 3 ∧ r (194 + 10 * o + 7) = nI k) ∧ isC mn (r (194 + 10 * o + 6)) ∧ isC mn (r (194 + 10 * o + 8)) ∧ (∃ q, 1 ≤ q ∧ q ≤ 9 ∧ r (194 + 10 * o + 9) = nI q)
def InvT (r : Nat → Int32) (sl mn : Nat → Nat) (t : Nat) : Prop := (∃ k, 1 ≤ k ∧ k ≤ 3 ∧ r (294 + 17 * t + 1) = nI k) ∧ isC mn (r (294 + 17 * t + 2)) ∧ isC mn (r (294 + 17 * t + 3)) ∧ (∃ q, 1 ≤ q ∧ q ≤ 9 ∧ r (294 + 17 * t + 14) = nI q) ∧
  ∃ s, s ≤ 8 ∧ r (294 + 17 * t + 6) = nI s ∧ (s < 3 → ∃ q, 1 ≤ q ∧ q ≤ 9 ∧ r (294 + 17 * t + 4) = nI q) ∧
    (s = 1 → ∃ l k, l < 2 ∧ k < sl l ∧ r (294 + 17 * t + 7) = nI l ∧ r (294 + 17 * t + 8) = nI k ∧ r (26 + 24 * l + k) = nI t) ∧ (s = 2 → ∃ l, l < 2 ∧ r (294 + 17 * t + 7) = nI l)
def InvE (r : Nat → Int32) (tc : Nat) (l k : Nat) : Prop := r (26 + 24 * l + k) = (-5) ∨ ∃ t, t < tc ∧ r (26 + 24 * l + k) = nI t ∧ r (294 + 17 * t + 6) = 1 ∧ r (294 + 17 * t + 7) = nI l ∧ r (294 + 17 * t + 8) = nI k
def Inv (r : Nat → Int32) (tc oc : Nat) (sl ph mn : Nat → Nat) : Prop := (r 1 = nI tc ∧ tc ≤ 40) ∧ (r 2 = nI oc ∧ oc ≤ 4) ∧ (∀ l, l < 2 → InvL r sl ph mn l) ∧ (∀ l n, l < 2 → n < mn l → InvS r sl l n) ∧ (∀ l n k, l < 2 → n < 6 → k < 3 → r (74 + 10 * (6 * l + n) + 6 + k) ≠ (-5) ∧ (mn l ≤ n → r (74 + 10 * (6 * l + n) + 6 + k) = 0)) ∧ (∀ o, o < oc → InvO r mn o) ∧ (∀ t, t < tc → InvT r sl mn t) ∧ (∀ l k, l < 2 → k < 24 → InvE r tc l k)
/-- where a word boarded -/
def On (X : gM) (r : Nat → Int32) (tc : Nat) : Prop := ∀ t, t < tc → r (294 + 17 * t + 6) = 1 → X (35 + 2 * t) 13 = 10 * r (294 + 17 * t + 7) + r (294 + 17 * t + 16)
/-- the log: a ring of rows, rows that move -/
def Lg (X : gM) (r : Nat → Int32) : Prop := ∃ kn nx, kn ≤ 12 ∧ nx < 12 ∧ X 33 1 = nI kn ∧ r 9 = nI kn ∧ X 33 2 = nI nx ∧ ∀ b j, b < kn → j < 5 → X 34 ((nx + 11 - b) % 12 * 5 + j) = r (234 + 5 * b + j)
def SS (X : gM) (r : Nat → Int32) (tc oc : Nat) (sl ph mn : Nat → Nat) : Prop := PS [] X r ∧ On X r tc ∧ Lg X r ∧ Inv r tc oc sl ph mn
def SE (X : gM) (r : Nat → Int32) : Prop := ∃ tc oc sl ph mn, SS X r tc oc sl ph mn
theorem zT1 {t : Nat} (h : t < 40) : zr (294 + 17 * t + 1) = true := (show ∀ t, t < 40 → zr (294 + 17 * t + 1) = true by decide +kernel) t h
theorem zT2 {t : Nat} (h : t < 40) : zr (294 + 17 * t + 2) = true := (show ∀ t, t < 40 → zr (294 + 17 * t + 2) = true by decide +kernel) t h
theorem zT3 {t : Nat} (h : t < 40) : zr (294 + 17 * t + 3) = true := (show ∀ t, t < 40 → zr (294 + 17 * t + 3) = true by decide +kernel) t h
theorem zT4 {t : Nat} (h : t < 40) : zr (294 + 17 * t + 4) = true := (show ∀ t, t < 40 → zr (294 + 17 * t + 4) = true by decide +kernel) t h
theorem zT6 {t : Nat} (h : t < 40) : zr (294 + 17 * t + 6) = true := (show ∀ t, t < 40 → zr (294 + 17 * t + 6) = true by decide +kernel) t h
theorem zT7 {t : Nat} (h : t < 40) : zr (294 + 17 * t + 7) = true := (show ∀ t, t < 40 → zr (294 + 17 * t + 7) = true by decide +kernel) t h
theorem zT8 {t : Nat} (h : t < 40) : zr (294 + 17 * t + 8) = true := (show ∀ t, t < 40 → zr (294 + 17 * t + 8) = true by decide +kernel) t h
theorem zT14 {t : Nat} (h : t < 40) : zr (294 + 17 * t + 14) = true := (show ∀ t, t < 40 → zr (294 + 17 * t + 14) = true by decide +kernel) t h
theorem yT0 {t : Nat} (h : t < 40) : zr (294 + 17 * t + 0) = false := (show ∀ t, t < 40 → zr (294 + 17 * t + 0) = false by decide +kernel) t h
theorem yT5 {t : Nat} (h : t < 40) : zr (294 + 17 * t + 5) = false := (show ∀ t, t < 40 → zr (294 + 17 * t + 5) = false by decide +kernel) t h
theorem yT9 {t : Nat} (h : t < 40) : zr (294 + 17 * t + 9) = false := (show ∀ t, t < 40 → zr (294 + 17 * t + 9) = false by decide +kernel) t h
theorem yT10 {t : Nat} (h : t < 40) : zr (294 + 17 * t + 10) = false := (show ∀ t, t < 40 → zr (294 + 17 * t + 10) = false by decide +kernel) t h
theorem yT11 {t : Nat} (h : t < 40) : zr (294 + 17 * t + 11) = false := (show ∀ t, t < 40 → zr (294 + 17 * t + 11) = false by decide +kernel) t h
theorem yT12 {t : Nat} (h : t < 40) : zr (294 + 17 * t + 12) = false := (show ∀ t, t < 40 → zr (294 + 17 * t + 12) = false by decide +kernel) t h
theorem yT13 {t : Nat} (h : t < 40) : zr (294 + 17 * t + 13) = false := (show ∀ t, t < 40 → zr (294 + 17 * t + 13) = false by decide +kernel) t h
theorem yT15 {t : Nat} (h : t < 40) : zr (294 + 17 * t + 15) = false := (show ∀ t, t < 40 → zr (294 + 17 * t + 15) = false by decide +kernel) t h
theorem yT16 {t : Nat} (h : t < 40) : zr (294 + 17 * t + 16) = false := (show ∀ t, t < 40 → zr (294 + 17 * t + 16) = false by decide +kernel) t h
theorem zL0 {l : Nat} (h : l < 2) : zr (10 + 8 * l + 0) = true := (show ∀ l, l < 2 → zr (10 + 8 * l + 0) = true by decide +kernel) l h
theorem zL1 {l : Nat} (h : l < 2) : zr (10 + 8 * l + 1) = true := (show ∀ l, l < 2 → zr (10 + 8 * l + 1) = true by decide +kernel) l h
theorem zL4 {l : Nat} (h : l < 2) : zr (10 + 8 * l + 4) = true := (show ∀ l, l < 2 → zr (10 + 8 * l + 4) = true by decide +kernel) l h
theorem yL2 {l : Nat} (h : l < 2) : zr (10 + 8 * l + 2) = false := (show ∀ l, l < 2 → zr (10 + 8 * l + 2) = false by decide +kernel) l h
theorem yL3 {l : Nat} (h : l < 2) : zr (10 + 8 * l + 3) = false := (show ∀ l, l < 2 → zr (10 + 8 * l + 3) = false by decide +kernel) l h
theorem yL5 {l : Nat} (h : l < 2) : zr (10 + 8 * l + 5) = false := (show ∀ l, l < 2 → zr (10 + 8 * l + 5) = false by decide +kernel) l h
theorem yL6 {l : Nat} (h : l < 2) : zr (10 + 8 * l + 6) = false := (show ∀ l, l < 2 → zr (10 + 8 * l + 6) = false by decide +kernel) l h
theorem yL7 {l : Nat} (h : l < 2) : zr (10 + 8 * l + 7) = false := (show ∀ l, l < 2 → zr (10 + 8 * l + 7) = false by decide +kernel) l h
theorem zE {l k : Nat} (h : l < 2) (hk : k < 24) : zr (26 + 24 * l + k) = true := (show ∀ l, l < 2 → ∀ k, k < 24 → zr (26 + 24 * l + k) = true by decide +kernel) l h k hk
theorem zS0 {l n : Nat} (h : l < 2) (hn : n < 6) : zr (74 + 10 * (6 * l + n) + 0) = true := (show ∀ l, l < 2 → ∀ n, n < 6 → zr (74 + 10 * (6 * l + n) + 0) = true by decide +kernel) l h n hn
theorem zS5 {l n : Nat} (h : l < 2) (hn : n < 6) : zr (74 + 10 * (6 * l + n) + 5) = true := (show ∀ l, l < 2 → ∀ n, n < 6 → zr (74 + 10 * (6 * l + n) + 5) = true by decide +kernel) l h n hn
theorem yS1 {l n : Nat} (h : l < 2) (hn : n < 6) : zr (74 + 10 * (6 * l + n) + 1) = false := (show ∀ l, l < 2 → ∀ n, n < 6 → zr (74 + 10 * (6 * l + n) + 1) = false by decide +kernel) l h n hn
theorem yS2 {l n : Nat} (h : l < 2) (hn : n < 6) : zr (74 + 10 * (6 * l + n) + 2) = false := (show ∀ l, l < 2 → ∀ n, n < 6 → zr (74 + 10 * (6 * l + n) + 2) = false by decide +kernel) l h n hn
theorem yS3 {l n : Nat} (h : l < 2) (hn : n < 6) : zr (74 + 10 * (6 * l + n) + 3) = false := (show ∀ l, l < 2 → ∀ n, n < 6 → zr (74 + 10 * (6 * l + n) + 3) = false by decide +kernel) l h n hn
theorem yS4 {l n : Nat} (h : l < 2) (hn : n < 6) : zr (74 + 10 * (6 * l + n) + 4) = false := (show ∀ l, l < 2 → ∀ n, n < 6 → zr (74 + 10 * (6 * l + n) + 4) = false by decide +kernel) l h n hn
theorem yS9 {l n : Nat} (h : l < 2) (hn : n < 6) : zr (74 + 10 * (6 * l + n) + 9) = false := (show ∀ l, l < 2 → ∀ n, n < 6 → zr (74 + 10 * (6 * l + n) + 9) = false by decide +kernel) l h n hn
theorem zV {l n k : Nat} (h : l < 2) (hn : n < 6) (hk : k < 3) : zr (74 + 10 * (6 * l + n) + 6 + k) = true := (show ∀ l, l < 2 → ∀ n, n < 6 → ∀ k, k < 3 → zr (74 + 10 * (6 * l + n) + 6 + k) = true by decide +kernel) l h n hn k hk
theorem zO0 {o : Nat} (h : o < 4) : zr (194 + 10 * o + 0) = true := (show ∀ o, o < 4 → zr (194 + 10 * o + 0) = true by decide +kernel) o h
theorem zO4 {o : Nat} (h : o < 4) : zr (194 + 10 * o + 4) = true := (show ∀ o, o < 4 → zr (194 + 10 * o + 4) = true by decide +kernel) o h
theorem zO6 {o : Nat} (h : o < 4) : zr (194 + 10 * o + 6) = true := (show ∀ o, o < 4 → zr (194 + 10 * o + 6) = true by decide +kernel) o h
theorem zO7 {o : Nat} (h : o < 4) : zr (194 + 10 * o + 7) = true := (show ∀ o, o < 4 → zr (194 + 10 * o + 7) = true by decide +kernel) o h
theorem zO8 {o : Nat} (h : o < 4) : zr (194 + 10 * o + 8) = true := (show ∀ o, o < 4 → zr (194 + 10 * o + 8) = true by decide +kernel) o h
theorem zO9 {o : Nat} (h : o < 4) : zr (194 + 10 * o + 9) = true := (show ∀ o, o < 4 → zr (194 + 10 * o + 9) = true by decide +kernel) o h
theorem yO1 {o : Nat} (h : o < 4) : zr (194 + 10 * o + 1) = false := (show ∀ o, o < 4 → zr (194 + 10 * o + 1) = false by decide +kernel) o h
theorem yO2 {o : Nat} (h : o < 4) : zr (194 + 10 * o + 2) = false := (show ∀ o, o < 4 → zr (194 + 10 * o + 2) = false by decide +kernel) o h
theorem yO3 {o : Nat} (h : o < 4) : zr (194 + 10 * o + 3) = false := (show ∀ o, o < 4 → zr (194 + 10 * o + 3) = false by decide +kernel) o h
theorem yO5 {o : Nat} (h : o < 4) : zr (194 + 10 * o + 5) = false := (show ∀ o, o < 4 → zr (194 + 10 * o + 5) = false by decide +kernel) o h
theorem yK0 : zr 0 = false := by decide +kernel
theorem yK3 : zr 3 = false := by decide +kernel
theorem yK4 : zr 4 = false := by decide +kernel
theorem yK5 : zr 5 = false := by decide +kernel
theorem yK6 : zr 6 = false := by decide +kernel
theorem yK7 : zr 7 = false := by decide +kernel
theorem yK8 : zr 8 = false := by decide +kernel
theorem yK9 : zr 9 = false := by decide +kernel
theorem nI_inj {a b : Nat} (ha : a < 2147483648) (hb : b < 2147483648) (h : nI a = nI b) : a = b := (nI_eq ha hb).mp h
theorem nI_n5 {a : Nat} (h : a < 2147483648) : nI a ≠ (-5) := fun z => by
  have h1 := nI_toInt h
  rw [z] at h1
  have h2 : (-5 : Int32).toInt = -5 := by decide
  omega
theorem Inv.same {r r' : Nat → Int32} {tc oc : Nat} {sl ph mn : Nat → Nat} (h : Inv r tc oc sl ph mn) (hs : ∀ i, zr i = true → r' i = r i) : Inv r' tc oc sl ph mn := by
  obtain ⟨⟨a1, a2⟩, ⟨b1, b2⟩, c, d, e, f, g, k⟩ := h
  have m6 : ∀ l, l < 2 → mn l ≤ 6 := fun l hl => (c l hl).2.2.2
  have s24 : ∀ l, l < 2 → sl l ≤ 24 := fun l hl => (c l hl).1.2.2
  refine ⟨⟨by rw [hs 1 (by decide +kernel), a1], a2⟩, ⟨by rw [hs 2 (by decide +kernel), b1], b2⟩, ?_, ?_, ?_, ?_, ?_, ?_⟩
  · intro l hl
    unfold InvL
    rw [hs _ (zL0 hl), hs _ (zL1 hl), hs _ (zL4 hl)]
    exact c l hl
  · intro l n hl hn
    have h6 : n < 6 := Nat.lt_of_lt_of_le hn (m6 l hl)
    unfold InvS
    rw [hs _ (zS0 hl h6), hs _ (zS5 hl h6)]
    exact d l n hl hn
  · intro l n q hl h2 h3
    rw [hs _ (zV hl h2 h3)]
    exact e l n q hl h2 h3
  · intro o ho
    have h4 : o < 4 := Nat.lt_of_lt_of_le ho b2
    unfold InvO
    rw [hs _ (zO0 h4), hs _ (zO4 h4), hs _ (zO6 h4), hs _ (zO7 h4), hs _ (zO8 h4), hs _ (zO9 h4)]
    exact f o ho
  · intro t ht
    have h4 : t < 40 := Nat.lt_of_lt_of_le ht a2
    have q := g t ht
    unfold InvT at q ⊢
    rw [hs _ (zT1 h4), hs _ (zT2 h4), hs _ (zT3 h4), hs _ (zT14 h4), hs _ (zT6 h4), hs _ (zT4 h4), hs _ (zT7 h4), hs _ (zT8 h4)]
    obtain ⟨q1, q2, q3, q4, s, q5, q6, q7, q8, q9⟩ := q
    refine ⟨q1, q2, q3, q4, s, q5, q6, q7, fun hz => ?_, q9⟩
    obtain ⟨l, j, w1, w2, w3, w4, w5⟩ := q8 hz
    exact ⟨l, j, w1, w2, w3, w4, by rw [hs _ (zE w1 (Nat.lt_of_lt_of_le w2 (s24 l w1))), w5]⟩
  · intro l j hl hj
    unfold InvE
    rw [hs _ (zE hl hj)]
    rcases k l j hl hj with q | ⟨t, q1, q2, q3, q4, q5⟩
    · exact Or.inl q
    · have h4 : t < 40 := Nat.lt_of_lt_of_le q1 a2
      exact Or.inr ⟨t, q1, q2, by rw [hs _ (zT6 h4), q3], by rw [hs _ (zT7 h4), q4], by rw [hs _ (zT8 h4), q5]⟩
/-- a word leaves its seat for the state z -/
theorem Inv.leave {r r' : Nat → Int32} {tc oc : Nat} {sl ph mn : Nat → Nat} (h : Inv r tc oc sl ph mn) {t l k z : Nat} (ht : t < tc) (hl : l < 2) (hk : k < 24) (hse : r (26 + 24 * l + k) = nI t) (h1 : r' (26 + 24 * l + k) = (-5)) (h6 : r' (294 + 17 * t + 6) = nI z) (hz : z ≤ 8) (hz1 : z ≠ 1) (hz2 : z = 2 → ∃ l', l' < 2 ∧ r' (294 + 17 * t + 7) = nI l') (hz0 : z ≠ 0) (h4z : r' (294 + 17 * t + 4) = r (294 + 17 * t + 4) ∨ 3 ≤ z)
    (hs : ∀ i, zr i = true → i ≠ 26 + 24 * l + k → i ≠ 294 + 17 * t + 6 → i ≠ 294 + 17 * t + 7 → i ≠ 294 + 17 * t + 8 → i ≠ 294 + 17 * t + 4 → r' i = r i) : Inv r' tc oc sl ph mn := by
  obtain ⟨⟨a1, a2⟩, ⟨b1, b2⟩, c, d, e, f, g, kk⟩ := h
  have ht4 : t < 40 := Nat.lt_of_lt_of_le ht a2
  obtain ⟨t1, e1, e2, e3, e4, e5⟩ := (kk l k hl hk).resolve_left (by rw [hse]; exact nI_n5 (by omega))
  have et : t1 = t := nI_inj (by omega) (by omega) (e2.symm.trans hse)
  subst et
  have m6 : ∀ l, l < 2 → mn l ≤ 6 := fun l hl => (c l hl).2.2.2
  have s24 : ∀ l, l < 2 → sl l ≤ 24 := fun l hl => (c l hl).1.2.2
  refine ⟨⟨by rw [hs 1 (by decide +kernel) (by omega) (by omega) (by omega) (by omega) (by omega), a1], a2⟩, ⟨by rw [hs 2 (by decide +kernel) (by omega) (by omega) (by omega) (by omega) (by omega), b1], b2⟩, ?_, ?_, ?_, ?_, ?_, ?_⟩
  · intro l' hl'
    unfold InvL
    rw [hs _ (zL0 hl') (by omega) (by omega) (by omega) (by omega) (by omega), hs _ (zL1 hl') (by omega) (by omega) (by omega) (by omega) (by omega), hs _ (zL4 hl') (by omega) (by omega) (by omega) (by omega) (by omega)]
    exact c l' hl'
  · intro l' n hl' hn
    have h6' : n < 6 := Nat.lt_of_lt_of_le hn (m6 l' hl')
    unfold InvS
    rw [hs _ (zS0 hl' h6') (by omega) (by omega) (by omega) (by omega) (by omega), hs _ (zS5 hl' h6') (by omega) (by omega) (by omega) (by omega) (by omega)]
    exact d l' n hl' hn
  · intro l' n q hl' w2 w3
    rw [hs _ (zV hl' w2 w3) (by omega) (by omega) (by omega) (by omega) (by omega)]
    exact e l' n q hl' w2 w3
  · intro o ho
    have h4 : o < 4 := Nat.lt_of_lt_of_le ho b2
    unfold InvO
    rw [hs _ (zO0 h4) (by omega) (by omega) (by omega) (by omega) (by omega), hs _ (zO4 h4) (by omega) (by omega) (by omega) (by omega) (by omega), hs _ (zO6 h4) (by omega) (by omega) (by omega) (by omega) (by omega), hs _ (zO7 h4) (by omega) (by omega) (by omega) (by omega) (by omega), hs _ (zO8 h4) (by omega) (by omega) (by omega) (by omega) (by omega), hs _ (zO9 h4) (by omega) (by omega) (by omega) (by omega) (by omega)]
    exact f o ho
  · intro u hu
    have h4 : u < 40 := Nat.lt_of_lt_of_le hu a2
    have q := g u hu
    unfold InvT at q ⊢
    rw [hs _ (zT1 h4) (by omega) (by omega) (by omega) (by omega) (by omega), hs _ (zT2 h4) (by omega) (by omega) (by omega) (by omega) (by omega), hs _ (zT3 h4) (by omega) (by omega) (by omega) (by omega) (by omega), hs _ (zT14 h4) (by omega) (by omega) (by omega) (by omega) (by omega)]
    obtain ⟨q1, q2, q3, q4, s, q5, q6, q7, q8, q9⟩ := q
    by_cases hut : u = t1
    · subst hut
      have hs1 : s = 1 := nI_inj (by omega) (by omega) (q6.symm.trans e3)
      refine ⟨q1, q2, q3, q4, z, hz, h6, fun hz3 => ?_, fun hz' => absurd hz' hz1, hz2⟩
      rcases h4z with h4z | h4z
      · rw [h4z]
        exact q7 (by omega)
      · omega
    · rw [hs _ (zT4 h4) (by omega) (by omega) (by omega) (by omega) (by omega), hs _ (zT6 h4) (by omega) (by omega) (by omega) (by omega) (by omega), hs _ (zT7 h4) (by omega) (by omega) (by omega) (by omega) (by omega), hs _ (zT8 h4) (by omega) (by omega) (by omega) (by omega) (by omega)]
      refine ⟨q1, q2, q3, q4, s, q5, q6, q7, fun hz' => ?_, q9⟩
      obtain ⟨l', j, w1, w2, w3, w4, w5⟩ := q8 hz'
      have hj : j < 24 := Nat.lt_of_lt_of_le w2 (s24 l' w1)
      refine ⟨l', j, w1, w2, w3, w4, ?_⟩
      rw [hs _ (zE w1 hj) (fun zz => hut (nI_inj (by omega) (by omega) (w5.symm.trans ((by rw [zz]) : r (26 + 24 * l' + j) = r (26 + 24 * l + k)) |>.trans hse))) (by omega) (by omega) (by omega) (by omega), w5]
  · intro l' j hl' hj
    unfold InvE
    by_cases hij : 26 + 24 * l' + j = 26 + 24 * l + k
    · rw [hij]
      exact Or.inl h1
    · rw [hs _ (zE hl' hj) hij (by omega) (by omega) (by omega) (by omega)]
      rcases kk l' j hl' hj with q | ⟨u, q1, q2, q3, q4, q5⟩
      · exact Or.inl q
      · have h4 : u < 40 := Nat.lt_of_lt_of_le q1 a2
        have hut : u ≠ t1 := by
          rintro rfl
          have w1 := nI_inj (by omega) (by omega) (q4.symm.trans e4)
          have w2 := nI_inj (by omega) (by omega) (q5.symm.trans e5)
          omega
        exact Or.inr ⟨u, q1, q2, by rw [hs _ (zT6 h4) (by omega) (by omega) (by omega) (by omega) (by omega), q3], by rw [hs _ (zT7 h4) (by omega) (by omega) (by omega) (by omega) (by omega), q4], by rw [hs _ (zT8 h4) (by omega) (by omega) (by omega) (by omega) (by omega), q5]⟩
/-- a word that waits, or is in a hall, takes an empty seat -/
theorem Inv.board {r r' : Nat → Int32} {tc oc : Nat} {sl ph mn : Nat → Nat} (h : Inv r tc oc sl ph mn) {t l k : Nat} (ht : t < tc) (hl : l < 2) (hk : k < sl l) (hse : r (26 + 24 * l + k) = (-5)) (h0 : r (294 + 17 * t + 6) = 0 ∨ r (294 + 17 * t + 6) = 2) (h1 : r' (26 + 24 * l + k) = nI t) (h6 : r' (294 + 17 * t + 6) = 1) (h7 : r' (294 + 17 * t + 7) = nI l) (h8 : r' (294 + 17 * t + 8) = nI k)
    (hs : ∀ i, zr i = true → i ≠ 26 + 24 * l + k → i ≠ 294 + 17 * t + 6 → i ≠ 294 + 17 * t + 7 → i ≠ 294 + 17 * t + 8 → r' i = r i) : Inv r' tc oc sl ph mn := by
  obtain ⟨⟨a1, a2⟩, ⟨b1, b2⟩, c, d, e, f, g, kk⟩ := h
  have ht4 : t < 40 := Nat.lt_of_lt_of_le ht a2
  have m6 : ∀ l, l < 2 → mn l ≤ 6 := fun l hl => (c l hl).2.2.2
  have s24 : ∀ l, l < 2 → sl l ≤ 24 := fun l hl => (c l hl).1.2.2
  have hk24 := Nat.lt_of_lt_of_le hk (s24 l hl)
  refine ⟨⟨by rw [hs 1 (by decide +kernel) (by omega) (by omega) (by omega) (by omega), a1], a2⟩, ⟨by rw [hs 2 (by decide +kernel) (by omega) (by omega) (by omega) (by omega), b1], b2⟩, ?_, ?_, ?_, ?_, ?_, ?_⟩
  · intro l' hl'
    unfold InvL
    rw [hs _ (zL0 hl') (by omega) (by omega) (by omega) (by omega), hs _ (zL1 hl') (by omega) (by omega) (by omega) (by omega), hs _ (zL4 hl') (by omega) (by omega) (by omega) (by omega)]
    exact c l' hl'
  · intro l' n hl' hn
    have h6' : n < 6 := Nat.lt_of_lt_of_le hn (m6 l' hl')
    unfold InvS
    rw [hs _ (zS0 hl' h6') (by omega) (by omega) (by omega) (by omega), hs _ (zS5 hl' h6') (by omega) (by omega) (by omega) (by omega)]
    exact d l' n hl' hn
  · intro l' n q hl' w2 w3
    rw [hs _ (zV hl' w2 w3) (by omega) (by omega) (by omega) (by omega)]
    exact e l' n q hl' w2 w3
  · intro o ho
    have h4 : o < 4 := Nat.lt_of_lt_of_le ho b2
    unfold InvO
    rw [hs _ (zO0 h4) (by omega) (by omega) (by omega) (by omega), hs _ (zO4 h4) (by omega) (by omega) (by omega) (by omega), hs _ (zO6 h4) (by omega) (by omega) (by omega) (by omega), hs _ (zO7 h4) (by omega) (by omega) (by omega) (by omega), hs _ (zO8 h4) (by omega) (by omega) (by omega) (by omega), hs _ (zO9 h4) (by omega) (by omega) (by omega) (by omega)]
    exact f o ho
  · intro u hu
    have h4 : u < 40 := Nat.lt_of_lt_of_le hu a2
    have q := g u hu
    unfold InvT at q ⊢
    rw [hs _ (zT1 h4) (by omega) (by omega) (by omega) (by omega), hs _ (zT2 h4) (by omega) (by omega) (by omega) (by omega), hs _ (zT3 h4) (by omega) (by omega) (by omega) (by omega), hs _ (zT14 h4) (by omega) (by omega) (by omega) (by omega), hs _ (zT4 h4) (by omega) (by omega) (by omega) (by omega)]
    obtain ⟨q1, q2, q3, q4, s, q5, q6, q7, q8, q9⟩ := q
    by_cases hut : u = t
    · subst hut
      have hs3 : s < 3 := by
        rcases h0 with h0 | h0
        · have := nI_inj (b := 0) (by omega) (by omega) (q6.symm.trans h0)
          omega
        · have := nI_inj (b := 2) (by omega) (by omega) (q6.symm.trans h0)
          omega
      exact ⟨q1, q2, q3, q4, 1, by omega, h6, fun _ => q7 hs3, fun _ => ⟨l, k, hl, hk, h7, h8, h1⟩, fun z => absurd z (by decide)⟩
    · rw [hs _ (zT6 h4) (by omega) (by omega) (by omega) (by omega), hs _ (zT7 h4) (by omega) (by omega) (by omega) (by omega), hs _ (zT8 h4) (by omega) (by omega) (by omega) (by omega)]
      refine ⟨q1, q2, q3, q4, s, q5, q6, q7, fun hz' => ?_, q9⟩
      obtain ⟨l', j, w1, w2, w3, w4, w5⟩ := q8 hz'
      have hj : j < 24 := Nat.lt_of_lt_of_le w2 (s24 l' w1)
      refine ⟨l', j, w1, w2, w3, w4, ?_⟩
      rw [hs _ (zE w1 hj) (fun zz => nI_n5 (by omega) (w5.symm.trans ((by rw [zz]) : r (26 + 24 * l' + j) = r (26 + 24 * l + k)) |>.trans hse)) (by omega) (by omega) (by omega), w5]
  · intro l' j hl' hj
    unfold InvE
    by_cases hij : 26 + 24 * l' + j = 26 + 24 * l + k
    · have w1 : l' = l := by omega
      have w2 : j = k := by omega
      subst w1
      subst w2
      exact Or.inr ⟨t, ht, h1, h6, h7, h8⟩
    · rw [hs _ (zE hl' hj) hij (by omega) (by omega) (by omega)]
      rcases kk l' j hl' hj with q | ⟨u, q1, q2, q3, q4, q5⟩
      · exact Or.inl q
      · have h4 : u < 40 := Nat.lt_of_lt_of_le q1 a2
        have hut : u ≠ t := by
          rintro rfl
          rw [q3] at h0
          exact absurd h0 (by decide)
        exact Or.inr ⟨u, q1, q2, by rw [hs _ (zT6 h4) (by omega) (by omega) (by omega) (by omega), q3], by rw [hs _ (zT7 h4) (by omega) (by omega) (by omega) (by omega), q4], by rw [hs _ (zT8 h4) (by omega) (by omega) (by omega) (by omega), q5]⟩
/-- a lap is used -/
theorem Inv.laps {r r' : Nat → Int32} {tc oc : Nat} {sl ph mn : Nat → Nat} (h : Inv r tc oc sl ph mn) {t q' : Nat} (ht : t < tc) (h4' : r' (294 + 17 * t + 4) = nI q') (hq1 : 1 ≤ q') (hq9 : q' ≤ 9)
    (hs : ∀ i, i ≠ 294 + 17 * t + 4 → r' i = r i) : Inv r' tc oc sl ph mn := by
  obtain ⟨⟨a1, a2⟩, ⟨b1, b2⟩, c, d, e, f, g, kk⟩ := h
  refine ⟨⟨by rw [hs 1 (by omega), a1], a2⟩, ⟨by rw [hs 2 (by omega), b1], b2⟩, ?_, ?_, ?_, ?_, ?_, ?_⟩
  · intro l hl
    unfold InvL
    rw [hs _ (by omega), hs _ (by omega), hs _ (by omega)]
    exact c l hl
  · intro l n hl hn
    have := (c l hl).2.2.2
    unfold InvS
    rw [hs _ (by omega), hs _ (by omega)]
    exact d l n hl hn
  · intro l n q hl w2 w3
    rw [hs _ (by omega)]
    exact e l n q hl w2 w3
  · intro o ho
    unfold InvO
    rw [hs _ (by omega), hs _ (by omega), hs _ (by omega), hs _ (by omega), hs _ (by omega), hs _ (by omega)]
    exact f o ho
  · intro u hu
    have q := g u hu
    unfold InvT at q ⊢
    rw [hs (294 + 17 * u + 1) (by omega), hs (294 + 17 * u + 2) (by omega), hs (294 + 17 * u + 3) (by omega), hs (294 + 17 * u + 14) (by omega), hs (294 + 17 * u + 6) (by omega), hs (294 + 17 * u + 7) (by omega), hs (294 + 17 * u + 8) (by omega)]
    obtain ⟨q1, q2, q3, q4, s, q5, q6, q7, q8, q9⟩ := q
    refine ⟨q1, q2, q3, q4, s, q5, q6, fun hz => ?_, fun hz => ?_, q9⟩
    · by_cases hut : u = t
      · subst hut
        exact ⟨q', hq1, hq9, h4'⟩
      · rw [hs _ (by omega)]
        exact q7 hz
    · obtain ⟨l, j, w1, w2, w3, w4, w5⟩ := q8 hz
      have := (c l w1).1.2.2
      exact ⟨l, j, w1, w2, w3, w4, by rw [hs _ (by omega), w5]⟩
  · intro l j hl hj
    unfold InvE
    rw [hs _ (by omega)]
    rcases kk l j hl hj with q | ⟨u, q1, q2, q3, q4, q5⟩
    · exact Or.inl q
    · exact Or.inr ⟨u, q1, q2, by rw [hs _ (by omega), q3], by rw [hs _ (by omega), q4], by rw [hs _ (by omega), q5]⟩
