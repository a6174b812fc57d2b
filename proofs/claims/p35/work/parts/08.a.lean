/-! the pure part: where a State's memory (cell, field) and the reference's row (place) hold the same number -/
def zc (i : Nat) : Nat :=
  if i < 10 then 0 else if i < 26 then 1 + 15 * ((i - 10) / 8) else if i < 74 then 2 + 15 * ((i - 26) / 24)
  else if i < 194 then (if (i - 74) % 10 < 6 then 4 else 5) + 15 * ((i - 74) / 60) + 2 * ((i - 74) / 10 % 6)
  else if i < 234 then (if (i - 194) % 10 < 5 then 115 else 116) + 2 * ((i - 194) / 10)
  else if i < 294 then 0
  else (if (i - 294) % 17 < 4 ∨ (i - 294) % 17 = 14 then 36 else 35) + 2 * ((i - 294) / 17)
def zf (i : Nat) : Nat :=
  if i < 10 then [7, 5, 6, 10, 11, 12, 8, 9, 13, 0].getD i 0 else if i < 26 then [4, 5, 6, 7, 3, 8, 9, 0].getD ((i - 10) % 8) 0
  else if i < 74 then (i - 26) % 24 else if i < 194 then [5, 6, 7, 8, 9, 4, 0, 1, 2, 0].getD ((i - 74) % 10) 0
  else if i < 234 then [1, 2, 3, 4, 5, 0, 2, 1, 3, 4].getD ((i - 194) % 10) 0 else if i < 294 then 0
  else [0, 1, 2, 3, 2, 3, 4, 5, 6, 7, 8, 9, 10, 11, 4, 12, 0].getD ((i - 294) % 17) 0
def zp (i : Nat) : Bool :=
  if i < 9 then true else if i < 10 then false else if i < 26 then (i - 10) % 8 != 7 else if i < 74 then true
  else if i < 194 then (i - 74) % 10 != 9 else if i < 234 then true else if i < 294 then false
  else if i < 974 then (i - 294) % 17 != 16 else false
def zi (c j : Nat) : Nat :=
  if c = 0 then [9, 9, 9, 9, 9, 1, 2, 0, 6, 7, 3, 4, 5, 8].getD j 9
  else if c = 1 ∨ c = 16 then 10 + 8 * ((c - 1) / 15) + [7, 7, 7, 4, 0, 1, 2, 3, 5, 6].getD j 7
  else if c = 2 ∨ c = 17 then 26 + 24 * ((c - 2) / 15) + j
  else if c < 31 then (if c < 16 then 74 + 10 * ((c - 4) / 2) + (if c % 2 = 0 then [9, 9, 9, 9, 5, 0, 1, 2, 3, 4].getD j 9 else 6 + j) else 134 + 10 * ((c - 19) / 2) + (if c % 2 = 1 then [9, 9, 9, 9, 5, 0, 1, 2, 3, 4].getD j 9 else 6 + j))
  else if c < 115 then 294 + 17 * ((c - 35) / 2) + (if c % 2 = 1 then [16, 16, 4, 5, 6, 7, 8, 9, 10, 11, 12, 13, 15].getD j 16 else [0, 1, 2, 3, 14].getD j 16)
  else 194 + 10 * ((c - 115) / 2) + (if c % 2 = 1 then [9, 0, 1, 2, 3, 4].getD j 9 else [5, 7, 6, 8, 9].getD j 9)
theorem z_inv : ∀ i, i < 974 → zp i = true → zi (zc i) (zf i) = i := by decide +kernel
theorem z_lt {i : Nat} (h : zp i = true) : i < 974 := by
  by_cases h1 : i < 974
  · exact h1
  · unfold zp at h
    rw [if_neg (by omega), if_neg (by omega), if_neg (by omega), if_neg (by omega), if_neg (by omega), if_neg (by omega), if_neg (by omega), if_neg h1] at h
    exact absurd h (by decide)
theorem z_inj {i k : Nat} (hi : zp i = true) (hk : zp k = true) (hc : zc i = zc k) (hf : zf i = zf k) : i = k := by
  rw [← z_inv i (z_lt hi) hi, ← z_inv k (z_lt hk) hk, hc, hf]
/-- the place i of the row is the field j of the cell c -/
def LC (i c j : Nat) : Prop := zp i = true ∧ zc i = c ∧ zf i = j
/-- no place of the row is this field -/
def NLC (c j : Nat) : Prop := ∀ i, zp i = true → ¬ (zc i = c ∧ zf i = j)
/-- all places but those of E agree -/
def PS (E : List Nat) (X : gM) (r : Nat → Int32) : Prop := ∀ i, zp i = true → i ∉ E → X (zc i) (zf i) = r i
theorem updM_ss {X : gM} {c j : Nat} {v : Int32} : updM X c j v c j = v := by simp [updM, upd]
theorem updM_sn {X : gM} {c j k : Nat} {v : Int32} (h : k ≠ j) : updM X c j v c k = X c k := by simp [updM, upd, h]
theorem updM_n {X : gM} {c a j k : Nat} {v : Int32} (h : a ≠ c) : updM X c j v a k = X a k := by simp [updM, h]
theorem PS.get {E : List Nat} {X : gM} {r : Nat → Int32} {i c j : Nat} (h : PS E X r) (hl : LC i c j) (he : i ∉ E) : X c j = r i := by
  obtain ⟨h1, rfl, rfl⟩ := hl
  exact h i h1 he
theorem PS.g {X : gM} {r : Nat → Int32} {i c j : Nat} (h : PS [] X r) (hl : LC i c j) : X c j = r i := h.get hl (by simp)
theorem PS.set {E : List Nat} {X : gM} {r : Nat → Int32} {i c j : Nat} {v : Int32} (hl : LC i c j) (hv : r i = v) (h : PS (i :: E) X r) : PS E (updM X c j v) r := by
  obtain ⟨h1, rfl, rfl⟩ := hl
  intro k hk he
  by_cases hki : k = i
  · subst hki
    rw [updM_ss, hv]
  · have hq : X (zc k) (zf k) = r k := h k hk (by simp [hki, he])
    by_cases hc : zc k = zc i
    · rw [hc, updM_sn (fun z => hki (z_inj hk h1 hc z)), ← hc, hq]
    · rw [updM_n hc, hq]
theorem PS.setE {E : List Nat} {X : gM} {r : Nat → Int32} {i c j : Nat} {v : Int32} (hl : LC i c j) (hv : i ∈ E) (h : PS E X r) : PS E (updM X c j v) r := by
  obtain ⟨h1, rfl, rfl⟩ := hl
  intro k hk he
  have hki : k ≠ i := fun z => he (z ▸ hv)
  by_cases hc : zc k = zc i
  · rw [hc, updM_sn (fun z => hki (z_inj hk h1 hc z)), ← hc, h k hk he]
  · rw [updM_n hc, h k hk he]
theorem PS.ign {E : List Nat} {X : gM} {r : Nat → Int32} {c j : Nat} {v : Int32} (hn : NLC c j) (h : PS E X r) : PS E (updM X c j v) r := by
  intro k hk he
  by_cases hc : zc k = c
  · rw [hc, updM_sn (fun z => hn k hk ⟨hc, z⟩), ← hc, h k hk he]
  · rw [updM_n hc, h k hk he]
theorem PS.rset {E : List Nat} {X : gM} {r : Nat → Int32} {i : Nat} {v : Int32} (hi : i ∈ E) (h : PS E X r) : PS E X (upd r i v) := by
  intro k hk he
  rw [pk_un (show k ≠ i from fun z => he (by rw [z]; exact hi)), h k hk he]
theorem PS.rign {E : List Nat} {X : gM} {r : Nat → Int32} {i : Nat} {v : Int32} (hi : zp i = false) (h : PS E X r) : PS E X (upd r i v) := by
  intro k hk he
  rw [pk_un (show k ≠ i from fun z => by rw [z, hi] at hk; exact absurd hk (by decide)), h k hk he]
theorem PS.w {E E' : List Nat} {X : gM} {r : Nat → Int32} (h : PS E X r) (hs : ∀ i, i ∈ E → i ∈ E') : PS E' X r := fun k hk he => h k hk (fun z => he (hs k z))
theorem PS.w0 {E : List Nat} {X : gM} {r : Nat → Int32} (h : PS [] X r) : PS E X r := h.w (by simp)
theorem PS.x {E : List Nat} {X X' : gM} {r : Nat → Int32} (h : PS E X r) (hs : ∀ c j, (c ≠ 33 ∧ c ≠ 34) → X' c j = X c j) : PS E X' r := by
  intro k hk he
  have hq : ∀ k, k < 974 → zc k ≠ 33 ∧ zc k ≠ 34 := by decide +kernel
  rw [hs _ _ (hq k (z_lt hk)), h k hk he]
theorem PS.r {E : List Nat} {X : gM} {r r' : Nat → Int32} (h : PS E X r) (hs : ∀ i, (i < 9 ∨ 10 ≤ i ∧ i < 234 ∨ 294 ≤ i) → r' i = r i) : PS E X r' := by
  intro k hk he
  have hq : ∀ k, k < 974 → zp k = true → (k < 9 ∨ 10 ≤ k ∧ k < 234 ∨ 294 ≤ k) := by decide +kernel
  rw [hs _ (hq k (z_lt hk) hk), h k hk he]
theorem NL33 {j : Nat} : NLC 33 j := by
  have hq : ∀ k, k < 974 → zc k ≠ 33 := by decide +kernel
  exact fun i hi h => hq i (z_lt hi) h.1
theorem NL34 {j : Nat} : NLC 34 j := by
  have hq : ∀ k, k < 974 → zc k ≠ 34 := by decide +kernel
  exact fun i hi h => hq i (z_lt hi) h.1
theorem NLT {t : Nat} : NLC (35 + 2 * t) 13 := by
  have hq : ∀ k, k < 974 → zp k = true → zf k = 13 → zc k < 35 := by decide +kernel
  intro i hi h
  have := hq i (z_lt hi) hi h.2
  omega
theorem LK0 : LC 0 0 7 := ⟨by decide +kernel, by decide +kernel, by decide +kernel⟩
theorem LK1 : LC 1 0 5 := ⟨by decide +kernel, by decide +kernel, by decide +kernel⟩
theorem LK2 : LC 2 0 6 := ⟨by decide +kernel, by decide +kernel, by decide +kernel⟩
theorem LK3 : LC 3 0 10 := ⟨by decide +kernel, by decide +kernel, by decide +kernel⟩
theorem LK4 : LC 4 0 11 := ⟨by decide +kernel, by decide +kernel, by decide +kernel⟩
theorem LK5 : LC 5 0 12 := ⟨by decide +kernel, by decide +kernel, by decide +kernel⟩
theorem LK6 : LC 6 0 8 := ⟨by decide +kernel, by decide +kernel, by decide +kernel⟩
theorem LK7 : LC 7 0 9 := ⟨by decide +kernel, by decide +kernel, by decide +kernel⟩
theorem LK8 : LC 8 0 13 := ⟨by decide +kernel, by decide +kernel, by decide +kernel⟩
theorem LL0 {l : Nat} (h : l < 2) : LC (10 + 8 * l + 0) (1 + 15 * l) 4 := (show ∀ l, l < 2 → zp (10 + 8 * l + 0) = true ∧ zc (10 + 8 * l + 0) = 1 + 15 * l ∧ zf (10 + 8 * l + 0) = 4 by decide +kernel) l h
theorem LL1 {l : Nat} (h : l < 2) : LC (10 + 8 * l + 1) (1 + 15 * l) 5 := (show ∀ l, l < 2 → zp (10 + 8 * l + 1) = true ∧ zc (10 + 8 * l + 1) = 1 + 15 * l ∧ zf (10 + 8 * l + 1) = 5 by decide +kernel) l h
theorem LL2 {l : Nat} (h : l < 2) : LC (10 + 8 * l + 2) (1 + 15 * l) 6 := (show ∀ l, l < 2 → zp (10 + 8 * l + 2) = true ∧ zc (10 + 8 * l + 2) = 1 + 15 * l ∧ zf (10 + 8 * l + 2) = 6 by decide +kernel) l h
theorem LL3 {l : Nat} (h : l < 2) : LC (10 + 8 * l + 3) (1 + 15 * l) 7 := (show ∀ l, l < 2 → zp (10 + 8 * l + 3) = true ∧ zc (10 + 8 * l + 3) = 1 + 15 * l ∧ zf (10 + 8 * l + 3) = 7 by decide +kernel) l h
theorem LL4 {l : Nat} (h : l < 2) : LC (10 + 8 * l + 4) (1 + 15 * l) 3 := (show ∀ l, l < 2 → zp (10 + 8 * l + 4) = true ∧ zc (10 + 8 * l + 4) = 1 + 15 * l ∧ zf (10 + 8 * l + 4) = 3 by decide +kernel) l h
theorem LL5 {l : Nat} (h : l < 2) : LC (10 + 8 * l + 5) (1 + 15 * l) 8 := (show ∀ l, l < 2 → zp (10 + 8 * l + 5) = true ∧ zc (10 + 8 * l + 5) = 1 + 15 * l ∧ zf (10 + 8 * l + 5) = 8 by decide +kernel) l h
theorem LL6 {l : Nat} (h : l < 2) : LC (10 + 8 * l + 6) (1 + 15 * l) 9 := (show ∀ l, l < 2 → zp (10 + 8 * l + 6) = true ∧ zc (10 + 8 * l + 6) = 1 + 15 * l ∧ zf (10 + 8 * l + 6) = 9 by decide +kernel) l h
theorem LE {l k : Nat} (h : l < 2) (hk : k < 24) : LC (26 + 24 * l + k) (1 + 15 * l + 1) k := (show ∀ l, l < 2 → ∀ k, k < 24 → zp (26 + 24 * l + k) = true ∧ zc (26 + 24 * l + k) = 1 + 15 * l + 1 ∧ zf (26 + 24 * l + k) = k by decide +kernel) l h k hk
theorem LS0 {l n : Nat} (h : l < 2) (hn : n < 6) : LC (74 + 10 * (6 * l + n) + 0) (1 + 15 * l + 2 + 1 + 2 * n) 5 := (show ∀ l, l < 2 → ∀ n, n < 6 → zp (74 + 10 * (6 * l + n) + 0) = true ∧ zc (74 + 10 * (6 * l + n) + 0) = 1 + 15 * l + 2 + 1 + 2 * n ∧ zf (74 + 10 * (6 * l + n) + 0) = 5 by decide +kernel) l h n hn
theorem LS1 {l n : Nat} (h : l < 2) (hn : n < 6) : LC (74 + 10 * (6 * l + n) + 1) (1 + 15 * l + 2 + 1 + 2 * n) 6 := (show ∀ l, l < 2 → ∀ n, n < 6 → zp (74 + 10 * (6 * l + n) + 1) = true ∧ zc (74 + 10 * (6 * l + n) + 1) = 1 + 15 * l + 2 + 1 + 2 * n ∧ zf (74 + 10 * (6 * l + n) + 1) = 6 by decide +kernel) l h n hn
theorem LS2 {l n : Nat} (h : l < 2) (hn : n < 6) : LC (74 + 10 * (6 * l + n) + 2) (1 + 15 * l + 2 + 1 + 2 * n) 7 := (show ∀ l, l < 2 → ∀ n, n < 6 → zp (74 + 10 * (6 * l + n) + 2) = true ∧ zc (74 + 10 * (6 * l + n) + 2) = 1 + 15 * l + 2 + 1 + 2 * n ∧ zf (74 + 10 * (6 * l + n) + 2) = 7 by decide +kernel) l h n hn
theorem LS3 {l n : Nat} (h : l < 2) (hn : n < 6) : LC (74 + 10 * (6 * l + n) + 3) (1 + 15 * l + 2 + 1 + 2 * n) 8 := (show ∀ l, l < 2 → ∀ n, n < 6 → zp (74 + 10 * (6 * l + n) + 3) = true ∧ zc (74 + 10 * (6 * l + n) + 3) = 1 + 15 * l + 2 + 1 + 2 * n ∧ zf (74 + 10 * (6 * l + n) + 3) = 8 by decide +kernel) l h n hn
theorem LS4 {l n : Nat} (h : l < 2) (hn : n < 6) : LC (74 + 10 * (6 * l + n) + 4) (1 + 15 * l + 2 + 1 + 2 * n) 9 := (show ∀ l, l < 2 → ∀ n, n < 6 → zp (74 + 10 * (6 * l + n) + 4) = true ∧ zc (74 + 10 * (6 * l + n) + 4) = 1 + 15 * l + 2 + 1 + 2 * n ∧ zf (74 + 10 * (6 * l + n) + 4) = 9 by decide +kernel) l h n hn
theorem LS5 {l n : Nat} (h : l < 2) (hn : n < 6) : LC (74 + 10 * (6 * l + n) + 5) (1 + 15 * l + 2 + 1 + 2 * n) 4 := (show ∀ l, l < 2 → ∀ n, n < 6 → zp (74 + 10 * (6 * l + n) + 5) = true ∧ zc (74 + 10 * (6 * l + n) + 5) = 1 + 15 * l + 2 + 1 + 2 * n ∧ zf (74 + 10 * (6 * l + n) + 5) = 4 by decide +kernel) l h n hn
theorem LV {l n k : Nat} (h : l < 2) (hn : n < 6) (hk : k < 3) : LC (74 + 10 * (6 * l + n) + 6 + k) (1 + 15 * l + 2 + 1 + 2 * n + 1) k := (show ∀ l, l < 2 → ∀ n, n < 6 → ∀ k, k < 3 → zp (74 + 10 * (6 * l + n) + 6 + k) = true ∧ zc (74 + 10 * (6 * l + n) + 6 + k) = 1 + 15 * l + 2 + 1 + 2 * n + 1 ∧ zf (74 + 10 * (6 * l + n) + 6 + k) = k by decide +kernel) l h n hn k hk
theorem LO0 {o : Nat} (h : o < 4) : LC (194 + 10 * o + 0) (115 + 2 * o) 1 := (show ∀ o, o < 4 → zp (194 + 10 * o + 0) = true ∧ zc (194 + 10 * o + 0) = 115 + 2 * o ∧ zf (194 + 10 * o + 0) = 1 by decide +kernel) o h
theorem LO1 {o : Nat} (h : o < 4) : LC (194 + 10 * o + 1) (115 + 2 * o) 2 := (show ∀ o, o < 4 → zp (194 + 10 * o + 1) = true ∧ zc (194 + 10 * o + 1) = 115 + 2 * o ∧ zf (194 + 10 * o + 1) = 2 by decide +kernel) o h
theorem LO2 {o : Nat} (h : o < 4) : LC (194 + 10 * o + 2) (115 + 2 * o) 3 := (show ∀ o, o < 4 → zp (194 + 10 * o + 2) = true ∧ zc (194 + 10 * o + 2) = 115 + 2 * o ∧ zf (194 + 10 * o + 2) = 3 by decide +kernel) o h
theorem LO3 {o : Nat} (h : o < 4) : LC (194 + 10 * o + 3) (115 + 2 * o) 4 := (show ∀ o, o < 4 → zp (194 + 10 * o + 3) = true ∧ zc (194 + 10 * o + 3) = 115 + 2 * o ∧ zf (194 + 10 * o + 3) = 4 by decide +kernel) o h
theorem LO4 {o : Nat} (h : o < 4) : LC (194 + 10 * o + 4) (115 + 2 * o) 5 := (show ∀ o, o < 4 → zp (194 + 10 * o + 4) = true ∧ zc (194 + 10 * o + 4) = 115 + 2 * o ∧ zf (194 + 10 * o + 4) = 5 by decide +kernel) o h
theorem LO5 {o : Nat} (h : o < 4) : LC (194 + 10 * o + 5) (115 + 2 * o + 1) 0 := (show ∀ o, o < 4 → zp (194 + 10 * o + 5) = true ∧ zc (194 + 10 * o + 5) = 115 + 2 * o + 1 ∧ zf (194 + 10 * o + 5) = 0 by decide +kernel) o h
theorem LO6 {o : Nat} (h : o < 4) : LC (194 + 10 * o + 6) (115 + 2 * o + 1) 2 := (show ∀ o, o < 4 → zp (194 + 10 * o + 6) = true ∧ zc (194 + 10 * o + 6) = 115 + 2 * o + 1 ∧ zf (194 + 10 * o + 6) = 2 by decide +kernel) o h
theorem LO7 {o : Nat} (h : o < 4) : LC (194 + 10 * o + 7) (115 + 2 * o + 1) 1 := (show ∀ o, o < 4 → zp (194 + 10 * o + 7) = true ∧ zc (194 + 10 * o + 7) = 115 + 2 * o + 1 ∧ zf (194 + 10 * o + 7) = 1 by decide +kernel) o h
theorem LO8 {o : Nat} (h : o < 4) : LC (194 + 10 * o + 8) (115 + 2 * o + 1) 3 := (show ∀ o, o < 4 → zp (194 + 10 * o + 8) = true ∧ zc (194 + 10 * o + 8) = 115 + 2 * o + 1 ∧ zf (194 + 10 * o + 8) = 3 by decide +kernel) o h
theorem LO9 {o : Nat} (h : o < 4) : LC (194 + 10 * o + 9) (115 + 2 * o + 1) 4 := (show ∀ o, o < 4 → zp (194 + 10 * o + 9) = true ∧ zc (194 + 10 * o + 9) = 115 + 2 * o + 1 ∧ zf (194 + 10 * o + 9) = 4 by decide +kernel) o h
theorem LT0 {t : Nat} (h : t < 40) : LC (294 + 17 * t + 0) (35 + 2 * t + 1) 0 := (show ∀ t, t < 40 → zp (294 + 17 * t + 0) = true ∧ zc (294 + 17 * t + 0) = 35 + 2 * t + 1 ∧ zf (294 + 17 * t + 0) = 0 by decide +kernel) t h
theorem LT1 {t : Nat} (h : t < 40) : LC (294 + 17 * t + 1) (35 + 2 * t + 1) 1 := (show ∀ t, t < 40 → zp (294 + 17 * t + 1) = true ∧ zc (294 + 17 * t + 1) = 35 + 2 * t + 1 ∧ zf (294 + 17 * t + 1) = 1 by decide +kernel) t h
theorem LT2 {t : Nat} (h : t < 40) : LC (294 + 17 * t + 2) (35 + 2 * t + 1) 2 := (show ∀ t, t < 40 → zp (294 + 17 * t + 2) = true ∧ zc (294 + 17 * t + 2) = 35 + 2 * t + 1 ∧ zf (294 + 17 * t + 2) = 2 by decide +kernel) t h
theorem LT3 {t : Nat} (h : t < 40) : LC (294 + 17 * t + 3) (35 + 2 * t + 1) 3 := (show ∀ t, t < 40 → zp (294 + 17 * t + 3) = true ∧ zc (294 + 17 * t + 3) = 35 + 2 * t + 1 ∧ zf (294 + 17 * t + 3) = 3 by decide +kernel) t h
theorem LT4 {t : Nat} (h : t < 40) : LC (294 + 17 * t + 4) (35 + 2 * t) 2 := (show ∀ t, t < 40 → zp (294 + 17 * t + 4) = true ∧ zc (294 + 17 * t + 4) = 35 + 2 * t ∧ zf (294 + 17 * t + 4) = 2 by decide +kernel) t h
theorem LT5 {t : Nat} (h : t < 40) : LC (294 + 17 * t + 5) (35 + 2 * t) 3 := (show ∀ t, t < 40 → zp (294 + 17 * t + 5) = true ∧ zc (294 + 17 * t + 5) = 35 + 2 * t ∧ zf (294 + 17 * t + 5) = 3 by decide +kernel) t h
theorem LT6 {t : Nat} (h : t < 40) : LC (294 + 17 * t + 6) (35 + 2 * t) 4 := (show ∀ t, t < 40 → zp (294 + 17 * t + 6) = true ∧ zc (294 + 17 * t + 6) = 35 + 2 * t ∧ zf (294 + 17 * t + 6) = 4 by decide +kernel) t h
theorem LT7 {t : Nat} (h : t < 40) : LC (294 + 17 * t + 7) (35 + 2 * t) 5 := (show ∀ t, t < 40 → zp (294 + 17 * t + 7) = true ∧ zc (294 + 17 * t + 7) = 35 + 2 * t ∧ zf (294 + 17 * t + 7) = 5 by decide +kernel) t h
theorem LT8 {t : Nat} (h : t < 40) : LC (294 + 17 * t + 8) (35 + 2 * t) 6 := (show ∀ t, t < 40 → zp (294 + 17 * t + 8) = true ∧ zc (294 + 17 * t + 8) = 35 + 2 * t ∧ zf (294 + 17 * t + 8) = 6 by decide +kernel) t h
theorem LT9 {t : Nat} (h : t < 40) : LC (294 + 17 * t + 9) (35 + 2 * t) 7 := (show ∀ t, t < 40 → zp (294 + 17 * t + 9) = true ∧ zc (294 + 17 * t + 9) = 35 + 2 * t ∧ zf (294 + 17 * t + 9) = 7 by decide +kernel) t h
theorem LT10 {t : Nat} (h : t < 40) : LC (294 + 17 * t + 10) (35 + 2 * t) 8 := (show ∀ t, t < 40 → zp (294 + 17 * t + 10) = true ∧ zc (294 + 17 * t + 10) = 35 + 2 * t ∧ zf (294 + 17 * t + 10) = 8 by decide +kernel) t h
theorem LT11 {t : Nat} (h : t < 40) : LC (294 + 17 * t + 11) (35 + 2 * t) 9 := (show ∀ t, t < 40 → zp (294 + 17 * t + 11) = true ∧ zc (294 + 17 * t + 11) = 35 + 2 * t ∧ zf (294 + 17 * t + 11) = 9 by decide +kernel) t h
theorem LT12 {t : Nat} (h : t < 40) : LC (294 + 17 * t + 12) (35 + 2 * t) 10 := (show ∀ t, t < 40 → zp (294 + 17 * t + 12) = true ∧ zc (294 + 17 * t + 12) = 35 + 2 * t ∧ zf (294 + 17 * t + 12) = 10 by decide +kernel) t h
theorem LT13 {t : Nat} (h : t < 40) : LC (294 + 17 * t + 13) (35 + 2 * t) 11 := (show ∀ t, t < 40 → zp (294 + 17 * t + 13) = true ∧ zc (294 + 17 * t + 13) = 35 + 2 * t ∧ zf (294 + 17 * t + 13) = 11 by decide +kernel) t h
theorem LT14 {t : Nat} (h : t < 40) : LC (294 + 17 * t + 14) (35 + 2 * t + 1) 4 := (show ∀ t, t < 40 → zp (294 + 17 * t + 14) = true ∧ zc (294 + 17 * t + 14) = 35 + 2 * t + 1 ∧ zf (294 + 17 * t + 14) = 4 by decide +kernel) t h
theorem LT15 {t : Nat} (h : t < 40) : LC (294 + 17 * t + 15) (35 + 2 * t) 12 := (show ∀ t, t < 40 → zp (294 + 17 * t + 15) = true ∧ zc (294 + 17 * t + 15) = 35 + 2 * t ∧ zf (294 + 17 * t + 15) = 12 by decide +kernel) t h
theorem NLon {t : Nat} (h : t < 40) : zp (294 + 17 * t + 16) = false := (show ∀ t, t < 40 → zp (294 + 17 * t + 16) = false by decide +kernel) t h
theorem NLs9 {l n : Nat} (h : l < 2) (hn : n < 6) : zp (74 + 10 * (6 * l + n) + 9) = false := (show ∀ l, l < 2 → ∀ n, n < 6 → zp (74 + 10 * (6 * l + n) + 9) = false by decide +kernel) l h n hn
/-! the reference's memory with the row r -/
def sR (Y : gM) (r : Nat → Int32) : gM := fun c => if c = 1 then r else Y c
theorem sR_1 {Y : gM} {r : Nat → Int32} : sR Y r 1 = r := rfl
theorem sR_o {Y : gM} {r : Nat → Int32} {c : Nat} (h : c ≠ 1) : sR Y r c = Y c := by simp [sR, h]
theorem sR_0 {Y : gM} {r : Nat → Int32} : sR Y r 0 = Y 0 := rfl
theorem sR_id {Y : gM} : sR Y (Y 1) = Y := by
  funext c
  unfold sR
  split
  · rename_i h
    rw [h]
  · rfl
theorem sR_u1 {Y : gM} {r : Nat → Int32} {i : Nat} {v : Int32} : updM (sR Y r) 1 i v = sR Y (upd r i v) := by
  funext c
  by_cases h : c = 1 <;> simp [updM, sR, h]
theorem sR_uo {Y : gM} {r : Nat → Int32} {c i : Nat} {v : Int32} (h : c ≠ 1) : updM (sR Y r) c i v = sR (updM Y c i v) r := by
  funext a
  by_cases h1 : a = 1
  · subst h1
    simp [updM, sR, Ne.symm h]
  · by_cases h2 : a = c
    · subst h2
      simp [updM, sR, h1]
    · simp [updM, sR, h1, h2]
theorem sR_u0 {Y : gM} {r : Nat → Int32} {i : Nat} {v : Int32} : updM (sR Y r) 0 i v = sR (updM Y 0 i v) r := sR_uo (by decide)
theorem nI_mul (a b : Nat) : nI a * nI b = nI (a * b) := (Int32.ofNat_mul a b).symm
theorem iT {t w : Nat} : (294 + (17 * nI t)) + nI w = nI (294 + 17 * t + w) := by
  show (nI 294 + nI 17 * nI t) + nI w = _
  rw [nI_mul, nI_add, nI_add]
theorem iE {l k : Nat} : (26 + (24 * nI l)) + nI k = nI (26 + 24 * l + k) := by
  show (nI 26 + nI 24 * nI l) + nI k = _
  rw [nI_mul, nI_add, nI_add]
theorem iL {l w : Nat} : (10 + (8 * nI l)) + nI w = nI (10 + 8 * l + w) := by
  show (nI 10 + nI 8 * nI l) + nI w = _
  rw [nI_mul, nI_add, nI_add]
theorem c1 {a : Nat} (h : a < 2147483648) : (nI a).toNatClampNeg = a := nI_clamp h
section RF
variable {X : gM} {t l n k w : Nat} {v : Int32}
theorem rf_of (h : t < 40) (hw : w < 17) : f_X9_of X (nI t) (nI w) = X 1 (294 + 17 * t + w) := by
  simp only [f_X9_of, iT]
  rw [c1 (by omega)]
theorem ro_of (h : t < 40) (hw : w < 17) : ok_X9_of X (nI t) (nI w) := by
  simp only [ok_X9_of, iT]
  exact ⟨vp_in_nI (by omega) (by decide), trivial⟩
theorem rp_put (h : t < 40) (hw : w < 17) : p_X9_put X (nI t) (nI w) v = updM X 1 (294 + 17 * t + w) v := by
  simp only [p_X9_put, iT]
  rw [c1 (by omega)]
theorem ro_put (h : t < 40) (hw : w < 17) : ok_X9_put X (nI t) (nI w) v := by
  simp only [ok_X9_put, iT]
  exact ⟨vp_in_nI (by omega) (by decide), trivial⟩
theorem rf_seat (h : l < 2) (hk : k < 24) : f_X9_seat X (nI l) (nI k) = X 1 (26 + 24 * l + k) := by
  simp only [f_X9_seat, iE]
  rw [c1 (by omega)]
theorem ro_seat (h : l < 2) (hk : k < 24) : ok_X9_seat X (nI l) (nI k) := by
  simp only [ok_X9_seat, iE]
  exact ⟨vp_in_nI (by omega) (by decide), trivial⟩
theorem ri_seat (h : l < 2) (hk : k < 24) : ((26 + (24 * nI l)) + nI k).toNatClampNeg = 26 + 24 * l + k := by
  rw [iE, c1 (by omega)]
theorem rv_seat (h : l < 2) (hk : k < 24) : vp_in ((26 + (24 * nI l)) + nI k) 974 := by
  rw [iE]
  exact vp_in_nI (by omega) (by decide)
theorem rf_line (h : l < 2) (hw : w < 8) : f_X9_ofLine X (nI l) (nI w) = X 1 (10 + 8 * l + w) := by
  simp only [f_X9_ofLine, iL]
  rw [c1 (by omega)]
theorem ro_line (h : l < 2) (hw : w < 8) : ok_X9_ofLine X (nI l) (nI w) := by
  simp only [ok_X9_ofLine, iL]
  exact ⟨vp_in_nI (by omega) (by decide), trivial⟩
theorem ri_line (h : l < 2) (hw : w < 8) : ((10 + (8 * nI l)) + nI w).toNatClampNeg = 10 + 8 * l + w := by
  rw [iL, c1 (by omega)]
theorem rv_line (h : l < 2) (hw : w < 8) : vp_in ((10 + (8 * nI l)) + nI w) 974 := by
  rw [iL]
  exact vp_in_nI (by omega) (by decide)
theorem st_at (h : l < 2) (hn : n < 6) : f_X9_stationAt (nI (10 * l + n)) = nI (74 + 10 * (6 * l + n)) := (show ∀ l, l < 2 → ∀ n, n < 6 → f_X9_stationAt (nI (10 * l + n)) = nI (74 + 10 * (6 * l + n)) by decide +kernel) l h n hn
theorem st_div (h : l < 2) (hn : n < 10) : nI (10 * l + n) / 10 = nI l := (show ∀ l, l < 2 → ∀ n, n < 10 → nI (10 * l + n) / 10 = nI l by decide +kernel) l h n hn
theorem st_mod (h : l < 2) (hn : n < 10) : nI (10 * l + n) - nI l * 10 = nI n := (show ∀ l, l < 2 → ∀ n, n < 10 → nI (10 * l + n) - nI l * 10 = nI n by decide +kernel) l h n hn
theorem st_in (h : l < 2) (hn : n < 10) : f_X9_in (nI (10 * l + n)) 0 19 = 1 := (show ∀ l, l < 2 → ∀ n, n < 10 → f_X9_in (nI (10 * l + n)) 0 19 = 1 by decide +kernel) l h n hn
theorem iS {a w : Nat} (h : a + w < 2147483648) : (nI a + nI w).toNatClampNeg = a + w := by rw [nI_add, c1 h]
theorem vS {a w : Nat} (h : a + w < 974) : vp_in (nI a + nI w) 974 := by
  rw [nI_add]
  exact vp_in_nI h (by decide)
end RF
theorem rf_of0 {X : gM} {t : Nat} (h : t < 40) : f_X9_of X (nI t) 0 = X 1 (294 + 17 * t + 0) := rf_of (w := 0) h (by decide)
theorem ro_of0 {X : gM} {t : Nat} (h : t < 40) : ok_X9_of X (nI t) 0 := ro_of (w := 0) h (by decide)
theorem rp_put0 {X : gM} {t : Nat} {v : Int32} (h : t < 40) : p_X9_put X (nI t) 0 v = updM X 1 (294 + 17 * t + 0) v := rp_put (w := 0) h (by decide)
theorem ro_put0 {X : gM} {t : Nat} {v : Int32} (h : t < 40) : ok_X9_put X (nI t) 0 v := ro_put (w := 0) h (by decide)
theorem rf_of1 {X : gM} {t : Nat} (h : t < 40) : f_X9_of X (nI t) 1 = X 1 (294 + 17 * t + 1) := rf_of (w := 1) h (by decide)
theorem ro_of1 {X : gM} {t : Nat} (h : t < 40) : ok_X9_of X (nI t) 1 := ro_of (w := 1) h (by decide)
theorem rp_put1 {X : gM} {t : Nat} {v : Int32} (h : t < 40) : p_X9_put X (nI t) 1 v = updM X 1 (294 + 17 * t + 1) v := rp_put (w := 1) h (by decide)
theorem ro_put1 {X : gM} {t : Nat} {v : Int32} (h : t < 40) : ok_X9_put X (nI t) 1 v := ro_put (w := 1) h (by decide)
theorem rf_of2 {X : gM} {t : Nat} (h : t < 40) : f_X9_of X (nI t) 2 = X 1 (294 + 17 * t + 2) := rf_of (w := 2) h (by decide)
theorem ro_of2 {X : gM} {t : Nat} (h : t < 40) : ok_X9_of X (nI t) 2 := ro_of (w := 2) h (by decide)
theorem rp_put2 {X : gM} {t : Nat} {v : Int32} (h : t < 40) : p_X9_put X (nI t) 2 v = updM X 1 (294 + 17 * t + 2) v := rp_put (w := 2) h (by decide)
theorem ro_put2 {X : gM} {t : Nat} {v : Int32} (h : t < 40) : ok_X9_put X (nI t) 2 v := ro_put (w := 2) h (by decide)
theorem rf_of3 {X : gM} {t : Nat} (h : t < 40) : f_X9_of X (nI t) 3 = X 1 (294 + 17 * t + 3) := rf_of (w := 3) h (by decide)
theorem ro_of3 {X : gM} {t : Nat} (h : t < 40) : ok_X9_of X (nI t) 3 := ro_of (w := 3) h (by decide)
theorem rp_put3 {X : gM} {t : Nat} {v : Int32} (h : t < 40) : p_X9_put X (nI t) 3 v = updM X 1 (294 + 17 * t + 3) v := rp_put (w := 3) h (by decide)
theorem ro_put3 {X : gM} {t : Nat} {v : Int32} (h : t < 40) : ok_X9_put X (nI t) 3 v := ro_put (w := 3) h (by decide)
theorem rf_of4 {X : gM} {t : Nat} (h : t < 40) : f_X9_of X (nI t) 4 = X 1 (294 + 17 * t + 4) := rf_of (w := 4) h (by decide)
theorem ro_of4 {X : gM} {t : Nat} (h : t < 40) : ok_X9_of X (nI t) 4 := ro_of (w := 4) h (by decide)
theorem rp_put4 {X : gM} {t : Nat} {v : Int32} (h : t < 40) : p_X9_put X (nI t) 4 v = updM X 1 (294 + 17 * t + 4) v := rp_put (w := 4) h (by decide)
theorem ro_put4 {X : gM} {t : Nat} {v : Int32} (h : t < 40) : ok_X9_put X (nI t) 4 v := ro_put (w := 4) h (by decide)
theorem rf_of5 {X : gM} {t : Nat} (h : t < 40) : f_X9_of X (nI t) 5 = X 1 (294 + 17 * t + 5) := rf_of (w := 5) h (by decide)
theorem ro_of5 {X : gM} {t : Nat} (h : t < 40) : ok_X9_of X (nI t) 5 := ro_of (w := 5) h (by decide)
theorem rp_put5 {X : gM} {t : Nat} {v : Int32} (h : t < 40) : p_X9_put X (nI t) 5 v = updM X 1 (294 + 17 * t + 5) v := rp_put (w := 5) h (by decide)
theorem ro_put5 {X : gM} {t : Nat} {v : Int32} (h : t < 40) : ok_X9_put X (nI t) 5 v := ro_put (w := 5) h (by decide)
theorem rf_of6 {X : gM} {t : Nat} (h : t < 40) : f_X9_of X (nI t) 6 = X 1 (294 + 17 * t + 6) := rf_of (w := 6) h (by decide)
theorem ro_of6 {X : gM} {t : Nat} (h : t < 40) : ok_X9_of X (nI t) 6 := ro_of (w := 6) h (by decide)
theorem rp_put6 {X : gM} {t : Nat} {v : Int32} (h : t < 40) : p_X9_put X (nI t) 6 v = updM X 1 (294 + 17 * t + 6) v := rp_put (w := 6) h (by decide)
theorem ro_put6 {X : gM} {t : Nat} {v : Int32} (h : t < 40) : ok_X9_put X (nI t) 6 v := ro_put (w := 6) h (by decide)
theorem rf_of7 {X : gM} {t : Nat} (h : t < 40) : f_X9_of X (nI t) 7 = X 1 (294 + 17 * t + 7) := rf_of (w := 7) h (by decide)
theorem ro_of7 {X : gM} {t : Nat} (h : t < 40) : ok_X9_of X (nI t) 7 := ro_of (w := 7) h (by decide)
theorem rp_put7 {X : gM} {t : Nat} {v : Int32} (h : t < 40) : p_X9_put X (nI t) 7 v = updM X 1 (294 + 17 * t + 7) v := rp_put (w := 7) h (by decide)
theorem ro_put7 {X : gM} {t : Nat} {v : Int32} (h : t < 40) : ok_X9_put X (nI t) 7 v := ro_put (w := 7) h (by decide)
theorem rf_of8 {X : gM} {t : Nat} (h : t < 40) : f_X9_of X (nI t) 8 = X 1 (294 + 17 * t + 8) := rf_of (w := 8) h (by decide)
theorem ro_of8 {X : gM} {t : Nat} (h : t < 40) : ok_X9_of X (nI t) 8 := ro_of (w := 8) h (by decide)
theorem rp_put8 {X : gM} {t : Nat} {v : Int32} (h : t < 40) : p_X9_put X (nI t) 8 v = updM X 1 (294 + 17 * t + 8) v := rp_put (w := 8) h (by decide)
theorem ro_put8 {X : gM} {t : Nat} {v : Int32} (h : t < 40) : ok_X9_put X (nI t) 8 v := ro_put (w := 8) h (by decide)
theorem rf_of9 {X : gM} {t : Nat} (h : t < 40) : f_X9_of X (nI t) 9 = X 1 (294 + 17 * t + 9) := rf_of (w := 9) h (by decide)
theorem ro_of9 {X : gM} {t : Nat} (h : t < 40) : ok_X9_of X (nI t) 9 := ro_of (w := 9) h (by decide)
theorem rp_put9 {X : gM} {t : Nat} {v : Int32} (h : t < 40) : p_X9_put X (nI t) 9 v = updM X 1 (294 + 17 * t + 9) v := rp_put (w := 9) h (by decide)
theorem ro_put9 {X : gM} {t : Nat} {v : Int32} (h : t < 40) : ok_X9_put X (nI t) 9 v := ro_put (w := 9) h (by decide)
theorem rf_of10 {X : gM} {t : Nat} (h : t < 40) : f_X9_of X (nI t) 10 = X 1 (294 + 17 * t + 10) := rf_of (w := 10) h (by decide)
theorem ro_of10 {X : gM} {t : Nat} (h : t < 40) : ok_X9_of X (nI t) 10 := ro_of (w := 10) h (by decide)
theorem rp_put10 {X : gM} {t : Nat} {v : Int32} (h : t < 40) : p_X9_put X (nI t) 10 v = updM X 1 (294 + 17 * t + 10) v := rp_put (w := 10) h (by decide)
theorem ro_put10 {X : gM} {t : Nat} {v : Int32} (h : t < 40) : ok_X9_put X (nI t) 10 v := ro_put (w := 10) h (by decide)
theorem rf_of11 {X : gM} {t : Nat} (h : t < 40) : f_X9_of X (nI t) 11 = X 1 (294 + 17 * t + 11) := rf_of (w := 11) h (by decide)
theorem ro_of11 {X : gM} {t : Nat} (h : t < 40) : ok_X9_of X (nI t) 11 := ro_of (w := 11) h (by decide)
theorem rp_put11 {X : gM} {t : Nat} {v : Int32} (h : t < 40) : p_X9_put X (nI t) 11 v = updM X 1 (294 + 17 * t + 11) v := rp_put (w := 11) h (by decide)
theorem ro_put11 {X : gM} {t : Nat} {v : Int32} (h : t < 40) : ok_X9_put X (nI t) 11 v := ro_put (w := 11) h (by decide)
theorem rf_of12 {X : gM} {t : Nat} (h : t < 40) : f_X9_of X (nI t) 12 = X 1 (294 + 17 * t + 12) := rf_of (w := 12) h (by decide)
theorem ro_of12 {X : gM} {t : Nat} (h : t < 40) : ok_X9_of X (nI t) 12 := ro_of (w := 12) h (by decide)
theorem rp_put12 {X : gM} {t : Nat} {v : Int32} (h : t < 40) : p_X9_put X (nI t) 12 v = updM X 1 (294 + 17 * t + 12) v := rp_put (w := 12) h (by decide)
theorem ro_put12 {X : gM} {t : Nat} {v : Int32} (h : t < 40) : ok_X9_put X (nI t) 12 v := ro_put (w := 12) h (by decide)
theorem rf_of13 {X : gM} {t : Nat} (h : t < 40) : f_X9_of X (nI t) 13 = X 1 (294 + 17 * t + 13) := rf_of (w := 13) h (by decide)
theorem ro_of13 {X : gM} {t : Nat} (h : t < 40) : ok_X9_of X (nI t) 13 := ro_of (w := 13) h (by decide)
theorem rp_put13 {X : gM} {t : Nat} {v : Int32} (h : t < 40) : p_X9_put X (nI t) 13 v = updM X 1 (294 + 17 * t + 13) v := rp_put (w := 13) h (by decide)
theorem ro_put13 {X : gM} {t : Nat} {v : Int32} (h : t < 40) : ok_X9_put X (nI t) 13 v := ro_put (w := 13) h (by decide)
theorem rf_of14 {X : gM} {t : Nat} (h : t < 40) : f_X9_of X (nI t) 14 = X 1 (294 + 17 * t + 14) := rf_of (w := 14) h (by decide)
theorem ro_of14 {X : gM} {t : Nat} (h : t < 40) : ok_X9_of X (nI t) 14 := ro_of (w := 14) h (by decide)
theorem rp_put14 {X : gM} {t : Nat} {v : Int32} (h : t < 40) : p_X9_put X (nI t) 14 v = updM X 1 (294 + 17 * t + 14) v := rp_put (w := 14) h (by decide)
theorem ro_put14 {X : gM} {t : Nat} {v : Int32} (h : t < 40) : ok_X9_put X (nI t) 14 v := ro_put (w := 14) h (by decide)
theorem rf_of15 {X : gM} {t : Nat} (h : t < 40) : f_X9_of X (nI t) 15 = X 1 (294 + 17 * t + 15) := rf_of (w := 15) h (by decide)
theorem ro_of15 {X : gM} {t : Nat} (h : t < 40) : ok_X9_of X (nI t) 15 := ro_of (w := 15) h (by decide)
theorem rp_put15 {X : gM} {t : Nat} {v : Int32} (h : t < 40) : p_X9_put X (nI t) 15 v = updM X 1 (294 + 17 * t + 15) v := rp_put (w := 15) h (by decide)
theorem ro_put15 {X : gM} {t : Nat} {v : Int32} (h : t < 40) : ok_X9_put X (nI t) 15 v := ro_put (w := 15) h (by decide)
theorem rf_of16 {X : gM} {t : Nat} (h : t < 40) : f_X9_of X (nI t) 16 = X 1 (294 + 17 * t + 16) := rf_of (w := 16) h (by decide)
theorem ro_of16 {X : gM} {t : Nat} (h : t < 40) : ok_X9_of X (nI t) 16 := ro_of (w := 16) h (by decide)
theorem rp_put16 {X : gM} {t : Nat} {v : Int32} (h : t < 40) : p_X9_put X (nI t) 16 v = updM X 1 (294 + 17 * t + 16) v := rp_put (w := 16) h (by decide)
theorem ro_put16 {X : gM} {t : Nat} {v : Int32} (h : t < 40) : ok_X9_put X (nI t) 16 v := ro_put (w := 16) h (by decide)
theorem rf_line0 {X : gM} {l : Nat} (h : l < 2) : f_X9_ofLine X (nI l) 0 = X 1 (10 + 8 * l + 0) := rf_line (w := 0) h (by decide)
theorem ro_line0 {X : gM} {l : Nat} (h : l < 2) : ok_X9_ofLine X (nI l) 0 := ro_line (w := 0) h (by decide)
theorem ri_line0 {l : Nat} (h : l < 2) : ((10 + (8 * nI l)) + 0 : Int32).toNatClampNeg = 10 + 8 * l + 0 := ri_line (w := 0) h (by decide)
theorem rv_line0 {l : Nat} (h : l < 2) : vp_in ((10 + (8 * nI l)) + 0) 974 := rv_line (w := 0) h (by decide)
theorem rf_line1 {X : gM} {l : Nat} (h : l < 2) : f_X9_ofLine X (nI l) 1 = X 1 (10 + 8 * l + 1) := rf_line (w := 1) h (by decide)
theorem ro_line1 {X : gM} {l : Nat} (h : l < 2) : ok_X9_ofLine X (nI l) 1 := ro_line (w := 1) h (by decide)
theorem ri_line1 {l : Nat} (h : l < 2) : ((10 + (8 * nI l)) + 1 : Int32).toNatClampNeg = 10 + 8 * l + 1 := ri_line (w := 1) h (by decide)
theorem rv_line1 {l : Nat} (h : l < 2) : vp_in ((10 + (8 * nI l)) + 1) 974 := rv_line (w := 1) h (by decide)
theorem rf_line2 {X : gM} {l : Nat} (h : l < 2) : f_X9_ofLine X (nI l) 2 = X 1 (10 + 8 * l + 2) := rf_line (w := 2) h (by decide)
theorem ro_line2 {X : gM} {l : Nat} (h : l < 2) : ok_X9_ofLine X (nI l) 2 := ro_line (w := 2) h (by decide)
theorem ri_line2 {l : Nat} (h : l < 2) : ((10 + (8 * nI l)) + 2 : Int32).toNatClampNeg = 10 + 8 * l + 2 := ri_line (w := 2) h (by decide)
theorem rv_line2 {l : Nat} (h : l < 2) : vp_in ((10 + (8 * nI l)) + 2) 974 := rv_line (w := 2) h (by decide)
theorem rf_line3 {X : gM} {l : Nat} (h : l < 2) : f_X9_ofLine X (nI l) 3 = X 1 (10 + 8 * l + 3) := rf_line (w := 3) h (by decide)
theorem ro_line3 {X : gM} {l : Nat} (h : l < 2) : ok_X9_ofLine X (nI l) 3 := ro_line (w := 3) h (by decide)
theorem ri_line3 {l : Nat} (h : l < 2) : ((10 + (8 * nI l)) + 3 : Int32).toNatClampNeg = 10 + 8 * l + 3 := ri_line (w := 3) h (by decide)
theorem rv_line3 {l : Nat} (h : l < 2) : vp_in ((10 + (8 * nI l)) + 3) 974 := rv_line (w := 3) h (by decide)
theorem rf_line4 {X : gM} {l : Nat} (h : l < 2) : f_X9_ofLine X (nI l) 4 = X 1 (10 + 8 * l + 4) := rf_line (w := 4) h (by decide)
theorem ro_line4 {X : gM} {l : Nat} (h : l < 2) : ok_X9_ofLine X (nI l) 4 := ro_line (w := 4) h (by decide)
theorem ri_line4 {l : Nat} (h : l < 2) : ((10 + (8 * nI l)) + 4 : Int32).toNatClampNeg = 10 + 8 * l + 4 := ri_line (w := 4) h (by decide)
theorem rv_line4 {l : Nat} (h : l < 2) : vp_in ((10 + (8 * nI l)) + 4) 974 := rv_line (w := 4) h (by decide)
theorem rf_line5 {X : gM} {l : Nat} (h : l < 2) : f_X9_ofLine X (nI l) 5 = X 1 (10 + 8 * l + 5) := rf_line (w := 5) h (by decide)
theorem ro_line5 {X : gM} {l : Nat} (h : l < 2) : ok_X9_ofLine X (nI l) 5 := ro_line (w := 5) h (by decide)
theorem ri_line5 {l : Nat} (h : l < 2) : ((10 + (8 * nI l)) + 5 : Int32).toNatClampNeg = 10 + 8 * l + 5 := ri_line (w := 5) h (by decide)
theorem rv_line5 {l : Nat} (h : l < 2) : vp_in ((10 + (8 * nI l)) + 5) 974 := rv_line (w := 5) h (by decide)
theorem rf_line6 {X : gM} {l : Nat} (h : l < 2) : f_X9_ofLine X (nI l) 6 = X 1 (10 + 8 * l + 6) := rf_line (w := 6) h (by decide)
theorem ro_line6 {X : gM} {l : Nat} (h : l < 2) : ok_X9_ofLine X (nI l) 6 := ro_line (w := 6) h (by decide)
theorem ri_line6 {l : Nat} (h : l < 2) : ((10 + (8 * nI l)) + 6 : Int32).toNatClampNeg = 10 + 8 * l + 6 := ri_line (w := 6) h (by decide)
theorem rv_line6 {l : Nat} (h : l < 2) : vp_in ((10 + (8 * nI l)) + 6) 974 := rv_line (w := 6) h (by decide)
theorem iS0 {a : Nat} (h : a < 2000) : (nI a + 0 : Int32).toNatClampNeg = a + 0 := iS (w := 0) (by omega)
theorem vS0 {a : Nat} (h : a + 0 < 974) : vp_in (nI a + 0) 974 := vS (w := 0) h
theorem iS1 {a : Nat} (h : a < 2000) : (nI a + 1 : Int32).toNatClampNeg = a + 1 := iS (w := 1) (by omega)
theorem vS1 {a : Nat} (h : a + 1 < 974) : vp_in (nI a + 1) 974 := vS (w := 1) h
theorem iS2 {a : Nat} (h : a < 2000) : (nI a + 2 : Int32).toNatClampNeg = a + 2 := iS (w := 2) (by omega)
theorem vS2 {a : Nat} (h : a + 2 < 974) : vp_in (nI a + 2) 974 := vS (w := 2) h
theorem iS3 {a : Nat} (h : a < 2000) : (nI a + 3 : Int32).toNatClampNeg = a + 3 := iS (w := 3) (by omega)
theorem vS3 {a : Nat} (h : a + 3 < 974) : vp_in (nI a + 3) 974 := vS (w := 3) h
theorem iS4 {a : Nat} (h : a < 2000) : (nI a + 4 : Int32).toNatClampNeg = a + 4 := iS (w := 4) (by omega)
theorem vS4 {a : Nat} (h : a + 4 < 974) : vp_in (nI a + 4) 974 := vS (w := 4) h
theorem iS5 {a : Nat} (h : a < 2000) : (nI a + 5 : Int32).toNatClampNeg = a + 5 := iS (w := 5) (by omega)
theorem vS5 {a : Nat} (h : a + 5 < 974) : vp_in (nI a + 5) 974 := vS (w := 5) h
theorem iS6 {a : Nat} (h : a < 2000) : (nI a + 6 : Int32).toNatClampNeg = a + 6 := iS (w := 6) (by omega)
theorem vS6 {a : Nat} (h : a + 6 < 974) : vp_in (nI a + 6) 974 := vS (w := 6) h
theorem iS7 {a : Nat} (h : a < 2000) : (nI a + 7 : Int32).toNatClampNeg = a + 7 := iS (w := 7) (by omega)
theorem vS7 {a : Nat} (h : a + 7 < 974) : vp_in (nI a + 7) 974 := vS (w := 7) h
theorem iS8 {a : Nat} (h : a < 2000) : (nI a + 8 : Int32).toNatClampNeg = a + 8 := iS (w := 8) (by omega)
theorem vS8 {a : Nat} (h : a + 8 < 974) : vp_in (nI a + 8) 974 := vS (w := 8) h
theorem iS9 {a : Nat} (h : a < 2000) : (nI a + 9 : Int32).toNatClampNeg = a + 9 := iS (w := 9) (by omega)
theorem vS9 {a : Nat} (h : a + 9 < 974) : vp_in (nI a + 9) 974 := vS (w := 9) h
