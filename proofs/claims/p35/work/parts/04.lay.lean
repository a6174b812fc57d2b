/-! the cells of a State, in the order in which its constructor makes them: their kinds, what each holds -/
def kdS (c : Nat) : Nat :=
  if c = 0 then 3 else if c = 1 ∨ c = 16 then 0 else if c = 2 ∨ c = 17 then 20 else if c = 3 ∨ c = 18 then 24
  else if c < 16 then (if c % 2 = 0 then 4 else 21) else if c < 31 then (if c % 2 = 1 then 4 else 21)
  else if c = 31 then 25 else if c = 32 then 26 else if c = 33 then 1 else if c = 34 then 22
  else if c < 115 then (if c % 2 = 1 then 5 else 7) else (if c % 2 = 1 then 2 else 7)
/-- the number of a line, of a station's line, of a station, of a ticket -/
def nLin (c : Nat) : Nat := if c < 16 then 0 else 1
def nSta (c : Nat) : Nat := if c < 16 then (c - 4) / 2 else (c - 19) / 2
def nTic (c : Nat) : Nat := (c - 35) / 2
def isJ (c : Nat) : Int32 := if nSta c = 0 then 1 else 0
/-- a truth value as it stands in a field -/
def gBit (x : Int32) : Int32 := if x = 0 then 0 else 1
theorem gBit_b (x : Int32) : gBit x = 0 ∨ gBit x = 1 := by
  unfold gBit
  split
  · exact Or.inl rfl
  · exact Or.inr rfl
theorem gBit_2 (x : Int32) : gBit (gBit x) = gBit x := by
  rcases gBit_b x with h | h <;> rw [h] <;> rfl
def bodyS (cy : Nat → ClassId) (σ : Nat) : gB := fun c r =>
  if kdS c = 3 then .inr (3, [.ref (σ + 1), .ref (σ + 16), .ref (σ + 31), .ref (σ + 32), .ref (σ + 33), .int (r 5), .int (r 6), .int (r 7), .int (r 8), .int (r 9), .int (r 10), .int (r 11), .int (r 12), .int (r 13)])
  else if kdS c = 0 then .inr (0, [.int (nI (nLin c)), .ref (σ + (c + 1)), .ref (σ + (c + 2)), .int (r 3), .int (r 4), .int (r 5), .int (r 6), .int (r 7), .int (r 8), .int (r 9)])
  else if kdS c = 20 then .inl (cy 0, 24, .inl r)
  else if kdS c = 24 then .inl (cy 4, 6, .inr (.inr (.inr (.inr (fun n => some (σ + (c + 1 + 2 * n)))))))
  else if kdS c = 4 then .inr (4, [.int (nI (nLin c)), .int (nI (10 * nLin c + nSta c)), .int (isJ c), .ref (σ + (c + 1)), .int (r 4), .int (r 5), .int (r 6), .int (r 7), .int (r 8), .int (r 9)])
  else if kdS c = 21 then .inl (cy 0, 3, .inl r)
  else if kdS c = 25 then .inl (cy 5, 40, .inr (.inr (.inr (.inr (fun n => some (σ + (35 + 2 * n)))))))
  else if kdS c = 26 then .inl (cy 2, 4, .inr (.inr (.inr (.inr (fun n => some (σ + (115 + 2 * n)))))))
  else if kdS c = 1 then .inr (1, [.ref (σ + (c + 1)), .int (r 1), .int (r 2)])
  else if kdS c = 22 then .inl (cy 0, 60, .inl r)
  else if kdS c = 5 then .inr (5, [.int (nI (nTic c)), .ref (σ + (c + 1)), .int (r 2), .int (r 3), .int (r 4), .int (r 5), .int (r 6), .int (r 7), .int (r 8), .int (r 9), .int (r 10), .int (r 11), .int (r 12), .int (r 13)])
  else if kdS c = 7 then .inr (7, [.int (r 0), .int (r 1), .int (r 2), .int (r 3), .int (r 4)])
  else .inr (2, [.ref (σ + (c + 1)), .int (r 1), .int (r 2), .int (r 3), .int (r 4), .int (gBit (r 5))])
section LAYS
variable {cy : Nat → ClassId} {σ c : Nat} {r : Nat → Int32}
theorem bS_3 (h : kdS c = 3) : bodyS cy σ c r = .inr (3, [.ref (σ + 1), .ref (σ + 16), .ref (σ + 31), .ref (σ + 32), .ref (σ + 33), .int (r 5), .int (r 6), .int (r 7), .int (r 8), .int (r 9), .int (r 10), .int (r 11), .int (r 12), .int (r 13)]) := by simp [bodyS, h]
theorem bS_0 (h : kdS c = 0) : bodyS cy σ c r = .inr (0, [.int (nI (nLin c)), .ref (σ + (c + 1)), .ref (σ + (c + 2)), .int (r 3), .int (r 4), .int (r 5), .int (r 6), .int (r 7), .int (r 8), .int (r 9)]) := by simp [bodyS, h]
theorem bS_20 (h : kdS c = 20) : bodyS cy σ c r = .inl (cy 0, 24, .inl r) := by simp [bodyS, h]
theorem bS_24 (h : kdS c = 24) : bodyS cy σ c r = .inl (cy 4, 6, .inr (.inr (.inr (.inr (fun n => some (σ + (c + 1 + 2 * n))))))) := by simp [bodyS, h]
theorem bS_4 (h : kdS c = 4) : bodyS cy σ c r = .inr (4, [.int (nI (nLin c)), .int (nI (10 * nLin c + nSta c)), .int (isJ c), .ref (σ + (c + 1)), .int (r 4), .int (r 5), .int (r 6), .int (r 7), .int (r 8), .int (r 9)]) := by simp [bodyS, h]
theorem bS_21 (h : kdS c = 21) : bodyS cy σ c r = .inl (cy 0, 3, .inl r) := by simp [bodyS, h]
theorem bS_25 (h : kdS c = 25) : bodyS cy σ c r = .inl (cy 5, 40, .inr (.inr (.inr (.inr (fun n => some (σ + (35 + 2 * n))))))) := by simp [bodyS, h]
theorem bS_26 (h : kdS c = 26) : bodyS cy σ c r = .inl (cy 2, 4, .inr (.inr (.inr (.inr (fun n => some (σ + (115 + 2 * n))))))) := by simp [bodyS, h]
theorem bS_1 (h : kdS c = 1) : bodyS cy σ c r = .inr (1, [.ref (σ + (c + 1)), .int (r 1), .int (r 2)]) := by simp [bodyS, h]
theorem bS_22 (h : kdS c = 22) : bodyS cy σ c r = .inl (cy 0, 60, .inl r) := by simp [bodyS, h]
theorem bS_5 (h : kdS c = 5) : bodyS cy σ c r = .inr (5, [.int (nI (nTic c)), .ref (σ + (c + 1)), .int (r 2), .int (r 3), .int (r 4), .int (r 5), .int (r 6), .int (r 7), .int (r 8), .int (r 9), .int (r 10), .int (r 11), .int (r 12), .int (r 13)]) := by simp [bodyS, h]
theorem bS_7 (h : kdS c = 7) : bodyS cy σ c r = .inr (7, [.int (r 0), .int (r 1), .int (r 2), .int (r 3), .int (r 4)]) := by simp [bodyS, h]
theorem bS_2 (h : kdS c = 2) : bodyS cy σ c r = .inr (2, [.ref (σ + (c + 1)), .int (r 1), .int (r 2), .int (r 3), .int (r 4), .int (gBit (r 5))]) := by simp [bodyS, h]
end LAYS
abbrev adS (σ : Nat) : Nat → Nat := fun c => σ + c
theorem injS {σ : Nat} : gInj 123 (adS σ) := fun a b _ _ h => by simp only [adS] at h; omega
abbrev SR (D : va_G) (cy : Nat → ClassId) (σ : Nat) (X : gM) (H : Heap) : Prop := gRep D (bodyS cy σ) 123 (adS σ) X H
abbrev SA (σ : Nat) : Nat → Prop := gA 123 (adS σ)
theorem SR.mk1 {D : va_G} {cy : Nat → ClassId} {σ : Nat} {X : gM} {H : Heap} (h : SR D cy σ X H) {c : Nat} (hc : c < 123) {e : va_E} (he : bodyS cy σ c (X c) = e) : va_P D vwCl [(σ + c, e)] H := gRep.one h hc he
theorem kd_0 : ∀ c, c < 123 → kdS c = 0 → (c + 1 < 123 ∧ kdS (c + 1) = 20) ∧ (c + 2 < 123 ∧ kdS (c + 2) = 24) ∧ ∀ n, n < 6 → c + 2 + 1 + 2 * n < 123 ∧ kdS (c + 2 + 1 + 2 * n) = 4 ∧ nLin (c + 2 + 1 + 2 * n) = nLin c ∧ nSta (c + 2 + 1 + 2 * n) = n := by decide +kernel
theorem kd_4 : ∀ c, c < 123 → kdS c = 4 → (c + 1 < 123 ∧ kdS (c + 1) = 21) := by decide +kernel
theorem kd_5 : ∀ c, c < 123 → kdS c = 5 → (c + 1 < 123 ∧ kdS (c + 1) = 7) := by decide +kernel
theorem kd_2 : ∀ c, c < 123 → kdS c = 2 → (c + 1 < 123 ∧ kdS (c + 1) = 7) := by decide +kernel
theorem kd_T : ∀ n, n < 40 → (35 + 2 * n < 123 ∧ kdS (35 + 2 * n) = 5 ∧ nTic (35 + 2 * n) = n) := by decide +kernel
theorem kd_O : ∀ n, n < 4 → (115 + 2 * n < 123 ∧ kdS (115 + 2 * n) = 2) := by decide +kernel
theorem kd_fix : kdS 0 = 3 ∧ kdS 1 = 0 ∧ kdS 16 = 0 ∧ kdS 31 = 25 ∧ kdS 32 = 26 ∧ kdS 33 = 1 ∧ kdS 34 = 22 := by decide +kernel
