/-! an object's memory as a table of numbers, with which the kernel counts fast; two objects that answer alike -/
def tqK (k : Nat) : Nat := if k = 20 then 24 else if k = 22 then 60 else if k = 7 then 5 else if k = 21 then 3 else if k = 2 then 6 else if k = 24 then 0 else if k = 25 then 0 else if k = 26 then 0 else 14
def tqW (a : Nat) : Nat :=
  if a = 0 then 8 else if a < 370 then tqK (kdS ((a - 1) % 123)) else if a = 370 then 4 else if a = 372 then 60 else if a = 373 then 0 else if a < 380 then 5 else tqK (kdS ((a - 380) % 123))
/-- n fields from the i-th on, in one number -/
def tqP (x : Nat → Int32) : Nat → Nat → Nat
  | _, 0 => 0
  | i, n + 1 => (x i).toBitVec.toNat + 4294967296 * tqP x (i + 1) n
theorem tqP_get (x : Nat → Int32) : ∀ n i j, j < n → Nat.div (tqP x i n) (Nat.pow 4294967296 j) % 4294967296 = (x (i + j)).toBitVec.toNat := by
  intro n
  induction n with
  | zero => intro i j h; exact absurd h (Nat.not_lt_zero j)
  | succ n ih =>
    intro i j h
    have hb : (x i).toBitVec.toNat < 4294967296 := (x i).toBitVec.isLt
    cases j with
    | zero =>
      show ((x i).toBitVec.toNat + 4294967296 * tqP x (i + 1) n) / 4294967296 ^ 0 % 4294967296 = (x i).toBitVec.toNat
      rw [Nat.pow_zero, Nat.div_one]
      omega
    | succ j =>
      have h2 := ih (i + 1) j (by omega)
      show ((x i).toBitVec.toNat + 4294967296 * tqP x (i + 1) n) / 4294967296 ^ (j + 1) % 4294967296 = _
      have h3 : tqP x (i + 1) n / 4294967296 ^ j % 4294967296 = (x (i + 1 + j)).toBitVec.toNat := h2
      rw [Nat.pow_succ, Nat.mul_comm (4294967296 ^ j), ← Nat.div_div_eq_div_mul, show ((x i).toBitVec.toNat + 4294967296 * tqP x (i + 1) n) / 4294967296 = tqP x (i + 1) n by omega, h3]
      rw [show i + 1 + j = i + (j + 1) by omega]
theorem nI_bv (x : Int32) : nI x.toBitVec.toNat = x := by
  apply Int32.toBitVec_inj.mp
  show BitVec.ofNat 32 _ = _
  rw [BitVec.ofNat_toNat, BitVec.setWidth_eq]
theorem nI_mod (n : Nat) : nI n = nI (n % 4294967296) := by
  apply Int32.toBitVec_inj.mp
  show BitVec.ofNat 32 n = BitVec.ofNat 32 (n % 4294967296)
  apply BitVec.eq_of_toNat_eq
  rw [BitVec.toNat_ofNat, BitVec.toNat_ofNat]
  show n % 4294967296 = n % 4294967296 % 4294967296
  omega
/-- n cells from the a-th on -/
def tqL (X : gM) : Nat → Nat → List Nat
  | _, 0 => []
  | a, n + 1 => tqP (X a) 0 (tqW a) :: tqL X (a + 1) n
def tqG : List Nat → Nat → Nat
  | [], _ => 0
  | q :: _, 0 => q
  | _ :: t, n + 1 => tqG t n
theorem tqL_get (X : gM) : ∀ n a k, k < n → tqG (tqL X a n) k = tqP (X (a + k)) 0 (tqW (a + k)) := by
  intro n
  induction n with
  | zero => intro a k h; exact absurd h (Nat.not_lt_zero k)
  | succ n ih =>
    intro a k h
    cases k with
    | zero => rfl
    | succ k =>
      show tqG (tqL X (a + 1) n) k = _
      rw [ih (a + 1) k (by omega), show a + 1 + k = a + (k + 1) by omega]
/-- n rows of 30 cells from the i-th row on -/
def tqT (X : gM) : Nat → Nat → List (List Nat)
  | _, 0 => []
  | i, n + 1 => tqL X (30 * i) 30 :: tqT X (i + 1) n
def tqH : List (List Nat) → Nat → List Nat
  | [], _ => []
  | q :: _, 0 => q
  | _ :: t, n + 1 => tqH t n
theorem tqT_get (X : gM) : ∀ n i k, k < n → tqH (tqT X i n) k = tqL X (30 * (i + k)) 30 := by
  intro n
  induction n with
  | zero => intro i k h; exact absurd h (Nat.not_lt_zero k)
  | succ n ih =>
    intro i k h
    cases k with
    | zero => rfl
    | succ k =>
      show tqH (tqT X (i + 1) n) k = _
      rw [ih (i + 1) k (by omega), show i + 1 + k = i + (k + 1) by omega]
/-- the memory that a table tells -/
def tqM (T : List (List Nat)) : gM := fun a j => nI (Nat.div (tqG (tqH T (a / 30)) (a % 30)) (Nat.pow 4294967296 j))
theorem tqM_eq (X : gM) {a j : Nat} (ha : a < 872) (hj : j < tqW a) : tqM (tqT X 0 30) a j = X a j := by
  unfold tqM
  rw [tqT_get X 30 0 (a / 30) (by omega), tqL_get X 30 _ (a % 30) (by omega), nI_mod, show 30 * (0 + a / 30) + a % 30 = a by omega, tqP_get _ _ _ _ hj, Nat.zero_add, nI_bv]
/-- the same table, counted out -/
def tqFn {α : Type} (n : Nat) (k : Nat → α) : α := match n with
  | 0 => k 0
  | n + 1 => k (Nat.succ n)
theorem tqFn_eq {α : Type} (n : Nat) (k : Nat → α) : tqFn n k = k n := by
  cases n <;> rfl
def tqFl {α : Type} : List Nat → (List Nat → α) → α
  | [], k => k []
  | q :: t, k => tqFn q (fun q' => tqFl t (fun t' => k (q' :: t')))
theorem tqFl_eq {α : Type} : ∀ (t : List Nat) (k : List Nat → α), tqFl t k = k t := by
  intro t
  induction t with
  | nil => intro k; rfl
  | cons q t ih =>
    intro k
    show tqFn q _ = _
    rw [tqFn_eq, ih]
def tqFF {α : Type} : List (List Nat) → (List (List Nat) → α) → α
  | [], k => k []
  | q :: t, k => tqFl q (fun q' => tqFF t (fun t' => k (q' :: t')))
theorem tqFF_eq {α : Type} : ∀ (t : List (List Nat)) (k : List (List Nat) → α), tqFF t k = k t := by
  intro t
  induction t with
  | nil => intro k; rfl
  | cons q t ih =>
    intro k
    show tqFl q _ = _
    rw [tqFl_eq, ih]
/-! what the relation to the reference reads of an object lies in the table -/
theorem tqK_z : ∀ i, i < 974 → zp i = true → zc i < 123 ∧ zf i < tqK (kdS (zc i)) := by decide +kernel
theorem tqK_5 {t : Nat} (h : t < 40) : tqK (kdS (35 + 2 * t)) = 14 := by
  rw [(kd_T t h).2.1]
  rfl
theorem tqW_off : ∀ k, k < 7 → ∀ c, c < 123 → tqW (off k + c) = tqK (kdS c) := by decide +kernel
theorem SE.cg2 {X X' : gM} {r : Nat → Int32} (h : SE X r) (hx : ∀ c j, c < 123 → j < tqK (kdS c) → X' c j = X c j) : SE X' r := by
  obtain ⟨tc, oc, sl, ph, mn, hs⟩ := h
  have h40 := hs.tc4
  obtain ⟨hPS, hOn, ⟨kn, nx, b1, b2, b3, b4, b5, b6⟩, hInv⟩ := hs
  refine ⟨tc, oc, sl, ph, mn, fun i hi he => ?_, fun t ht h1 => ?_, ⟨kn, nx, b1, b2, ?_, b4, ?_, fun b j hb hj => ?_⟩, hInv⟩
  · rw [hx _ _ (tqK_z i (z_lt hi) hi).1 (tqK_z i (z_lt hi) hi).2, hPS i hi he]
  · rw [hx _ _ (by omega) (by rw [tqK_5 (by omega)]; decide)]
    exact hOn t ht h1
  · rw [hx _ _ (by decide) (by decide +kernel), b3]
  · rw [hx _ _ (by decide) (by decide +kernel), b5]
  · rw [hx _ _ (by decide) (by
      have e : tqK (kdS 34) = 60 := by decide +kernel
      rw [e]
      omega)]
    exact b6 b j hb hj
theorem Rl.tq {X X' Y : gM} (h : Rl X Y) (hx : ∀ a j, a < 872 → j < tqW a → X' a j = X a j) : Rl X' Y := by
  obtain ⟨h0, ⟨n, h4, a1, a2, a3⟩, b, c, ⟨m, d1, d2, d3, d4⟩⟩ := h
  have hv : ∀ k, k < 7 → ∀ c j, c < 123 → j < tqK (kdS c) → vw k X' c j = vw k X c j := fun k hk c j hc hj => hx _ _ (by have := off_lt hk; omega) (by rw [tqW_off k hk c hc]; exact hj)
  have w370 : tqW 370 = 4 := by decide +kernel
  have w372 : tqW 372 = 60 := by decide +kernel
  have e : ∀ k, k < 4 → hp X' k = hp X k := fun k hk => by
    unfold hp
    rw [hx 370 k (by decide) (by rw [w370]; exact hk)]
  have e0 : ∀ j, j < 8 → X' 0 j = X 0 j := fun j hj => hx 0 j (by decide) hj
  have et : X' 371 2 = X 371 2 := hx _ _ (by decide) (by decide +kernel)
  refine ⟨h0.cg2 (hv 0 (by decide)), ⟨n, h4, by rw [e0 6 (by decide), a1], a2, fun k hk => ?_⟩, fun j hj => ?_, ?_, m, d1, by rw [et, d2], d3, fun k hk => by rw [hx 372 k (by decide) (by rw [w372]; omega), d4 k hk]⟩
  · rw [e k (by omega)]
    exact (a3 k hk).cg2 (hv _ (b k (by omega)).2.1)
  · rw [e j hj]
    refine ⟨(b j hj).1, (b j hj).2.1, fun j' hj' => ?_⟩
    rw [e j' hj']
    exact (b j hj).2.2 j' hj'
  · rcases c with ⟨c1, c2⟩ | ⟨c1, c2, c3⟩
    · exact Or.inl ⟨by rw [e0 7 (by decide), c1], c2⟩
    · exact Or.inr ⟨by rw [e0 7 (by decide), c1], c2, c3.cg2 (hv 1 (by decide))⟩
theorem Rl.tab {X Y : gM} (h : Rl X Y) : Rl (tqM (tqT X 0 30)) Y := h.tq (fun _ _ ha hj => tqM_eq X ha hj)
/-- one reference stands behind both -/
def Ev (X U : gM) : Prop := ∃ Y, Rl X Y ∧ Rl U Y
def Iv (X : gM) : Prop := ∃ Y, Rl X Y
theorem Ev.iv {X U : gM} (h : Ev X U) : Iv X := by
  obtain ⟨Y, h1, -⟩ := h
  exact ⟨Y, h1⟩
theorem Ev.ok {X U : gM} (h : Ev X U) : HOK X := by
  obtain ⟨Y, h1, -⟩ := h
  exact h1.2.2.1.ok
theorem Iv.ok {X : gM} (h : Iv X) : HOK X := by
  obtain ⟨Y, h1⟩ := h
  exact h1.2.2.1.ok
theorem Iv.ev {X : gM} (h : Iv X) : Ev X X := by
  obtain ⟨Y, h1⟩ := h
  exact ⟨Y, h1, h1⟩
/-- an act, a question: alike for all objects that stand to one reference -/
def SimF (f : gM → Int32 × gM) : Prop := ∀ X U Y, Rl X Y → Rl U Y → (f X).1 = (f U).1 ∧ ∃ Y', Rl (f X).2 Y' ∧ Rl (f U).2 Y'
def SimQ (f : gM → Int32) : Prop := ∀ X U Y, Rl X Y → Rl U Y → f X = f U
/-- a step of a run by hand: an act with its answer, then the table of what it leaves -/
def stA (r : Int32 × gM) (v : Int32) (k : gM → Bool) : Bool := decide (r.1 = v) && tqFF (tqT r.2 0 30) (fun T => k (tqM T))
/-- a question with its answer -/
def stQ (r v : Int32) (k : Bool) : Bool := decide (r = v) && k
theorem stA_ev {f : gM → Int32 × gM} (hf : SimF f) {X U : gM} {v : Int32} {k : gM → Bool} (h : Ev X U) (hk : stA (f U) v k = true) : (f X).1 = v ∧ ∃ U', Ev (f X).2 U' ∧ k U' = true := by
  obtain ⟨Y, hX, hU⟩ := h
  obtain ⟨e, Y', x2, u2⟩ := hf X U Y hX hU
  unfold stA at hk
  rw [Bool.and_eq_true, decide_eq_true_eq, tqFF_eq] at hk
  exact ⟨by rw [e, hk.1], _, ⟨Y', x2, u2.tab⟩, hk.2⟩
theorem stQ_ev {f : gM → Int32} (hf : SimQ f) {X U : gM} {v : Int32} {k : Bool} (h : Ev X U) (hk : stQ (f U) v k = true) : f X = v ∧ k = true := by
  obtain ⟨Y, hX, hU⟩ := h
  unfold stQ at hk
  rw [Bool.and_eq_true, decide_eq_true_eq] at hk
  exact ⟨by rw [hf X U Y hX hU, hk.1], hk.2⟩
theorem SimF.iv {f : gM → Int32 × gM} (hf : SimF f) {X : gM} (h : Iv X) : Iv (f X).2 := by
  obtain ⟨Y, hX⟩ := h
  obtain ⟨-, Y', x2, -⟩ := hf X X Y hX hX
  exact ⟨Y', x2⟩
theorem SimF.ev {f : gM → Int32 × gM} (hf : SimF f) {X U : gM} (h : Ev X U) : (f X).1 = (f U).1 ∧ Ev (f X).2 (f U).2 := by
  obtain ⟨Y, hX, hU⟩ := h
  obtain ⟨e, Y', x2, u2⟩ := hf X U Y hX hU
  exact ⟨e, Y', x2, u2⟩
