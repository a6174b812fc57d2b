/-! a tick over a table: rows of numbers, each write a new table -/
abbrev TqT : Type := List (List (List Nat))
def tqI : TqT → Nat → List (List Nat)
  | [], _ => []
  | q :: _, 0 => q
  | _ :: t, n + 1 => tqI t n
def mS (T : TqT) : gM := fun c j => nI (tqG (tqH (tqI T (c / 12)) (c % 12)) j)
def wqN (v : Nat) : Nat → List Nat → List Nat
  | 0, [] => [v]
  | 0, _ :: t => v :: t
  | j + 1, [] => 0 :: wqN v j []
  | j + 1, x :: t => x :: wqN v j t
def wqR (j v : Nat) : Nat → List (List Nat) → List (List Nat)
  | 0, [] => [wqN v j []]
  | 0, r :: t => wqN v j r :: t
  | c + 1, [] => [] :: wqR j v c []
  | c + 1, r :: t => r :: wqR j v c t
def wqC (c j v : Nat) : Nat → TqT → TqT
  | 0, [] => [wqR j v c []]
  | 0, r :: t => wqR j v c r :: t
  | d + 1, [] => [] :: wqC c j v d []
  | d + 1, r :: t => r :: wqC c j v d t
def wqS (T : TqT) (c j : Nat) (v : Int32) : TqT := wqC (c % 12) j v.toBitVec.toNat (c / 12) T
theorem tqG_0 (i : Nat) : tqG [] i = 0 := by cases i <;> rfl
theorem tqH_0 (i : Nat) : tqH [] i = [] := by cases i <;> rfl
theorem tqI_0 (i : Nat) : tqI [] i = [] := by cases i <;> rfl
theorem wqN_get (v : Nat) : ∀ (j : Nat) (l : List Nat) (i : Nat), tqG (wqN v j l) i = if i = j then v else tqG l i := by
  intro j
  induction j with
  | zero =>
    intro l i
    cases l with
    | nil =>
      cases i with
      | zero => rfl
      | succ i => show tqG [] i = _; rw [if_neg (by omega), tqG_0, tqG_0]
    | cons x t =>
      cases i with
      | zero => rfl
      | succ i => show tqG t i = _; rw [if_neg (by omega)]; rfl
  | succ j ih =>
    intro l i
    cases l with
    | nil =>
      cases i with
      | zero => show (0 : Nat) = _; rw [if_neg (by omega)]; rfl
      | succ i =>
        show tqG (wqN v j []) i = _
        rw [ih, tqG_0, tqG_0]
        by_cases h : i = j
        · rw [if_pos h, if_pos (by omega)]
        · rw [if_neg h, if_neg (by omega)]
    | cons x t =>
      cases i with
      | zero => show x = _; rw [if_neg (by omega)]; rfl
      | succ i =>
        show tqG (wqN v j t) i = _
        rw [ih]
        by_cases h : i = j
        · rw [if_pos h, if_pos (by omega)]
        · rw [if_neg h, if_neg (by omega)]; rfl
theorem wqR_get (j v : Nat) : ∀ (c : Nat) (l : List (List Nat)) (a : Nat), tqH (wqR j v c l) a = if a = c then wqN v j (tqH l a) else tqH l a := by
  intro c
  induction c with
  | zero =>
    intro l i
    cases l with
    | nil =>
      cases i with
      | zero => rfl
      | succ i => show tqH [] i = _; rw [if_neg (by omega), tqH_0, tqH_0]
    | cons x t =>
      cases i with
      | zero => rfl
      | succ i => show tqH t i = _; rw [if_neg (by omega)]; rfl
  | succ c ih =>
    intro l i
    cases l with
    | nil =>
      cases i with
      | zero => show ([] : List Nat) = _; rw [if_neg (by omega)]; rfl
      | succ i =>
        show tqH (wqR j v c []) i = _
        rw [ih, tqH_0, tqH_0]
        by_cases h : i = c
        · rw [if_pos h, if_pos (by omega)]
        · rw [if_neg h, if_neg (by omega)]
    | cons x t =>
      cases i with
      | zero => show x = _; rw [if_neg (by omega)]; rfl
      | succ i =>
        show tqH (wqR j v c t) i = _
        rw [ih]
        by_cases h : i = c
        · rw [if_pos h, if_pos (by omega)]; rfl
        · rw [if_neg h, if_neg (by omega)]; rfl
theorem wqC_get (c j v : Nat) : ∀ (d : Nat) (l : TqT) (a : Nat), tqI (wqC c j v d l) a = if a = d then wqR j v c (tqI l a) else tqI l a := by
  intro d
  induction d with
  | zero =>
    intro l i
    cases l with
    | nil =>
      cases i with
      | zero => rfl
      | succ i => show tqI [] i = _; rw [if_neg (by omega), tqI_0, tqI_0]
    | cons x t =>
      cases i with
      | zero => rfl
      | succ i => show tqI t i = _; rw [if_neg (by omega)]; rfl
  | succ d ih =>
    intro l i
    cases l with
    | nil =>
      cases i with
      | zero => show ([] : List (List Nat)) = _; rw [if_neg (by omega)]; rfl
      | succ i =>
        show tqI (wqC c j v d []) i = _
        rw [ih, tqI_0, tqI_0]
        by_cases h : i = d
        · rw [if_pos h, if_pos (by omega)]
        · rw [if_neg h, if_neg (by omega)]
    | cons x t =>
      cases i with
      | zero => show x = _; rw [if_neg (by omega)]; rfl
      | succ i =>
        show tqI (wqC c j v d t) i = _
        rw [ih]
        by_cases h : i = d
        · rw [if_pos h, if_pos (by omega)]; rfl
        · rw [if_neg h, if_neg (by omega)]; rfl
theorem wq_e (T : TqT) (c j : Nat) (v : Int32) : updM (mS T) c j v = mS (wqS T c j v) := by
  funext a i
  unfold mS wqS
  rw [wqC_get]
  by_cases h1 : a = c
  · subst h1
    rw [if_pos rfl, wqR_get, if_pos rfl, wqN_get]
    by_cases h2 : i = j
    · subst h2
      rw [if_pos rfl, updM_ss, nI_bv]
    · rw [if_neg h2, updM_sn h2]
  · rw [updM_n h1]
    by_cases h3 : a / 12 = c / 12
    · rw [if_pos h3, wqR_get, if_neg (by omega)]
    · rw [if_neg h3]
/-- a pair's memory, as a table -/
def mP (r : Int32 × TqT) : Int32 × gM := (r.1, mS r.2)
theorem mP_1 (r : Int32 × TqT) : (mP r).1 = r.1 := rfl
theorem mP_2 (r : Int32 × TqT) : (mP r).2 = mS r.2 := rfl
theorem mP_m (v : Int32) (T : TqT) : (v, mS T) = mP (v, T) := rfl
theorem mS_if {p : Prop} [h : Decidable p] (A B : TqT) : (if p then mS A else mS B) = mS (if p then A else B) := by split <;> rfl
theorem mP_if {p : Prop} [h : Decidable p] (A B : Int32 × TqT) : (if p then mP A else mP B) = mP (if p then A else B) := by split <;> rfl
theorem mS_o (o : Option Nat) (A : TqT) (B : Nat → TqT) : gOpt o (mS A) (fun q => mS (B q)) = mS (gOpt o A B) := by cases o <;> rfl
theorem mP_o (o : Option Nat) (A : Int32 × TqT) (B : Nat → Int32 × TqT) : gOpt o (mP A) (fun q => mP (B q)) = mP (gOpt o A B) := by cases o <;> rfl

def q_X5_finish (X : TqT) (c : Nat) (a1 : Int32) (a2 : Int32) (a3 : Int32) : TqT :=
  let X1 := wqS X c 4 a1
  let X2 := wqS X1 c 5 (-5)
  let X3 := wqS X2 c 6 (-5)
  let X4 := wqS X3 c 9 a3
  let X5 := wqS X4 c 10 a2
  X5
theorem qe_X5_finish (T : TqT) (c : Nat) (a1 : Int32) (a2 : Int32) (a3 : Int32) : p_X5_finish (mS T) c a1 a2 a3 = mS (q_X5_finish T c a1 a2 a3) := by
  simp only [p_X5_finish, q_X5_finish, wq_e, mP_1, mP_2, mP_m, mS_if, mP_if, mS_o, mP_o]
def q_X5_enterHall (X : TqT) (c : Nat) (a1 : Int32) (a2 : Int32) : TqT :=
  let X1 := wqS X c 4 2
  let X2 := wqS X1 c 5 a1
  let X3 := wqS X2 c 6 (-5)
  let X4 := wqS X3 c 12 a2
  X4
theorem qe_X5_enterHall (T : TqT) (c : Nat) (a1 : Int32) (a2 : Int32) : p_X5_enterHall (mS T) c a1 a2 = mS (q_X5_enterHall T c a1 a2) := by
  simp only [p_X5_enterHall, q_X5_enterHall, wq_e, mP_1, mP_2, mP_m, mS_if, mP_if, mS_o, mP_o, qe_X5_finish]
def q_X5_ride (X : TqT) (c : Nat) (c1 : Nat) (a2 : Int32) (a3 : Int32) : TqT :=
  let X1 := wqS X c 4 1
  let X2 := wqS X1 c 5 (nI (nLin c1))
  let X3 := wqS X2 c 6 a2
  let X4 := wqS X3 c 13 (nI (10 * nLin c1 + nSta c1))
  if (mS X4) c 8 = (-5) then
    let X5 := wqS X4 c 8 a3
    X5
  else
    X4
theorem qe_X5_ride (T : TqT) (c : Nat) (c1 : Nat) (a2 : Int32) (a3 : Int32) : p_X5_ride (mS T) c c1 a2 a3 = mS (q_X5_ride T c c1 a2 a3) := by
  simp only [p_X5_ride, q_X5_ride, wq_e, mP_1, mP_2, mP_m, mS_if, mP_if, mS_o, mP_o, qe_X5_finish, qe_X5_enterHall]
def q_X7_copyFrom (X : TqT) (c : Nat) (v1 : Nat → Int32) : TqT :=
  let X1 := wqS X c 0 (v1 0)
  let X2 := wqS X1 c 1 (v1 1)
  let X3 := wqS X2 c 2 (v1 2)
  let X4 := wqS X3 c 3 (v1 3)
  let X5 := wqS X4 c 4 (v1 4)
  X5
theorem qe_X7_copyFrom (T : TqT) (c : Nat) (v1 : Nat → Int32) : p_X7_copyFrom (mS T) c v1 = mS (q_X7_copyFrom T c v1) := by
  simp only [p_X7_copyFrom, q_X7_copyFrom, wq_e, mP_1, mP_2, mP_m, mS_if, mP_if, mS_o, mP_o, qe_X5_finish, qe_X5_enterHall, qe_X5_ride]
def q_X5_issue (X : TqT) (c : Nat) (v1 : Nat → Int32) (a2 : Int32) (a3 : Int32) : TqT :=
  let X1 := q_X7_copyFrom X (c + 1) v1
  let X2 := wqS X1 c 2 (v1 4)
  let X3 := wqS X2 c 3 a2
  let X4 := wqS X3 c 4 0
  let X5 := wqS X4 c 5 (-5)
  let X6 := wqS X5 c 6 (-5)
  let X7 := wqS X6 c 7 a3
  let X8 := wqS X7 c 8 (-5)
  let X9 := wqS X8 c 9 (-5)
  let X10 := wqS X9 c 10 (-5)
  let X11 := wqS X10 c 11 (-5)
  let X12 := wqS X11 c 12 a3
  let X13 := wqS X12 c 13 (-5)
  X13
theorem qe_X5_issue (T : TqT) (c : Nat) (v1 : Nat → Int32) (a2 : Int32) (a3 : Int32) : p_X5_issue (mS T) c v1 a2 a3 = mS (q_X5_issue T c v1 a2 a3) := by
  simp only [p_X5_issue, q_X5_issue, wq_e, mP_1, mP_2, mP_m, mS_if, mP_if, mS_o, mP_o, qe_X5_finish, qe_X5_enterHall, qe_X5_ride, qe_X7_copyFrom]
def q_X1_write (X : TqT) (c : Nat) (a1 : Int32) (a2 : Int32) (a3 : Int32) (a4 : Int32) (a5 : Int32) : TqT :=
  if (mS X) c 2 < 0 then
    X
  else
    if (mS X) c 2 < 12 then
      let X1 := wqS X (c + 1) (((mS X) c 2).toNatClampNeg * 5) a1
      let X2 := wqS X1 (c + 1) ((((mS X) c 2).toNatClampNeg * 5) + 1) a2
      let X3 := wqS X2 (c + 1) ((((mS X) c 2).toNatClampNeg * 5) + 2) a3
      let X4 := wqS X3 (c + 1) ((((mS X) c 2).toNatClampNeg * 5) + 3) a4
      let X5 := wqS X4 (c + 1) ((((mS X) c 2).toNatClampNeg * 5) + 4) a5
      let X6 := wqS X5 c 2 ((((mS X5) c 2) + 1) - (((mS X5) c 2) + 1) / 12 * 12)
      if 12 ≤ (mS X6) c 1 then
        let X7 := wqS X6 c 1 12
        X7
      else
        let X8 := wqS X6 c 1 (((mS X6) c 1) + 1)
        X8
    else
      X
theorem qe_X1_write (T : TqT) (c : Nat) (a1 : Int32) (a2 : Int32) (a3 : Int32) (a4 : Int32) (a5 : Int32) : p_X1_write (mS T) c a1 a2 a3 a4 a5 = mS (q_X1_write T c a1 a2 a3 a4 a5) := by
  simp only [p_X1_write, q_X1_write, wq_e, mP_1, mP_2, mP_m, mS_if, mP_if, mS_o, mP_o, qe_X5_finish, qe_X5_enterHall, qe_X5_ride, qe_X7_copyFrom, qe_X5_issue]
def q_X0_setRider (X : TqT) (c : Nat) (a1 : Int32) (a2 : Int32) : TqT :=
  if f_X8_within a1 0 23 = 0 then
    X
  else
    let X1 := wqS X (c + 1) a1.toNatClampNeg a2
    X1
theorem qe_X0_setRider (T : TqT) (c : Nat) (a1 : Int32) (a2 : Int32) : p_X0_setRider (mS T) c a1 a2 = mS (q_X0_setRider T c a1 a2) := by
  simp only [p_X0_setRider, q_X0_setRider, wq_e, mP_1, mP_2, mP_m, mS_if, mP_if, mS_o, mP_o, qe_X5_finish, qe_X5_enterHall, qe_X5_ride, qe_X7_copyFrom, qe_X5_issue, qe_X1_write]
def q_X0_advance (X : TqT) (c : Nat) : Int32 × TqT :=
  let X1 := wqS X c 6 (((mS X) c 6) + ((mS X) c 7))
  if (mS X1) c 6 < 10 then
    if (-10) < (mS X1) c 6 then
      let X2 := wqS X1 c 5 (f_X0_around (mS X1) c (((mS X1) c 5) + 1))
      ((-5), X2)
    else
      let X3 := wqS X1 c 6 (((mS X1) c 6) + 10)
      let X4 := wqS X3 c 9 (((mS X3) c 9) + 1)
      let X5 := wqS X4 c 5 (f_X0_around (mS X4) c (((mS X4) c 5) + 2))
      (7, X5)
  else
    let X6 := wqS X1 c 6 (((mS X1) c 6) - 10)
    let X7 := wqS X6 c 8 (((mS X6) c 8) + 1)
    (6, X7)
theorem qe_X0_advance (T : TqT) (c : Nat) : p_X0_advance (mS T) c = mP (q_X0_advance T c) := by
  simp only [p_X0_advance, q_X0_advance, wq_e, mP_1, mP_2, mP_m, mS_if, mP_if, mS_o, mP_o, qe_X5_finish, qe_X5_enterHall, qe_X5_ride, qe_X7_copyFrom, qe_X5_issue, qe_X1_write, qe_X0_setRider]
def lq_X4_removeCall_15 (c : Nat) (k1 : Nat) (K : (TqT) → (Nat) → (TqT)) : Nat → (TqT) → (Nat) → (TqT)
  | 0, Z, k_2 => K Z k_2
  | n + 1, Z, k_2 =>
    if (mS Z) c 4 ≤ nI (k_2 + 1) then
      K Z k_2
    else
      if 3 ≤ nI (k_2 + 1) then
        K Z k_2
      else
        let X1 := wqS Z (c + 1) k_2 ((mS Z) (c + 1) (k_2 + 1))
        lq_X4_removeCall_15 c k1 K n X1 (k_2 + 1)
theorem qe_lX4_removeCall_15 (c : Nat) (k1 : Nat) {K : (gM) → (Nat) → (gM)} {K' : (TqT) → (Nat) → (TqT)} (hK : ∀ T k, K (mS T) k = mS (K' T k)) : ∀ (n : Nat) (T : TqT) (k : Nat), lf_X4_removeCall_15 c k1 K n (mS T) k = mS (lq_X4_removeCall_15 c k1 K' n T k) := by
  intro n
  induction n with
  | zero => intro T k; exact hK T k
  | succ n ih =>
    intro T k
    simp only [lf_X4_removeCall_15, lq_X4_removeCall_15, wq_e, mP_1, mP_2, mP_m, mS_if, mP_if, mS_o, mP_o, qe_X5_finish, qe_X5_enterHall, qe_X5_ride, qe_X7_copyFrom, qe_X5_issue, qe_X1_write, qe_X0_setRider, qe_X0_advance, hK, ih]
def q_X4_removeCall (X : TqT) (c : Nat) (k1 : Nat) : TqT :=
  if nI k1 < 0 then
    X
  else
    if nI k1 < (mS X) c 4 then
      lq_X4_removeCall_15 c k1 (fun X1 k_2w6 =>
            let X2 := wqS X1 c 4 (((mS X1) c 4) - 1)
            X2) 2147483647 X k1
    else
      X
theorem qe_X4_removeCall (T : TqT) (c : Nat) (k1 : Nat) : p_X4_removeCall (mS T) c k1 = mS (q_X4_removeCall T c k1) := by
  unfold p_X4_removeCall q_X4_removeCall
  split
  · rfl
  · split
    · exact qe_lX4_removeCall_15 c k1 (fun T k => wq_e _ _ _ _) _ _ _
    · rfl
def lq_X4_takeCall_2 (c : Nat) (a1 : Int32) (K : (TqT) → (Nat) → (Int32 × TqT)) : Nat → (TqT) → (Nat) → (Int32 × TqT)
  | 0, Z, k_2 => K Z k_2
  | n + 1, Z, k_2 =>
    if (mS Z) c 4 ≤ nI k_2 then
      K Z k_2
    else
      if f_X4_callAt (mS Z) c (nI k_2) = a1 then
        let X1 := q_X4_removeCall Z c k_2
        (1, X1)
      else
        lq_X4_takeCall_2 c a1 K n Z (k_2 + 1)
theorem qe_lX4_takeCall_2 (c : Nat) (a1 : Int32) {K : (gM) → (Nat) → (Int32 × gM)} {K' : (TqT) → (Nat) → (Int32 × TqT)} (hK : ∀ T k, K (mS T) k = mP (K' T k)) : ∀ (n : Nat) (T : TqT) (k : Nat), lf_X4_takeCall_2 c a1 K n (mS T) k = mP (lq_X4_takeCall_2 c a1 K' n T k) := by
  intro n
  induction n with
  | zero => intro T k; exact hK T k
  | succ n ih =>
    intro T k
    simp only [lf_X4_takeCall_2, lq_X4_takeCall_2, wq_e, mP_1, mP_2, mP_m, mS_if, mP_if, mS_o, mP_o, qe_X5_finish, qe_X5_enterHall, qe_X5_ride, qe_X7_copyFrom, qe_X5_issue, qe_X1_write, qe_X0_setRider, qe_X0_advance, qe_X4_removeCall, hK, ih]
def q_X4_takeCall (X : TqT) (c : Nat) (a1 : Int32) : Int32 × TqT :=
  lq_X4_takeCall_2 c a1 (fun X1 k_2w1 =>
        (0, X1)) 2147483648 X 0
theorem qe_X4_takeCall (T : TqT) (c : Nat) (a1 : Int32) : p_X4_takeCall (mS T) c a1 = mP (q_X4_takeCall T c a1) := by
  unfold p_X4_takeCall q_X4_takeCall
  exact qe_lX4_takeCall_2 c a1 (fun _ _ => rfl) _ _ _
def q_X3_arrive (X : TqT) (c1 : Nat) (c2 : Nat) : TqT :=
  let X1 := q_X1_write X 33 1 (nI (nTic c1)) (nI (nLin c2)) (nI (10 * nLin c2 + nSta c2)) ((mS X) 0 7)
  let X2 := wqS X1 c2 7 (((mS X1) c2 7) + 1)
  let X3 := wqS X2 0 13 (((mS X2) 0 13) ^^^ ((mS X2) (c1 + 1) 0))
  let X4 := wqS X3 0 11 (((mS X3) 0 11) + ((mS X3) c1 3))
  let X5 := q_X5_finish X4 c1 3 (nI (10 * nLin c2 + nSta c2)) ((mS X4) 0 7)
  X5
theorem qe_X3_arrive (T : TqT) (c1 : Nat) (c2 : Nat) : p_X3_arrive (mS T) c1 c2 = mS (q_X3_arrive T c1 c2) := by
  simp only [p_X3_arrive, q_X3_arrive, wq_e, mP_1, mP_2, mP_m, mS_if, mP_if, mS_o, mP_o, qe_X5_finish, qe_X5_enterHall, qe_X5_ride, qe_X7_copyFrom, qe_X5_issue, qe_X1_write, qe_X0_setRider, qe_X0_advance, qe_X4_removeCall, qe_X4_takeCall]
def q_X3_putOut (X : TqT) (c1 : Nat) (c2 : Nat) (a3 : Int32) (a4 : Int32) : TqT :=
  let X1 := q_X1_write X 33 a4 (nI (nTic c1)) (nI (nLin c2)) (nI (10 * nLin c2 + nSta c2)) ((mS X) 0 7)
  let X2 := wqS X1 0 12 (((mS X1) 0 12) + ((mS X1) c1 3))
  let X3 := q_X5_finish X2 c1 a3 (nI (10 * nLin c2 + nSta c2)) ((mS X2) 0 7)
  X3
theorem qe_X3_putOut (T : TqT) (c1 : Nat) (c2 : Nat) (a3 : Int32) (a4 : Int32) : p_X3_putOut (mS T) c1 c2 a3 a4 = mS (q_X3_putOut T c1 c2 a3 a4) := by
  simp only [p_X3_putOut, q_X3_putOut, wq_e, mP_1, mP_2, mP_m, mS_if, mP_if, mS_o, mP_o, qe_X5_finish, qe_X5_enterHall, qe_X5_ride, qe_X7_copyFrom, qe_X5_issue, qe_X1_write, qe_X0_setRider, qe_X0_advance, qe_X4_removeCall, qe_X4_takeCall, qe_X3_arrive]
def q_X3_board (X : TqT) (c1 : Nat) (c2 : Nat) (c3 : Nat) (a4 : Int32) : TqT :=
  let X1 := q_X1_write X 33 0 (nI (nTic c1)) (nI (nLin c2)) (nI (10 * nLin c3 + nSta c3)) ((mS X) 0 7)
  let X2 := wqS X1 c3 6 (((mS X1) c3 6) + 1)
  let X3 := q_X5_ride X2 c1 c3 a4 ((mS X2) 0 7)
  let X4 := q_X0_setRider X3 c2 a4 (nI (nTic c1))
  X4
theorem qe_X3_board (T : TqT) (c1 : Nat) (c2 : Nat) (c3 : Nat) (a4 : Int32) : p_X3_board (mS T) c1 c2 c3 a4 = mS (q_X3_board T c1 c2 c3 a4) := by
  simp only [p_X3_board, q_X3_board, wq_e, mP_1, mP_2, mP_m, mS_if, mP_if, mS_o, mP_o, qe_X5_finish, qe_X5_enterHall, qe_X5_ride, qe_X7_copyFrom, qe_X5_issue, qe_X1_write, qe_X0_setRider, qe_X0_advance, qe_X4_removeCall, qe_X4_takeCall, qe_X3_arrive, qe_X3_putOut]
def q_X3_getsOff (X : TqT) (c1 : Nat) (c2 : Nat) : Int32 × TqT :=
  if (mS X) (c1 + 1) 3 = nI (10 * nLin c2 + nSta c2) then
    let X8 := q_X3_arrive X c1 c2
    (1, X8)
  else
    let X1 := (q_X4_takeCall X c2 ((mS X) (c1 + 1) 0)).2
    if (q_X4_takeCall X c2 ((mS X) (c1 + 1) 0)).1 = 0 then
      if f_X3_changesLines (mS X1) c1 c2 = 0 then
        if (mS X1) c1 13 = nI (10 * nLin c2 + nSta c2) then
          let X2 := wqS X1 c1 2 (((mS X1) c1 2) - 1)
          if (mS X2) c1 2 ≤ 0 then
            let X3 := q_X3_putOut X2 c1 c2 6 4
            (1, X3)
          else
            (0, X2)
        else
          (0, X1)
      else
        let X4 := q_X1_write X1 33 3 (nI (nTic c1)) (nI (nLin c2)) (nI (10 * nLin c2 + nSta c2)) ((mS X1) 0 7)
        let X5 := q_X5_enterHall X4 c1 (f_X7_lineTo ((mS X4) (c1 + 1))) ((mS X4) 0 7)
        (1, X5)
    else
      let X6 := wqS X1 c2 8 (((mS X1) c2 8) + 1)
      let X7 := q_X3_putOut X6 c1 c2 4 2
      (1, X7)
theorem qe_X3_getsOff (T : TqT) (c1 : Nat) (c2 : Nat) : p_X3_getsOff (mS T) c1 c2 = mP (q_X3_getsOff T c1 c2) := by
  simp only [p_X3_getsOff, q_X3_getsOff, wq_e, mP_1, mP_2, mP_m, mS_if, mP_if, mS_o, mP_o, qe_X5_finish, qe_X5_enterHall, qe_X5_ride, qe_X7_copyFrom, qe_X5_issue, qe_X1_write, qe_X0_setRider, qe_X0_advance, qe_X4_removeCall, qe_X4_takeCall, qe_X3_arrive, qe_X3_putOut, qe_X3_board]
def q_X3_serveStation (X : TqT) (c1 : Nat) (c2 : Nat) : TqT :=
  gOpt (f_X3_ticketOf (mS X) (f_X0_riderIn (mS X) c1 (f_X0_slotAt (mS X) c1 ((mS X) c2 5)))) (
    gOpt (f_X3_nextToBoard (mS X) c2) (
      X) (fun q2 =>
      let X1 := q_X3_board X q2 c1 c2 (f_X0_slotAt (mS X) c1 ((mS X) c2 5))
      X1)) (fun q1 =>
    let X2 := (q_X3_getsOff X q1 c2).2
    if (q_X3_getsOff X q1 c2).1 = 0 then
      gOpt (f_X3_nextToBoard (mS X2) c2) (
        X2) (fun q4 =>
        if f_X3_shoves (mS X2) q4 q1 = 0 then
          X2
        else
          let X3 := wqS X2 c2 9 (((mS X2) c2 9) + 1)
          let X4 := wqS X3 q1 11 (nI (nTic q4))
          let X5 := q_X3_putOut X4 q1 c2 5 5
          let X6 := q_X3_board X5 q4 c1 c2 (f_X0_slotAt (mS X) c1 ((mS X) c2 5))
          X6)
    else
      let X7 := q_X0_setRider X2 c1 (f_X0_slotAt (mS X) c1 ((mS X) c2 5)) (-5)
      gOpt (f_X3_nextToBoard (mS X7) c2) (
        X7) (fun q6 =>
        let X8 := q_X3_board X7 q6 c1 c2 (f_X0_slotAt (mS X) c1 ((mS X) c2 5))
        X8))
theorem qe_X3_serveStation (T : TqT) (c1 : Nat) (c2 : Nat) : p_X3_serveStation (mS T) c1 c2 = mS (q_X3_serveStation T c1 c2) := by
  simp only [p_X3_serveStation, q_X3_serveStation, wq_e, mP_1, mP_2, mP_m, mS_if, mP_if, mS_o, mP_o, qe_X5_finish, qe_X5_enterHall, qe_X5_ride, qe_X7_copyFrom, qe_X5_issue, qe_X1_write, qe_X0_setRider, qe_X0_advance, qe_X4_removeCall, qe_X4_takeCall, qe_X3_arrive, qe_X3_putOut, qe_X3_board, qe_X3_getsOff]
def lq_X3_serveLine_2 (c1 : Nat) (K : (TqT) → (Nat) → (TqT)) : Nat → (TqT) → (Nat) → (TqT)
  | 0, Z, k_2 => K Z k_2
  | n + 1, Z, k_2 =>
    if (mS Z) c1 3 ≤ nI k_2 then
      K Z k_2
    else
      if 6 ≤ nI k_2 then
        K Z k_2
      else
        let X1 := q_X3_serveStation Z c1 (c1 + 2 + 1 + 2 * k_2)
        lq_X3_serveLine_2 c1 K n X1 (k_2 + 1)
theorem qe_lX3_serveLine_2 (c1 : Nat) {K : (gM) → (Nat) → (gM)} {K' : (TqT) → (Nat) → (TqT)} (hK : ∀ T k, K (mS T) k = mS (K' T k)) : ∀ (n : Nat) (T : TqT) (k : Nat), lf_X3_serveLine_2 c1 K n (mS T) k = mS (lq_X3_serveLine_2 c1 K' n T k) := by
  intro n
  induction n with
  | zero => intro T k; exact hK T k
  | succ n ih =>
    intro T k
    simp only [lf_X3_serveLine_2, lq_X3_serveLine_2, wq_e, mP_1, mP_2, mP_m, mS_if, mP_if, mS_o, mP_o, qe_X5_finish, qe_X5_enterHall, qe_X5_ride, qe_X7_copyFrom, qe_X5_issue, qe_X1_write, qe_X0_setRider, qe_X0_advance, qe_X4_removeCall, qe_X4_takeCall, qe_X3_arrive, qe_X3_putOut, qe_X3_board, qe_X3_getsOff, qe_X3_serveStation, hK, ih]
def q_X3_serveLine (X : TqT) (c1 : Nat) : TqT :=
  lq_X3_serveLine_2 c1 (fun X1 k_2w1 =>
        X1) 7 X 0
theorem qe_X3_serveLine (T : TqT) (c1 : Nat) : p_X3_serveLine (mS T) c1 = mS (q_X3_serveLine T c1) := by
  unfold p_X3_serveLine q_X3_serveLine
  exact qe_lX3_serveLine_2 c1 (fun _ _ => rfl) _ _ _
def q_X3_moveLine (X : TqT) (c1 : Nat) : TqT :=
  let X1 := (q_X0_advance X c1).2
  if (q_X0_advance X c1).1 = (-5) then
    X1
  else
    let X2 := q_X1_write X1 33 ((q_X0_advance X c1).1) (-5) (nI (nLin c1)) (-5) ((mS X1) 0 7)
    X2
theorem qe_X3_moveLine (T : TqT) (c1 : Nat) : p_X3_moveLine (mS T) c1 = mS (q_X3_moveLine T c1) := by
  simp only [p_X3_moveLine, q_X3_moveLine, wq_e, mP_1, mP_2, mP_m, mS_if, mP_if, mS_o, mP_o, qe_X5_finish, qe_X5_enterHall, qe_X5_ride, qe_X7_copyFrom, qe_X5_issue, qe_X1_write, qe_X0_setRider, qe_X0_advance, qe_X4_removeCall, qe_X4_takeCall, qe_X3_arrive, qe_X3_putOut, qe_X3_board, qe_X3_getsOff, qe_X3_serveStation, qe_X3_serveLine]
def q_X3_admit (X : TqT) (v1 : Nat → Int32) : Int32 × TqT :=
  if f_X8_within ((mS X) 0 5) 0 39 = 0 then
    ((-3), X)
  else
    let X1 := q_X5_issue X (35 + 2 * (((mS X) 0 5).toNatClampNeg)) v1 (f_X3_priceOf (mS X) (v1 1) (v1 4)) ((mS X) 0 7)
    let X2 := wqS X1 0 10 (((mS X1) 0 10) + (f_X3_priceOf (mS X) (v1 1) (v1 4)))
    let X3 := wqS X2 0 5 (((mS X2) 0 5) + 1)
    ((mS X) 0 5, X3)
theorem qe_X3_admit (T : TqT) (v1 : Nat → Int32) : p_X3_admit (mS T) v1 = mP (q_X3_admit T v1) := by
  simp only [p_X3_admit, q_X3_admit, wq_e, mP_1, mP_2, mP_m, mS_if, mP_if, mS_o, mP_o, qe_X5_finish, qe_X5_enterHall, qe_X5_ride, qe_X7_copyFrom, qe_X5_issue, qe_X1_write, qe_X0_setRider, qe_X0_advance, qe_X4_removeCall, qe_X4_takeCall, qe_X3_arrive, qe_X3_putOut, qe_X3_board, qe_X3_getsOff, qe_X3_serveStation, qe_X3_serveLine, qe_X3_moveLine]
def q_X3_followOrder (X : TqT) (c1 : Nat) : TqT :=
  if f_X3_hasTickets (mS X) 1 = 0 then
    let X1 := wqS X c1 4 (((mS X) c1 4) + 1)
    X1
  else
    let X2 := (q_X3_admit X ((mS X) (c1 + 1))).2
    let X3 := wqS X2 c1 3 (((mS X2) c1 3) + 1)
    X3
theorem qe_X3_followOrder (T : TqT) (c1 : Nat) : p_X3_followOrder (mS T) c1 = mS (q_X3_followOrder T c1) := by
  simp only [p_X3_followOrder, q_X3_followOrder, wq_e, mP_1, mP_2, mP_m, mS_if, mP_if, mS_o, mP_o, qe_X5_finish, qe_X5_enterHall, qe_X5_ride, qe_X7_copyFrom, qe_X5_issue, qe_X1_write, qe_X0_setRider, qe_X0_advance, qe_X4_removeCall, qe_X4_takeCall, qe_X3_arrive, qe_X3_putOut, qe_X3_board, qe_X3_getsOff, qe_X3_serveStation, qe_X3_serveLine, qe_X3_moveLine, qe_X3_admit]
def lq_X3_followOrders_2  (K : (TqT) → (Nat) → (TqT)) : Nat → (TqT) → (Nat) → (TqT)
  | 0, Z, k_1 => K Z k_1
  | n + 1, Z, k_1 =>
    if (mS Z) 0 6 ≤ nI k_1 then
      K Z k_1
    else
      if 4 ≤ nI k_1 then
        K Z k_1
      else
        if f_X2_isDue (mS Z) (115 + 2 * k_1) ((mS Z) 0 7) = 0 then
          lq_X3_followOrders_2 K n Z (k_1 + 1)
        else
          let X1 := q_X3_followOrder Z (115 + 2 * k_1)
          lq_X3_followOrders_2 K n X1 (k_1 + 1)
theorem qe_lX3_followOrders_2  {K : (gM) → (Nat) → (gM)} {K' : (TqT) → (Nat) → (TqT)} (hK : ∀ T k, K (mS T) k = mS (K' T k)) : ∀ (n : Nat) (T : TqT) (k : Nat), lf_X3_followOrders_2  K n (mS T) k = mS (lq_X3_followOrders_2  K' n T k) := by
  intro n
  induction n with
  | zero => intro T k; exact hK T k
  | succ n ih =>
    intro T k
    simp only [lf_X3_followOrders_2, lq_X3_followOrders_2, wq_e, mP_1, mP_2, mP_m, mS_if, mP_if, mS_o, mP_o, qe_X5_finish, qe_X5_enterHall, qe_X5_ride, qe_X7_copyFrom, qe_X5_issue, qe_X1_write, qe_X0_setRider, qe_X0_advance, qe_X4_removeCall, qe_X4_takeCall, qe_X3_arrive, qe_X3_putOut, qe_X3_board, qe_X3_getsOff, qe_X3_serveStation, qe_X3_serveLine, qe_X3_moveLine, qe_X3_admit, qe_X3_followOrder, hK, ih]
def q_X3_followOrders (X : TqT) : TqT :=
  lq_X3_followOrders_2  (fun X1 k_1w1 =>
        X1) 5 X 0
theorem qe_X3_followOrders (T : TqT)  : p_X3_followOrders (mS T)  = mS (q_X3_followOrders T ) := by
  unfold p_X3_followOrders q_X3_followOrders
  exact qe_lX3_followOrders_2  (fun _ _ => rfl) _ _ _
def q_X3_passTick (X : TqT) : TqT :=
  let X1 := q_X3_followOrders X
  let X2 := q_X3_serveLine X1 1
  let X3 := q_X3_serveLine X2 16
  let X4 := q_X3_moveLine X3 1
  let X5 := q_X3_moveLine X4 16
  let X6 := wqS X5 0 7 (((mS X5) 0 7) + 1)
  X6
theorem qe_X3_passTick (T : TqT)  : p_X3_passTick (mS T)  = mS (q_X3_passTick T ) := by
  simp only [p_X3_passTick, q_X3_passTick, wq_e, mP_1, mP_2, mP_m, mS_if, mP_if, mS_o, mP_o, qe_X5_finish, qe_X5_enterHall, qe_X5_ride, qe_X7_copyFrom, qe_X5_issue, qe_X1_write, qe_X0_setRider, qe_X0_advance, qe_X4_removeCall, qe_X4_takeCall, qe_X3_arrive, qe_X3_putOut, qe_X3_board, qe_X3_getsOff, qe_X3_serveStation, qe_X3_serveLine, qe_X3_moveLine, qe_X3_admit, qe_X3_followOrder, qe_X3_followOrders]
