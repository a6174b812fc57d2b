/-! the log on both sides; how a word ends in the reference -/
def rLog (r : Nat → Int32) (a b c d : Int32) : Nat → Int32 := fun i =>
  if i = 9 then (if 12 ≤ r 9 then r 9 + 0 else r 9 + 1) else if i < 234 then r i else if i = 234 then a else if i = 235 then b else if i = 236 then c else if i = 237 then d else if i = 238 then r 0 else if i < 294 then r (i - 5) else r i
theorem rLog_o {r : Nat → Int32} {a b c d : Int32} {i : Nat} (h : i < 9 ∨ 10 ≤ i ∧ i < 234 ∨ 294 ≤ i) : rLog r a b c d i = r i := by
  unfold rLog
  rw [if_neg (by omega)]
  by_cases h1 : i < 234
  · rw [if_pos h1]
  · rw [if_neg h1, if_neg (by omega), if_neg (by omega), if_neg (by omega), if_neg (by omega), if_neg (by omega), if_neg (by omega)]
theorem zr_o : ∀ i, zr i = true → (i < 9 ∨ 10 ≤ i ∧ i < 234 ∨ 294 ≤ i) := by
  have hq : ∀ i, i < 974 → zr i = true → (i < 9 ∨ 10 ≤ i ∧ i < 234 ∨ 294 ≤ i) := by decide +kernel
  intro i hi
  by_cases h : i < 974
  · exact hq i h hi
  · omega
theorem rLog_z {r : Nat → Int32} {a b c d : Int32} {i : Nat} (h : zr i = true) : rLog r a b c d i = r i := rLog_o (zr_o i h)
def shf (r : Nat → Int32) (k : Nat) : Nat → Int32 := fun i => if 239 ≤ i ∧ i ≤ 234 + k then r (i - 5) else r i
theorem logs_loop {Y : gM} {a b c d : Int32} {K : gM → Nat → gM} : ∀ n k fuel r, k = n + 4 → k < 60 → n < fuel → lf_X9_logs_4 a b c d K fuel (sR Y r) k = K (sR Y (shf r k)) 4 := by
  intro n
  induction n with
  | zero =>
    intro k fuel r hk _ hf
    subst hk
    obtain ⟨f, rfl⟩ : ∃ f, fuel = f + 1 := ⟨fuel - 1, by omega⟩
    simp only [lf_X9_logs_4]
    rw [if_pos (show nI (0 + 4) ≤ 4 by decide +kernel)]
    have : shf r (0 + 4) = r := by
      funext i
      unfold shf
      rw [if_neg (by omega)]
    rw [this]
  | succ n ih =>
    intro k fuel r hk h60 hf
    subst hk
    obtain ⟨f, rfl⟩ : ∃ f, fuel = f + 1 := ⟨fuel - 1, by omega⟩
    simp only [lf_X9_logs_4]
    rw [if_neg (show ¬ nI (n + 1 + 4) ≤ 4 from nI_ge (a := 4) (by omega) (by omega))]
    simp only [sR_u1, sR_1]
    rw [ih (n + 1 + 4 - 1) f _ (by omega) (by omega) (by omega)]
    congr 2
    funext i
    unfold shf upd
    by_cases h1 : 239 ≤ i ∧ i ≤ 234 + (n + 1 + 4)
    · rw [if_pos h1]
      by_cases h2 : 239 ≤ i ∧ i ≤ 234 + (n + 1 + 4 - 1)
      · rw [if_pos h2, if_neg (by omega)]
      · rw [if_neg h2, if_pos (by omega)]
        congr 1
        omega
    · rw [if_neg h1, if_neg (by omega), if_neg (by omega)]
theorem logs_ok {a b c d : Int32} : ∀ fuel Z k, lok_X9_logs_4 a b c d (fun _ _ => True) fuel Z k := by
  intro fuel
  induction fuel with
  | zero => intro Z k; trivial
  | succ n ih =>
    intro Z k
    simp only [lok_X9_logs_4]
    split
    · trivial
    · intro X1 _
      exact ih _ _
theorem rp_logs {Y : gM} {r : Nat → Int32} {a b c d : Int32} : p_X9_logs (sR Y r) a b c d = sR Y (rLog r a b c d) := by
  unfold p_X9_logs
  rw [logs_loop 55 59 60 r rfl (by decide) (by decide)]
  simp only [sR_u1, sR_1]
  have e0 : ∀ f : Nat → Int32, upd (upd (upd (upd f 234 a) 235 b) 236 c) 237 d 0 = f 0 := fun f => rfl
  have e9 : ∀ (f : Nat → Int32) (x : Int32), upd (upd (upd (upd (upd f 234 a) 235 b) 236 c) 237 d) 238 x 9 = f 9 := fun f x => rfl
  have s0 : shf r 59 0 = r 0 := rfl
  have s9 : shf r 59 9 = r 9 := rfl
  rw [e9, e0, s0, s9]
  have key : ∀ i, i ≠ 9 → upd (upd (upd (upd (upd (shf r 59) 234 a) 235 b) 236 c) 237 d) 238 (r 0) i = rLog r a b c d i := by
    intro i h9
    rcases (show i = 234 ∨ i = 235 ∨ i = 236 ∨ i = 237 ∨ i = 238 ∨ (239 ≤ i ∧ i < 294) ∨ (i < 9 ∨ 10 ≤ i ∧ i < 234 ∨ 294 ≤ i) by omega) with rfl | rfl | rfl | rfl | rfl | h | h
    · rfl
    · rfl
    · rfl
    · rfl
    · rfl
    · unfold rLog upd shf
      rw [if_neg (by omega), if_neg (by omega), if_neg (by omega), if_neg (by omega), if_neg (by omega), if_pos (by omega)]
      rw [if_neg (by omega), if_neg (by omega), if_neg (by omega), if_neg (by omega), if_neg (by omega), if_neg (by omega), if_neg (by omega), if_pos (by omega)]
    · rw [rLog_o h]
      unfold upd shf
      rw [if_neg (by omega), if_neg (by omega), if_neg (by omega), if_neg (by omega), if_neg (by omega), if_neg (by omega)]
  by_cases h : 12 ≤ r 9
  · rw [if_pos h]
    congr 1
    funext i
    by_cases h9 : i = 9
    · subst h9
      rw [pk_us]
      unfold rLog
      rw [if_pos rfl, if_pos h]
    · rw [pk_un h9, key i h9]
  · rw [if_neg h]
    congr 1
    funext i
    by_cases h9 : i = 9
    · subst h9
      rw [pk_us]
      unfold rLog
      rw [if_pos rfl, if_neg h]
    · rw [pk_un h9, key i h9]
theorem ro_logs {X : gM} {a b c d : Int32} : ok_X9_logs X a b c d := logs_ok _ _ _
theorem write_o {X : gM} {a b c d e : Int32} {q j : Nat} (h1 : q ≠ 33) (h2 : q ≠ 34) : p_X1_write X 33 a b c d e q j = X q j := by
  unfold p_X1_write
  split
  · rfl
  · split
    · dsimp only
      split
      · rw [updM_n h1, updM_n h1, updM_n h2, updM_n h2, updM_n h2, updM_n h2, updM_n h2]
      · rw [updM_n h1, updM_n h1, updM_n h2, updM_n h2, updM_n h2, updM_n h2, updM_n h2]
    · rfl
theorem PS.log {E : List Nat} {X : gM} {r : Nat → Int32} {a b c d : Int32} (h : PS E X r) : PS E X (rLog r a b c d) := h.r (fun i hi => rLog_o hi)
theorem PS.wr {E : List Nat} {X : gM} {r : Nat → Int32} {a b c d e : Int32} (h : PS E X r) : PS E (p_X1_write X 33 a b c d e) r := h.x (fun c j hc => write_o hc.1 hc.2)
theorem Inv.log {r : Nat → Int32} {a b c d : Int32} {tc oc : Nat} {sl ph mn : Nat → Nat} (h : Inv r tc oc sl ph mn) : Inv (rLog r a b c d) tc oc sl ph mn := h.same (fun i hi => rLog_z hi)
theorem Lg.same {X X' : gM} {r r' : Nat → Int32} (h : Lg X r) (h1 : ∀ j, X' 33 j = X 33 j) (h2 : ∀ j, X' 34 j = X 34 j) (h3 : ∀ i, i = 9 ∨ 234 ≤ i ∧ i < 294 → r' i = r i) : Lg X' r' := by
  obtain ⟨kn, nx, a1, a2, a3, a4, a5, a6⟩ := h
  refine ⟨kn, nx, a1, a2, by rw [h1, a3], by rw [h3 9 (Or.inl rfl), a4], by rw [h1, a5], fun b j hb hj => ?_⟩
  rw [h2, h3 _ (Or.inr (by omega)), a6 b j hb hj]
theorem Lg.wr {X : gM} {r : Nat → Int32} {a b c d e : Int32} (h : Lg X r) (he : e = r 0) : Lg (p_X1_write X 33 a b c d e) (rLog r a b c d) := by
  obtain ⟨kn, nx, a1, a2, a3, a4, a5, a6⟩ := h
  have hnx : ((nI nx) + 1) - ((nI nx) + 1) / 12 * 12 = nI ((nx + 1) % 12) := (show ∀ n, n < 12 → ((nI n) + 1) - ((nI n) + 1) / 12 * 12 = nI ((n + 1) % 12) by decide +kernel) nx a2
  have hcl : (nI nx).toNatClampNeg = nx := nI_clamp (by omega)
  unfold p_X1_write
  rw [a5, if_neg (nI_pos (by omega)), if_pos (show nI nx < 12 from nI_lt (b := 12) a2 (by decide)), hcl]
  dsimp only
  have r2 : ∀ (x1 x2 x3 x4 x5 : Int32), updM (updM (updM (updM (updM X (33 + 1) (nx * 5) x1) (33 + 1) (nx * 5 + 1) x2) (33 + 1) (nx * 5 + 2) x3) (33 + 1) (nx * 5 + 3) x4) (33 + 1) (nx * 5 + 4) x5 33 2 = nI nx := by
    intro x1 x2 x3 x4 x5
    rw [updM_n (by decide), updM_n (by decide), updM_n (by decide), updM_n (by decide), updM_n (by decide), a5]
  have r1 : ∀ (x1 x2 x3 x4 x5 x6 : Int32), updM (updM (updM (updM (updM (updM X (33 + 1) (nx * 5) x1) (33 + 1) (nx * 5 + 1) x2) (33 + 1) (nx * 5 + 2) x3) (33 + 1) (nx * 5 + 3) x4) (33 + 1) (nx * 5 + 4) x5) 33 2 x6 33 1 = nI kn := by
    intro x1 x2 x3 x4 x5 x6
    rw [updM_sn (by decide), updM_n (by decide), updM_n (by decide), updM_n (by decide), updM_n (by decide), updM_n (by decide), a3]
  have r34 : ∀ (x6 x7 : Int32) (b' j : Nat), b' < 12 → j < 5 → updM (updM (updM (updM (updM (updM (updM X (33 + 1) (nx * 5) a) (33 + 1) (nx * 5 + 1) b) (33 + 1) (nx * 5 + 2) c) (33 + 1) (nx * 5 + 3) d) (33 + 1) (nx * 5 + 4) e) 33 2 x6) 33 1 x7 34 (b' * 5 + j) = if b' = nx then (if j = 0 then a else if j = 1 then b else if j = 2 then c else if j = 3 then d else e) else X 34 (b' * 5 + j) := by
    intro x6 x7 b' j hb hj
    rw [updM_n (by decide), updM_n (by decide)]
    simp only [updM, upd, show (33 + 1 = 34) from rfl, if_true]
    by_cases hbn : b' = nx
    · rw [if_pos hbn]
      subst hbn
      rcases (show j = 0 ∨ j = 1 ∨ j = 2 ∨ j = 3 ∨ j = 4 by omega) with rfl | rfl | rfl | rfl | rfl
      · rw [if_neg (by omega), if_neg (by omega), if_neg (by omega), if_neg (by omega), if_pos (by omega), if_pos rfl]
      · rw [if_neg (by omega), if_neg (by omega), if_neg (by omega), if_pos (by omega), if_neg (by decide), if_pos rfl]
      · rw [if_neg (by omega), if_neg (by omega), if_pos (by omega), if_neg (by decide), if_neg (by decide), if_pos rfl]
      · rw [if_neg (by omega), if_pos (by omega), if_neg (by decide), if_neg (by decide), if_neg (by decide), if_pos rfl]
      · rw [if_pos (by omega), if_neg (by decide), if_neg (by decide), if_neg (by decide), if_neg (by decide)]
    · rw [if_neg hbn, if_neg (by omega), if_neg (by omega), if_neg (by omega), if_neg (by omega), if_neg (by omega)]
  have fin : ∀ (x7 : Int32) (kn' : Nat), x7 = nI kn' → kn' ≤ 12 → kn' ≤ kn + 1 → rLog r a b c d 9 = nI kn' → Lg (updM (updM (updM (updM (updM (updM (updM X (33 + 1) (nx * 5) a) (33 + 1) (nx * 5 + 1) b) (33 + 1) (nx * 5 + 2) c) (33 + 1) (nx * 5 + 3) d) (33 + 1) (nx * 5 + 4) e) 33 2 (nI ((nx + 1) % 12))) 33 1 x7) (rLog r a b c d) := by
    intro x7 kn' h7 hk1 hk2 h9
    refine ⟨kn', (nx + 1) % 12, hk1, by omega, by rw [updM_ss, h7], h9, by rw [updM_sn (by decide), updM_ss], fun b' j hb hj => ?_⟩
    rw [r34 _ _ _ _ (by omega) hj]
    rcases Nat.eq_zero_or_pos b' with rfl | hb0
    · rw [if_pos (by omega)]
      rcases (show j = 0 ∨ j = 1 ∨ j = 2 ∨ j = 3 ∨ j = 4 by omega) with rfl | rfl | rfl | rfl | rfl
      · rfl
      · rfl
      · rfl
      · rfl
      · exact he
    · rw [if_neg (by omega)]
      have e1 : ((nx + 1) % 12 + 11 - b') % 12 = (nx + 11 - (b' - 1)) % 12 := by omega
      rw [e1, a6 (b' - 1) j (by omega) hj]
      unfold rLog
      rw [if_neg (by omega), if_neg (by omega), if_neg (by omega), if_neg (by omega), if_neg (by omega), if_neg (by omega), if_neg (by omega), if_pos (by omega)]
      congr 1
      omega
  rw [r2, hnx, r1]
  by_cases hk : kn = 12
  · subst hk
    rw [if_pos (show (12 : Int32) ≤ nI 12 by decide +kernel)]
    refine fin 12 12 rfl (by decide) (by omega) ?_
    unfold rLog
    rw [if_pos rfl, a4]
    decide +kernel
  · have hn : ¬ (12 : Int32) ≤ nI kn := nI_ge (b := 12) (by omega) (by decide)
    rw [if_neg hn]
    refine fin _ (kn + 1) (nI_1 kn) (by omega) (by omega) ?_
    unfold rLog
    rw [if_pos rfl, a4, if_neg hn]
    exact nI_1 kn
/-! how a word ends in the reference's row -/
def rRise (r : Nat → Int32) (t l k : Nat) : Nat → Int32 := upd (upd (upd r (26 + 24 * l + k) (-5)) (294 + 17 * t + 7) (-5)) (294 + 17 * t + 8) (-5)
def rRise0 (r : Nat → Int32) (t : Nat) : Nat → Int32 := upd (upd r (294 + 17 * t + 7) (-5)) (294 + 17 * t + 8) (-5)
def rEndC (q : Nat → Int32) (t : Nat) (z st m : Int32) (r : Nat → Int32) : Nat → Int32 := upd (upd (upd (upd (upd q (294 + 17 * t + 6) z) (294 + 17 * t + 11) (r 0)) (294 + 17 * t + 12) st) 5 (r 5 + m)) 4 (r 4 + (r (294 + 17 * t + 5) - m))
section REND
variable {Y : gM} {r : Nat → Int32} {t l k : Nat} {z st m : Int32}
theorem rp_rises (ht : t < 40) (hl : l < 2) (hk : k < 24) (h6 : r (294 + 17 * t + 6) = 1) (h7 : r (294 + 17 * t + 7) = nI l) (h8 : r (294 + 17 * t + 8) = nI k) : p_X9_rises (sR Y r) (nI t) = sR Y (rRise r t l k) ∧ ok_X9_rises (sR Y r) (nI t) := by
  constructor
  · simp only [p_X9_rises, rf_of6 ht, rf_of7 ht, rf_of8 ht, sR_1, h6, h7, h8, ri_seat hl hk, sR_u1, rp_put7 ht, rp_put8 ht, ↓reduceIte, rRise]
  · simp only [ok_X9_rises, rf_of6 ht, rf_of7 ht, rf_of8 ht, sR_1, h6, h7, h8, ro_of6 ht, ro_of7 ht, ro_of8 ht, rv_seat hl hk, ro_put7 ht, ro_put8 ht, ↓reduceIte, true_and, implies_true, and_true]
theorem rp_rises0 (ht : t < 40) (h6 : r (294 + 17 * t + 6) ≠ 1) : p_X9_rises (sR Y r) (nI t) = sR Y (rRise0 r t) ∧ ok_X9_rises (sR Y r) (nI t) := by
  constructor
  · simp only [p_X9_rises, rf_of6 ht, sR_1, h6, sR_u1, rp_put7 ht, rp_put8 ht, ↓reduceIte, rRise0]
  · simp only [ok_X9_rises, rf_of6 ht, sR_1, h6, ro_of6 ht, ro_put7 ht, ro_put8 ht, ↓reduceIte, true_and, implies_true, and_true]
theorem rp_endsC {q : Nat → Int32} (ht : t < 40) (hp : p_X9_rises (sR Y r) (nI t) = sR Y q) (ho : ok_X9_rises (sR Y r) (nI t)) (q0 : q 0 = r 0) (q5 : q 5 = r 5) (q4 : q 4 = r 4) (qc : q (294 + 17 * t + 5) = r (294 + 17 * t + 5)) : p_X9_ends (sR Y r) (nI t) z st m = sR Y (rEndC q t z st m r) ∧ ok_X9_ends (sR Y r) (nI t) z st m := by
  constructor
  · simp only [p_X9_ends, hp, rp_put6 ht, rp_put11 ht, rp_put12 ht, sR_u1, sR_1, rf_of5 ht]
    rw [pk_un (show 0 ≠ 294 + 17 * t + 6 by omega), q0]
    rw [pk_un (show 5 ≠ 294 + 17 * t + 12 by omega), pk_un (show 5 ≠ 294 + 17 * t + 11 by omega), pk_un (show 5 ≠ 294 + 17 * t + 6 by omega), q5]
    rw [pk_un (show 4 ≠ 5 by omega), pk_un (show 4 ≠ 294 + 17 * t + 12 by omega), pk_un (show 4 ≠ 294 + 17 * t + 11 by omega), pk_un (show 4 ≠ 294 + 17 * t + 6 by omega), q4]
    rw [pk_un (show 294 + 17 * t + 5 ≠ 5 by omega), pk_un (show 294 + 17 * t + 5 ≠ 294 + 17 * t + 12 by omega), pk_un (show 294 + 17 * t + 5 ≠ 294 + 17 * t + 11 by omega), pk_un (show 294 + 17 * t + 5 ≠ 294 + 17 * t + 6 by omega), qc]
    rfl
  · simp only [ok_X9_ends, hp, ho, rp_put6 ht, rp_put11 ht, rp_put12 ht, ro_put6 ht, ro_put11 ht, ro_put12 ht, ro_of5 ht, implies_true, and_true, true_and]
theorem rp_ends (ht : t < 40) (hl : l < 2) (hk : k < 24) (h6 : r (294 + 17 * t + 6) = 1) (h7 : r (294 + 17 * t + 7) = nI l) (h8 : r (294 + 17 * t + 8) = nI k) : p_X9_ends (sR Y r) (nI t) z st m = sR Y (rEndC (rRise r t l k) t z st m r) ∧ ok_X9_ends (sR Y r) (nI t) z st m := by
  obtain ⟨a, b⟩ := rp_rises (Y := Y) ht hl hk h6 h7 h8
  refine rp_endsC ht a b ?_ ?_ ?_ ?_ <;> unfold rRise <;> rw [pk_un (by omega), pk_un (by omega), pk_un (by omega)]
theorem rp_ends0 (ht : t < 40) (h6 : r (294 + 17 * t + 6) ≠ 1) : p_X9_ends (sR Y r) (nI t) z st m = sR Y (rEndC (rRise0 r t) t z st m r) ∧ ok_X9_ends (sR Y r) (nI t) z st m := by
  obtain ⟨a, b⟩ := rp_rises0 (Y := Y) ht h6
  refine rp_endsC ht a b ?_ ?_ ?_ ?_ <;> unfold rRise0 <;> rw [pk_un (by omega), pk_un (by omega)]
end REND
