/-! a ticket is made, orders, a tick: both sides -/
def rN5 (r : Nat → Int32) (t k : Nat) : Nat → Int32 := fun i => if 294 + 17 * t + k ≤ i ∧ i < 294 + 17 * t + 17 then (-5) else r i
theorem rN5_i {r : Nat → Int32} {t k i : Nat} (h : 294 + 17 * t + k ≤ i ∧ i < 294 + 17 * t + 17) : rN5 r t k i = (-5) := if_pos h
theorem rN5_o {r : Nat → Int32} {t k i : Nat} (h : i < 294 + 17 * t + k ∨ 294 + 17 * t + 17 ≤ i) : rN5 r t k i = r i := if_neg (by omega)
def pr (f a b : Int32) : Int32 := if a = 3 then ((a * b) * f) + 25 else ((a * b) * f) + 0
def rCome (r : Nat → Int32) (t : Nat) (a1 a2 a3 a4 a5 : Int32) : Nat → Int32 :=
  upd (upd (upd (upd (upd (upd (upd (upd (upd (upd (upd (rN5 (upd r 1 (r 1 + 1)) t 0) (294 + 17 * t + 0) a1) (294 + 17 * t + 1) a2) (294 + 17 * t + 2) a3) (294 + 17 * t + 3) a4) (294 + 17 * t + 4) a5) (294 + 17 * t + 5) (pr (r 6) a2 a5)) (294 + 17 * t + 6) 0) (294 + 17 * t + 9) (r 0)) (294 + 17 * t + 14) a5) (294 + 17 * t + 15) (r 0)) 3 (r 3 + pr (r 6) a2 a5)
section COME
variable {X Y : gM} {r : Nat → Int32} {tc oc : Nat} {sl ph mn : Nat → Nat} {l n t k u : Nat}
theorem comes_loop {a1 a2 a3 a4 a5 : Int32} {K : gM → Nat → Int32 × gM} {KO : gM → Nat → Prop} (ht : t < 40) : ∀ d k f (r : Nat → Int32), k + d = 17 → d < f → lf_X9_comes_21 a1 a2 a3 a4 a5 (nI t) K f (sR Y r) k = K (sR Y (rN5 r t k)) 17 ∧ (KO (sR Y (rN5 r t k)) 17 → lok_X9_comes_21 a1 a2 a3 a4 a5 (nI t) KO f (sR Y r) k) := by
  intro d
  induction d with
  | zero =>
    intro k f r hk hf
    obtain ⟨g, rfl⟩ : ∃ g, f = g + 1 := ⟨f - 1, by omega⟩
    have e : k = 17 := by omega
    subst e
    have e2 : rN5 r t 17 = r := by
      funext i
      exact rN5_o (by omega)
    simp only [lf_X9_comes_21, lok_X9_comes_21]
    rw [if_pos (show (17 : Int32) ≤ nI 17 by decide +kernel), if_pos (show (17 : Int32) ≤ nI 17 by decide +kernel), e2]
    exact ⟨rfl, fun q => q⟩
  | succ d ih =>
    intro k f r hk hf
    obtain ⟨g, rfl⟩ : ∃ g, f = g + 1 := ⟨f - 1, by omega⟩
    have hle : ¬ (17 : Int32) ≤ nI k := nI_ge (b := 17) (by omega) (by decide)
    have e2 : rN5 (upd r (294 + 17 * t + k) (-5)) t (k + 1) = rN5 r t k := by
      funext i
      by_cases h1 : i = 294 + 17 * t + k
      · subst h1
        rw [rN5_o (by omega), pk_us, rN5_i (by omega)]
      · by_cases h2 : 294 + 17 * t + k ≤ i ∧ i < 294 + 17 * t + 17
        · rw [rN5_i (by omega), rN5_i h2]
        · rw [rN5_o (by omega), rN5_o (by omega), pk_un h1]
    obtain ⟨b1, b2⟩ := ih (k + 1) g (upd r (294 + 17 * t + k) (-5)) (by omega) (by omega)
    rw [e2] at b1 b2
    simp only [lf_X9_comes_21, lok_X9_comes_21, if_neg hle, rp_put ht (show k < 17 by omega), sR_u1]
    refine ⟨b1, fun q => ⟨ro_put ht (by omega), fun X1 e1 => ?_⟩⟩
    subst e1
    exact b2 q
theorem rp_comes {a1 a2 a3 a4 a5 : Int32} (ht : t < 40) (h1 : r 1 = nI t) : p_X9_comes (sR Y r) a1 a2 a3 a4 a5 = (nI t, sR Y (rCome r t a1 a2 a3 a4 a5)) ∧ ok_X9_comes (sR Y r) a1 a2 a3 a4 a5 := by
  have y1 : sR Y r 1 1 = nI t := h1
  constructor
  · unfold p_X9_comes
    rw [y1]
    dsimp only
    rw [sR_u1, (comes_loop (Y := Y) (KO := fun _ _ => True) ht 17 0 2147483648 _ rfl (by omega)).1]
    simp only [rp_put0 ht, rp_put1 ht, rp_put2 ht, rp_put3 ht, rp_put4 ht, rp_put5 ht, rp_put6 ht, rp_put9 ht, rp_put14 ht, rp_put15 ht, rf_of5 ht, sR_u1, sR_1, f_X9_cost]
    simp (disch := omega) only [pk_us, pk_un, rN5_o]
    unfold rCome pr
    rw [h1]
  · unfold ok_X9_comes
    rw [y1]
    intro X1 e1
    rw [sR_u1] at e1
    subst e1
    refine (comes_loop (Y := Y) (K := fun X _ => (0, X)) ht 17 0 2147483648 _ rfl (by omega)).2 ?_
    exact ⟨ro_put0 ht, fun X3 _ => ⟨ro_put1 ht, fun X4 _ => ⟨ro_put2 ht, fun X5 _ => ⟨ro_put3 ht, fun X6 _ => ⟨ro_put4 ht, fun X7 _ => ⟨ro_put5 ht, fun X8 _ => ⟨ro_put6 ht, fun X9 _ => ⟨ro_put9 ht, fun X10 _ => ⟨ro_put14 ht, fun X11 _ => ⟨ro_put15 ht, fun X12 _ => ⟨ro_of5 ht, trivial⟩⟩⟩⟩⟩⟩⟩⟩⟩⟩⟩
/-- what a good trip is -/
def gTr (mn : Nat → Nat) (a2 a3 a4 a5 : Int32) : Prop := (∃ k, 1 ≤ k ∧ k ≤ 3 ∧ a2 = nI k) ∧ isC mn a3 ∧ isC mn a4 ∧ (∃ q, 1 ≤ q ∧ q ≤ 9 ∧ a5 = nI q)
theorem Inv.comes {r' : Nat → Int32} {a2 a3 a4 a5 : Int32} (h : Inv r tc oc sl ph mn) (ht : tc < 40) (hg : gTr mn a2 a3 a4 a5) (h1 : r' 1 = nI (tc + 1)) (e1 : r' (294 + 17 * tc + 1) = a2) (e2 : r' (294 + 17 * tc + 2) = a3) (e3 : r' (294 + 17 * tc + 3) = a4) (e4 : r' (294 + 17 * tc + 4) = a5) (e14 : r' (294 + 17 * tc + 14) = a5) (e6 : r' (294 + 17 * tc + 6) = 0) (hs : ∀ i, zr i = true → i ≠ 1 → (i < 294 + 17 * tc ∨ 294 + 17 * tc + 17 ≤ i) → r' i = r i) : Inv r' (tc + 1) oc sl ph mn := by
  obtain ⟨⟨a1, a2'⟩, ⟨b1, b2⟩, c, d, e, f, g, kk⟩ := h
  have m6 : ∀ l, l < 2 → mn l ≤ 6 := fun l hl => (c l hl).2.2.2
  have s24 : ∀ l, l < 2 → sl l ≤ 24 := fun l hl => (c l hl).1.2.2
  refine ⟨⟨h1, by omega⟩, ⟨by rw [hs 2 (by decide +kernel) (by omega) (by omega), b1], b2⟩, ?_, ?_, ?_, ?_, ?_, ?_⟩
  · intro l hl
    unfold InvL
    rw [hs _ (zL0 hl) (by omega) (by omega), hs _ (zL1 hl) (by omega) (by omega), hs _ (zL4 hl) (by omega) (by omega)]
    exact c l hl
  · intro l n hl hn
    have h6 : n < 6 := Nat.lt_of_lt_of_le hn (m6 l hl)
    unfold InvS
    rw [hs _ (zS0 hl h6) (by omega) (by omega), hs _ (zS5 hl h6) (by omega) (by omega)]
    exact d l n hl hn
  · intro l n q hl w2 w3
    rw [hs _ (zV hl w2 w3) (by omega) (by omega)]
    exact e l n q hl w2 w3
  · intro o ho
    have h4 : o < 4 := Nat.lt_of_lt_of_le ho b2
    unfold InvO
    rw [hs _ (zO0 h4) (by omega) (by omega), hs _ (zO4 h4) (by omega) (by omega), hs _ (zO6 h4) (by omega) (by omega), hs _ (zO7 h4) (by omega) (by omega), hs _ (zO8 h4) (by omega) (by omega), hs _ (zO9 h4) (by omega) (by omega)]
    exact f o ho
  · intro u hu
    by_cases hut : u = tc
    · subst hut
      unfold InvT
      rw [e1, e2, e3, e4, e14, e6]
      obtain ⟨g1, g2, g3, g4⟩ := hg
      exact ⟨g1, g2, g3, g4, 0, by omega, rfl, fun _ => g4, fun z => absurd z (by decide), fun z => absurd z (by decide)⟩
    · have hu' : u < tc := by omega
      have h4 : u < 40 := by omega
      have q := g u hu'
      unfold InvT at q ⊢
      rw [hs _ (zT1 h4) (by omega) (by omega), hs _ (zT2 h4) (by omega) (by omega), hs _ (zT3 h4) (by omega) (by omega), hs _ (zT14 h4) (by omega) (by omega), hs _ (zT6 h4) (by omega) (by omega), hs _ (zT4 h4) (by omega) (by omega), hs _ (zT7 h4) (by omega) (by omega), hs _ (zT8 h4) (by omega) (by omega)]
      obtain ⟨q1, q2, q3, q4, s, q5, q6, q7, q8, q9⟩ := q
      refine ⟨q1, q2, q3, q4, s, q5, q6, q7, fun hz => ?_, q9⟩
      obtain ⟨l, j, w1, w2, w3, w4, w5⟩ := q8 hz
      have := s24 l w1
      exact ⟨l, j, w1, w2, w3, w4, by rw [hs _ (zE w1 (by omega)) (by omega) (by omega), w5]⟩
  · intro l j hl hj
    unfold InvE
    rw [hs _ (zE hl hj) (by omega) (by omega)]
    rcases kk l j hl hj with q | ⟨u, q1, q2, q3, q4, q5⟩
    · exact Or.inl q
    · have h4 : u < 40 := by omega
      exact Or.inr ⟨u, by omega, q2, by rw [hs _ (zT6 h4) (by omega) (by omega), q3], by rw [hs _ (zT7 h4) (by omega) (by omega), q4], by rw [hs _ (zT8 h4) (by omega) (by omega), q5]⟩
theorem PS.n5 {E : List Nat} (h : PS E X r) (hE : ∀ i, zp i = true → 294 + 17 * t + 0 ≤ i ∧ i < 294 + 17 * t + 17 → i ∈ E) : PS E X (rN5 r t 0) := by
  intro i hi he
  by_cases z : 294 + 17 * t + 0 ≤ i ∧ i < 294 + 17 * t + 17
  · exact absurd (hE i hi z) he
  · rw [rN5_o (by omega), h i hi he]
theorem admit_sim (h : SS X r tc oc sl ph mn) (ht : tc < 40) (v1 : Nat → Int32) (hg : gTr mn (v1 1) (v1 2) (v1 3) (v1 4)) : (p_X3_admit X v1).1 = nI tc ∧ SS (p_X3_admit X v1).2 (rCome r tc (v1 0) (v1 1) (v1 2) (v1 3) (v1 4)) (tc + 1) oc sl ph mn ∧ cn (bSt (rCome r tc (v1 0) (v1 1) (v1 2) (v1 3) (v1 4)) 3) (tc + 1) = cn (bSt r 3) tc := by
  have h5 : X 0 5 = nI tc := by rw [h.1.g LK1, h.r1]
  have hr1 := h.r1
  obtain ⟨hPS, hOn, hLg, hInv⟩ := h
  have hw : f_X8_within (nI tc) 0 39 = 1 := (show ∀ k, k < 40 → f_X8_within (nI k) 0 39 = 1 by decide +kernel) tc ht
  have g7 : X 0 7 = r 0 := hPS.g LK0
  have g8 : X 0 8 = r 6 := hPS.g LK6
  have g10 : X 0 10 = r 3 := hPS.g LK3
  have epr : f_X3_priceOf X (v1 1) (v1 4) = pr (r 6) (v1 1) (v1 4) := by
    unfold f_X3_priceOf pr
    rw [g8]
  have ea : p_X3_admit X v1 = (nI tc, updM (updM (p_X5_issue X (35 + 2 * tc) v1 (pr (r 6) (v1 1) (v1 4)) (r 0)) 0 10 (r 3 + pr (r 6) (v1 1) (v1 4))) 0 5 (nI tc + 1)) := by
    unfold p_X3_admit
    rw [h5, hw, if_neg (by decide), epr, g7, c1 (by omega)]
    dsimp only
    have i10 : p_X5_issue X (35 + 2 * tc) v1 (pr (r 6) (v1 1) (v1 4)) (r 0) 0 10 = r 3 := by
      simp only [p_X5_issue, p_X7_copyFrom]
      simp (disch := omega) only [updM_n, g10]
    have i5 : p_X5_issue X (35 + 2 * tc) v1 (pr (r 6) (v1 1) (v1 4)) (r 0) 0 5 = nI tc := by
      simp only [p_X5_issue, p_X7_copyFrom]
      simp (disch := omega) only [updM_n, h5]
    rw [i10, updM_sn (by decide), i5]
  rw [ea]
  have e1' : nI tc + 1 = nI (tc + 1) := nI_1 tc
  refine ⟨rfl, ⟨?_, ?_, ?_, ?_⟩, ?_⟩
  · simp only [p_X5_issue, p_X7_copyFrom, rCome]
    refine PS.set LK1 (by simp (disch := omega) only [pk_un, pk_us, rN5_o, hr1]) ?_
    refine PS.set LK3 (by simp (disch := omega) only [pk_un, pk_us]) ?_
    refine PS.ign NLT ?_
    refine PS.set (LT15 ht) (by simp (disch := omega) only [pk_un, pk_us, rN5_i]) ?_
    refine PS.set (LT13 ht) (by simp (disch := omega) only [pk_un, pk_us, rN5_i]) ?_
    refine PS.set (LT12 ht) (by simp (disch := omega) only [pk_un, pk_us, rN5_i]) ?_
    refine PS.set (LT11 ht) (by simp (disch := omega) only [pk_un, pk_us, rN5_i]) ?_
    refine PS.set (LT10 ht) (by simp (disch := omega) only [pk_un, pk_us, rN5_i]) ?_
    refine PS.set (LT9 ht) (by simp (disch := omega) only [pk_un, pk_us, rN5_i]) ?_
    refine PS.set (LT8 ht) (by simp (disch := omega) only [pk_un, pk_us, rN5_i]) ?_
    refine PS.set (LT7 ht) (by simp (disch := omega) only [pk_un, pk_us, rN5_i]) ?_
    refine PS.set (LT6 ht) (by simp (disch := omega) only [pk_un, pk_us, rN5_i]) ?_
    refine PS.set (LT5 ht) (by simp (disch := omega) only [pk_un, pk_us, rN5_i]) ?_
    refine PS.set (LT4 ht) (by simp (disch := omega) only [pk_un, pk_us, rN5_i]) ?_
    refine PS.set (LT14 ht) (by simp (disch := omega) only [pk_un, pk_us, rN5_i]) ?_
    refine PS.set (LT3 ht) (by simp (disch := omega) only [pk_un, pk_us, rN5_i]) ?_
    refine PS.set (LT2 ht) (by simp (disch := omega) only [pk_un, pk_us, rN5_i]) ?_
    refine PS.set (LT1 ht) (by simp (disch := omega) only [pk_un, pk_us, rN5_i]) ?_
    refine PS.set (LT0 ht) (by simp (disch := omega) only [pk_un, pk_us, rN5_i]) ?_
    refine PS.rset (by simp) (PS.rset (by simp) (PS.rset (by simp) (PS.rset (by simp) (PS.rset (by simp) (PS.rset (by simp) (PS.rset (by simp) (PS.rset (by simp) (PS.rset (by simp) (PS.rset (by simp) (PS.rset (by simp) ?_))))))))))
    refine PS.n5 (PS.rset (by simp) hPS.w0) ?_
    intro i hi hr
    rcases (show i = 294 + 17 * tc + 0 ∨ i = 294 + 17 * tc + 1 ∨ i = 294 + 17 * tc + 2 ∨ i = 294 + 17 * tc + 3 ∨ i = 294 + 17 * tc + 4 ∨ i = 294 + 17 * tc + 5 ∨ i = 294 + 17 * tc + 6 ∨ i = 294 + 17 * tc + 7 ∨ i = 294 + 17 * tc + 8 ∨ i = 294 + 17 * tc + 9 ∨ i = 294 + 17 * tc + 10 ∨ i = 294 + 17 * tc + 11 ∨ i = 294 + 17 * tc + 12 ∨ i = 294 + 17 * tc + 13 ∨ i = 294 + 17 * tc + 14 ∨ i = 294 + 17 * tc + 15 ∨ i = 294 + 17 * tc + 16 by omega) with rfl | rfl | rfl | rfl | rfl | rfl | rfl | rfl | rfl | rfl | rfl | rfl | rfl | rfl | rfl | rfl | rfl
    all_goals first | (simp; done) | (rw [NLon ht] at hi; exact absurd hi (by decide))
  · intro u hu h1
    have hut : u ≠ tc ∨ u = tc := by omega
    rcases hut with hut | rfl
    · simp only [rCome] at h1 ⊢
      simp (disch := omega) only [pk_un, rN5_o] at h1 ⊢
      simp only [p_X5_issue, p_X7_copyFrom]
      simp (disch := omega) only [updM_n]
      exact hOn u (by omega) h1
    · simp only [rCome] at h1
      simp (disch := omega) only [pk_un, pk_us] at h1
      exact absurd h1 (by decide)
  · refine hLg.same (fun j => ?_) (fun j => ?_) (fun i hi => ?_)
    · simp only [p_X5_issue, p_X7_copyFrom]
      simp (disch := omega) only [updM_n]
    · simp only [p_X5_issue, p_X7_copyFrom]
      simp (disch := omega) only [updM_n]
    · simp only [rCome]
      simp (disch := omega) only [pk_un, rN5_o]
  · refine hInv.comes ht hg ?_ ?_ ?_ ?_ ?_ ?_ ?_ ?_
    · simp only [rCome]
      simp (disch := omega) only [pk_un, pk_us, rN5_o, hr1, e1']
    · simp only [rCome]
      simp (disch := omega) only [pk_un, pk_us]
    · simp only [rCome]
      simp (disch := omega) only [pk_un, pk_us]
    · simp only [rCome]
      simp (disch := omega) only [pk_un, pk_us]
    · simp only [rCome]
      simp (disch := omega) only [pk_un, pk_us]
    · simp only [rCome]
      simp (disch := omega) only [pk_un, pk_us]
    · simp only [rCome]
      simp (disch := omega) only [pk_un, pk_us]
    · intro i hi n1 hr
      simp only [rCome]
      rw [pk_un (nz hi yK3), pk_un (by omega), pk_un (by omega), pk_un (by omega), pk_un (by omega), pk_un (by omega), pk_un (by omega), pk_un (by omega), pk_un (by omega), pk_un (by omega), pk_un (by omega), rN5_o (by omega), pk_un n1]
  · simp only [cn]
    have e : bSt (rCome r tc (v1 0) (v1 1) (v1 2) (v1 3) (v1 4)) 3 tc = false := by
      unfold bSt
      simp only [rCome]
      simp (disch := omega) only [pk_un, pk_us]
      decide
    rw [e]
    refine cn_all (fun u hu => ?_)
    simp only [rCome]
    simp (disch := omega) only [pk_un, rN5_o]
end COME
