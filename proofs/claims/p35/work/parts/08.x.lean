section ACTS5
variable {X Y : gM} {r : Nat → Int32} {tc oc : Nat} {sl ph mn : Nat → Nat} {l n t k u : Nat}
theorem isC.mono {mn mn' : Nat → Nat} {x : Int32} (h : isC mn x) (hm : ∀ l, l < 2 → mn l ≤ mn' l) : isC mn' x := by
  obtain ⟨l, n, a, b, c⟩ := h
  exact ⟨l, n, a, Nat.lt_of_lt_of_le b (hm l a), c⟩
theorem Inv.opn {r' : Nat → Int32} (h : Inv r tc oc sl ph mn) (hl : l < 2) (hm : mn l < 6) {o : Nat} (ho : o < sl l) (hM : r' (10 + 8 * l + 4) = nI (mn l + 1)) (h0 : r' (74 + 10 * (6 * l + mn l) + 0) = nI o) (h5 : r' (74 + 10 * (6 * l + mn l) + 5) = 0) (hv : ∀ k, k < 3 → r' (74 + 10 * (6 * l + mn l) + 6 + k) = 0) (hs : ∀ i, zr i = true → i ≠ 10 + 8 * l + 4 → (i < 74 + 10 * (6 * l + mn l) ∨ 74 + 10 * (6 * l + mn l) + 10 ≤ i) → r' i = r i) : Inv r' tc oc sl ph (fun x => if x = l then mn l + 1 else mn x) := by
  obtain ⟨⟨a1, a2⟩, ⟨b1, b2⟩, c, d, e, f, g, kk⟩ := h
  have m6 : ∀ l, l < 2 → mn l ≤ 6 := fun l hl => (c l hl).2.2.2
  have s24 : ∀ l, l < 2 → sl l ≤ 24 := fun l hl => (c l hl).1.2.2
  have mono : ∀ x, x < 2 → mn x ≤ (fun x => if x = l then mn l + 1 else mn x) x := by
    intro x hx
    dsimp only
    by_cases hh : x = l
    · rw [if_pos hh, hh]
      omega
    · rw [if_neg hh]
      omega
  have ml : (fun x => if x = l then mn l + 1 else mn x) l = mn l + 1 := if_pos rfl
  have mo : ∀ x, x ≠ l → (fun x => if x = l then mn l + 1 else mn x) x = mn x := fun x hx => if_neg hx
  generalize (fun x => if x = l then mn l + 1 else mn x) = mn' at *
  refine ⟨⟨by rw [hs 1 (by decide +kernel) (by omega) (by omega), a1], a2⟩, ⟨by rw [hs 2 (by decide +kernel) (by omega) (by omega), b1], b2⟩, ?_, ?_, ?_, ?_, ?_, ?_⟩
  · intro l' hl'
    obtain ⟨c1, c2, c3⟩ := c l' hl'
    unfold InvL
    rw [hs _ (zL0 hl') (by omega) (by omega), hs _ (zL1 hl') (by omega) (by omega)]
    refine ⟨c1, c2, ?_⟩
    by_cases hh : l' = l
    · subst hh
      rw [ml]
      exact ⟨hM, by omega⟩
    · rw [mo _ hh, hs _ (zL4 hl') (by omega) (by omega)]
      exact c3
  · intro l' n' hl' hn'
    by_cases hh : l' = l ∧ n' = mn l
    · obtain ⟨rfl, rfl⟩ := hh
      exact ⟨⟨o, ho, h0⟩, 0, by omega, h5⟩
    · have hn2 : n' < mn l' := by
        by_cases h2 : l' = l
        · subst h2
          rw [ml] at hn'
          omega
        · rw [mo _ h2] at hn'
          exact hn'
      have h6' : n' < 6 := Nat.lt_of_lt_of_le hn2 (m6 l' hl')
      unfold InvS
      rw [hs _ (zS0 hl' h6') (by omega) (by omega), hs _ (zS5 hl' h6') (by omega) (by omega)]
      exact d l' n' hl' hn2
  · intro l' n' q hl' w2 w3
    by_cases hh : l' = l ∧ n' = mn l
    · obtain ⟨rfl, rfl⟩ := hh
      rw [hv q w3]
      exact ⟨by decide, fun _ => rfl⟩
    · rw [hs _ (zV hl' w2 w3) (by omega) (by omega)]
      exact ⟨(e l' n' q hl' w2 w3).1, fun z => (e l' n' q hl' w2 w3).2 (Nat.le_trans (mono l' hl') z)⟩
  · intro o' ho'
    have h4 : o' < 4 := Nat.lt_of_lt_of_le ho' b2
    obtain ⟨q1, q2, q3, q4, q5, q6⟩ := f o' ho'
    unfold InvO
    rw [hs _ (zO0 h4) (by omega) (by omega), hs _ (zO4 h4) (by omega) (by omega), hs _ (zO6 h4) (by omega) (by omega), hs _ (zO7 h4) (by omega) (by omega), hs _ (zO8 h4) (by omega) (by omega), hs _ (zO9 h4) (by omega) (by omega)]
    exact ⟨q1, q2, q3, q4.mono mono, q5.mono mono, q6⟩
  · intro t ht
    have h4 : t < 40 := Nat.lt_of_lt_of_le ht a2
    have q := g t ht
    unfold InvT at q ⊢
    rw [hs _ (zT1 h4) (by omega) (by omega), hs _ (zT2 h4) (by omega) (by omega), hs _ (zT3 h4) (by omega) (by omega), hs _ (zT14 h4) (by omega) (by omega), hs _ (zT6 h4) (by omega) (by omega), hs _ (zT4 h4) (by omega) (by omega), hs _ (zT7 h4) (by omega) (by omega), hs _ (zT8 h4) (by omega) (by omega)]
    obtain ⟨q1, q2, q3, q4, s, q5, q6, q7, q8, q9⟩ := q
    refine ⟨q1, q2.mono mono, q3.mono mono, q4, s, q5, q6, q7, fun hz => ?_, q9⟩
    obtain ⟨l', j, w1, w2, w3, w4, w5⟩ := q8 hz
    have := s24 l' w1
    exact ⟨l', j, w1, w2, w3, w4, by rw [hs _ (zE w1 (by omega)) (by omega) (by omega), w5]⟩
  · intro l' j hl' hj
    unfold InvE
    rw [hs _ (zE hl' hj) (by omega) (by omega)]
    rcases kk l' j hl' hj with q | ⟨t, q1, q2, q3, q4, q5⟩
    · exact Or.inl q
    · have h4 : t < 40 := Nat.lt_of_lt_of_le q1 a2
      exact Or.inr ⟨t, q1, q2, by rw [hs _ (zT6 h4) (by omega) (by omega), q3], by rw [hs _ (zT7 h4) (by omega) (by omega), q4], by rw [hs _ (zT8 h4) (by omega) (by omega), q5]⟩
theorem add_38 {K : Nat → Int32 × gM} {KO : Nat → Prop} {a2 : Int32} (h : SS X r tc oc sl ph mn) (hl : l < 2) : ∀ d k f1 f2, k + d = mn l → d < f1 → d < f2 → (lf_X0_hasOffset_2 X (1 + 15 * l) a2 (fun _ => 0) f1 k = 0 ∧ lf_X9_addStation_38 (nI l) a2 (sR Y r) (nI (mn l)) K f2 k = K (mn l) ∧ (KO (mn l) → lok_X9_addStation_38 (nI l) a2 (sR Y r) (nI (mn l)) KO f2 k)) ∨ (lf_X0_hasOffset_2 X (1 + 15 * l) a2 (fun _ => 0) f1 k = 1 ∧ lf_X9_addStation_38 (nI l) a2 (sR Y r) (nI (mn l)) K f2 k = ((-4), sR Y r) ∧ lok_X9_addStation_38 (nI l) a2 (sR Y r) (nI (mn l)) KO f2 k) := by
  have h6 := h.mn6 hl
  have hx : X (1 + 15 * l) 3 = nI (mn l) := by rw [h.1.g (LL4 hl), (h.lin hl).2.2.1]
  intro d
  induction d with
  | zero =>
    intro k f1 f2 hk hf1 hf2
    obtain ⟨g1, rfl⟩ : ∃ g, f1 = g + 1 := ⟨f1 - 1, by omega⟩
    obtain ⟨g2, rfl⟩ : ∃ g, f2 = g + 1 := ⟨f2 - 1, by omega⟩
    have e : k = mn l := by omega
    have hle : nI (mn l) ≤ nI k := nI_le (by omega) (by omega)
    simp only [lf_X9_addStation_38, lok_X9_addStation_38, lf_X0_hasOffset_2, hx, if_pos hle]
    exact Or.inl ⟨trivial, by rw [e], fun q => by rw [e]; exact q⟩
  | succ d ih =>
    intro k f1 f2 hk hf1 hf2
    obtain ⟨g1, rfl⟩ : ∃ g, f1 = g + 1 := ⟨f1 - 1, by omega⟩
    obtain ⟨g2, rfl⟩ : ∃ g, f2 = g + 1 := ⟨f2 - 1, by omega⟩
    have hle : ¬ nI (mn l) ≤ nI k := nI_ge (by omega) (by omega)
    have hle6 : ¬ (6 : Int32) ≤ nI k := nI_ge (b := 6) (by omega) (by decide)
    have hk6 : k < 6 := by omega
    obtain ⟨p1, p2⟩ := off_at (Y := Y) h hl (show k < mn l by omega)
    have x5 : X (1 + 15 * l + 2 + 1 + 2 * k) 5 = r (74 + 10 * (6 * l + k) + 0) := h.1.g (LS0 hl hk6)
    simp only [lf_X9_addStation_38, lok_X9_addStation_38, lf_X0_hasOffset_2, hx, if_neg hle, if_neg hle6, x5, p1]
    by_cases hc : r (74 + 10 * (6 * l + k) + 0) = a2
    · simp only [if_pos hc]
      exact Or.inr ⟨trivial, trivial, p2, trivial⟩
    · simp only [if_neg hc]
      rcases ih (k + 1) g1 g2 (by omega) (by omega) (by omega) with ⟨q1, q2, q3⟩ | ⟨q1, q2, q3⟩
      · exact Or.inl ⟨q1, q2, fun q => ⟨p2, q3 q⟩⟩
      · exact Or.inr ⟨q1, q2, p2, q3⟩
def rZ (r : Nat → Int32) (A k : Nat) : Nat → Int32 := fun i => if A + k ≤ i ∧ i < A + 10 then 0 else r i
theorem rZ_i {A k i : Nat} (h : A + k ≤ i ∧ i < A + 10) : rZ r A k i = 0 := if_pos h
theorem rZ_o {A k i : Nat} (h : i < A + k ∨ A + 10 ≤ i) : rZ r A k i = r i := if_neg (by omega)
theorem add_101 {a1 a2 y3 : Int32} {A : Nat} {K : gM → Nat → Int32 × gM} {KO : gM → Nat → Prop} (hA : A + 10 < 974) : ∀ d k f (r : Nat → Int32), k + d = 10 → d < f → lf_X9_addStation_101 a1 a2 y3 (nI A) K f (sR Y r) k = K (sR Y (rZ r A k)) 10 ∧ (KO (sR Y (rZ r A k)) 10 → lok_X9_addStation_101 a1 a2 y3 (nI A) KO f (sR Y r) k) := by
  intro d
  induction d with
  | zero =>
    intro k f r hk hf
    obtain ⟨g, rfl⟩ : ∃ g, f = g + 1 := ⟨f - 1, by omega⟩
    have e : k = 10 := by omega
    subst e
    have e2 : rZ r A 10 = r := by
      funext i
      exact rZ_o (by omega)
    simp only [lf_X9_addStation_101, lok_X9_addStation_101]
    rw [if_pos (show (10 : Int32) ≤ nI 10 by decide +kernel), if_pos (show (10 : Int32) ≤ nI 10 by decide +kernel), e2]
    exact ⟨rfl, fun q => q⟩
  | succ d ih =>
    intro k f r hk hf
    obtain ⟨g, rfl⟩ : ∃ g, f = g + 1 := ⟨f - 1, by omega⟩
    have hle : ¬ (10 : Int32) ≤ nI k := nI_ge (b := 10) (by omega) (by decide)
    have e2 : rZ (upd r (A + k) 0) A (k + 1) = rZ r A k := by
      funext i
      by_cases h1 : i = A + k
      · subst h1
        rw [rZ_o (by omega), pk_us, rZ_i (by omega)]
      · by_cases h2 : A + k ≤ i ∧ i < A + 10
        · rw [rZ_i (by omega), rZ_i h2]
        · rw [rZ_o (by omega), rZ_o (by omega), pk_un h1]
    obtain ⟨b1, b2⟩ := ih (k + 1) g (upd r (A + k) 0) (by omega) (by omega)
    rw [e2] at b1 b2
    simp only [lf_X9_addStation_101, lok_X9_addStation_101, if_neg hle, iS (show A + k < 2147483648 by omega), sR_u1]
    refine ⟨b1, fun q => ⟨vS (by omega), fun X1 e1 => ?_⟩⟩
    subst e1
    exact b2 q
theorem PS.rz {E : List Nat} {A : Nat} (h : PS E X r) (hE : ∀ i, zp i = true → A + 0 ≤ i ∧ i < A + 10 → i ∈ E ∨ r i = 0) : PS E X (rZ r A 0) := by
  intro i hi he
  by_cases z : A + 0 ≤ i ∧ i < A + 10
  · rcases hE i hi z with q | q
    · exact absurd q he
    · rw [rZ_i z, h i hi he, q]
  · rw [rZ_o (by omega), h i hi he]
theorem open_ss (h : SS X r tc oc sl ph mn) (hl : l < 2) (hm : mn l < 6) {o : Nat} (ho : o < sl l) : (p_X0_openStation X (1 + 15 * l) (nI o)).1 = nI (mn l) ∧ SS (p_X0_openStation X (1 + 15 * l) (nI o)).2 (upd (upd (rZ r (74 + 10 * (6 * l + mn l)) 0) (74 + 10 * (6 * l + mn l) + 0) (nI o)) (10 + 8 * l + 4) (nI (mn l + 1))) tc oc sl ph (fun x => if x = l then mn l + 1 else mn x) := by
  have h40 := h.tc4
  have hx : X (1 + 15 * l) 3 = nI (mn l) := by rw [h.1.g (LL4 hl), (h.lin hl).2.2.1]
  obtain ⟨hPS, hOn, hLg, hInv⟩ := h
  have hw : f_X8_within (nI (mn l)) 0 5 = 1 := (show ∀ k, k < 6 → f_X8_within (nI k) 0 5 = 1 by decide +kernel) _ hm
  have ea : p_X0_openStation X (1 + 15 * l) (nI o) = (nI (mn l), updM (p_X4_open X (1 + 15 * l + 2 + 1 + 2 * mn l) (nI o)) (1 + 15 * l) 3 (nI (mn l + 1))) := by
    unfold p_X0_openStation
    rw [hx, hw, if_neg (show ¬ (1 : Int32) = 0 by decide), c1 (by omega)]
    dsimp only
    have i3 : p_X4_open X (1 + 15 * l + 2 + 1 + 2 * mn l) (nI o) (1 + 15 * l) 3 = nI (mn l) := by
      simp only [p_X4_open]
      simp (disch := omega) only [updM_n, hx]
    rw [i3, nI_1]
  rw [ea]
  refine ⟨rfl, ?_, ?_, ?_, ?_⟩
  · simp only [p_X4_open]
    refine PS.set (LL4 hl) pk_us ?_
    refine PS.set (LS4 hl hm) (by simp (disch := omega) only [pk_un, pk_us, rZ_i]) ?_
    refine PS.set (LS3 hl hm) (by simp (disch := omega) only [pk_un, pk_us, rZ_i]) ?_
    refine PS.set (LS2 hl hm) (by simp (disch := omega) only [pk_un, pk_us, rZ_i]) ?_
    refine PS.set (LS1 hl hm) (by simp (disch := omega) only [pk_un, pk_us, rZ_i]) ?_
    refine PS.set (LS5 hl hm) (by simp (disch := omega) only [pk_un, pk_us, rZ_i]) ?_
    refine PS.set (LS0 hl hm) (by simp (disch := omega) only [pk_un, pk_us, rZ_i]) ?_
    refine PS.rset (by simp) (PS.rset (by simp) (PS.rz hPS.w0 ?_))
    intro i hi hr
    rcases (show i = 74 + 10 * (6 * l + mn l) + 0 ∨ i = 74 + 10 * (6 * l + mn l) + 1 ∨ i = 74 + 10 * (6 * l + mn l) + 2 ∨ i = 74 + 10 * (6 * l + mn l) + 3 ∨ i = 74 + 10 * (6 * l + mn l) + 4 ∨ i = 74 + 10 * (6 * l + mn l) + 5 ∨ i = 74 + 10 * (6 * l + mn l) + 6 + 0 ∨ i = 74 + 10 * (6 * l + mn l) + 6 + 1 ∨ i = 74 + 10 * (6 * l + mn l) + 6 + 2 ∨ i = 74 + 10 * (6 * l + mn l) + 9 by omega) with rfl | rfl | rfl | rfl | rfl | rfl | rfl | rfl | rfl | rfl
    · exact Or.inl (by simp)
    · exact Or.inl (by simp)
    · exact Or.inl (by simp)
    · exact Or.inl (by simp)
    · exact Or.inl (by simp)
    · exact Or.inl (by simp)
    · exact Or.inr ((hInv.2.2.2.2.1 l (mn l) 0 hl hm (by omega)).2 (Nat.le_refl _))
    · exact Or.inr ((hInv.2.2.2.2.1 l (mn l) 1 hl hm (by omega)).2 (Nat.le_refl _))
    · exact Or.inr ((hInv.2.2.2.2.1 l (mn l) 2 hl hm (by omega)).2 (Nat.le_refl _))
    · rw [NLs9 hl hm] at hi
      exact absurd hi (by decide)
  · intro u hu h1
    simp only [p_X4_open]
    simp (disch := omega) only [pk_un, rZ_o, updM_n] at h1 ⊢
    exact hOn u hu h1
  · refine hLg.same (fun j => ?_) (fun j => ?_) (fun i hi => ?_)
    · simp only [p_X4_open]
      simp (disch := omega) only [updM_n]
    · simp only [p_X4_open]
      simp (disch := omega) only [updM_n]
    · simp (disch := omega) only [pk_un, rZ_o]
  · refine hInv.opn hl hm ho pk_us ?_ ?_ ?_ ?_
    · rw [pk_un (by omega), pk_us]
    · rw [pk_un (by omega), pk_un (by omega), rZ_i (by omega)]
    · intro k hk
      rw [pk_un (by omega), pk_un (by omega), rZ_i (by omega)]
    · intro i hi n1 hr
      rw [pk_un n1, pk_un (by omega), rZ_o (by omega)]
theorem s_addStation (h : Rl X Y) (a1 a2 : Int32) : (p_X8_addStation X a1 a2).1 = (p_X9_addStation Y a1 a2).1 ∧ Rl (p_X8_addStation X a1 a2).2 (p_X9_addStation Y a1 a2).2 ∧ ok_X9_addStation Y a1 a2 := by
  obtain ⟨tc, oc, sl, ph, mn, hs⟩ := h.1
  obtain ⟨Y1, e1, h1, R1, o1, -, -⟩ := rec_use h hs
  unfold p_X8_addStation p_X9_addStation ok_X9_addStation
  rcases line_arg a1 with ⟨w1, w2⟩ | ⟨l, hl, rfl, w1, w2⟩
  · rw [w1, w2, if_pos rfl, if_pos rfl, if_pos rfl]
    exact ⟨rfl, h, trivial⟩
  · have h6 := hs.mn6 hl
    have hL := hs.lin hl
    have hr0 : f_X9_ofLine Y (nI l) 0 = nI (sl l) := by rw [rf_line0 hl]; exact hL.1.1
    have hr4 : f_X9_ofLine Y (nI l) 4 = nI (mn l) := by rw [rf_line4 hl]; exact hL.2.2.1
    have hx4 : vw 0 X (1 + 15 * l) 4 = nI (sl l) := by rw [hs.1.g (LL0 hl)]; exact hL.1.1
    have hx3 : vw 0 X (1 + 15 * l) 3 = nI (mn l) := by rw [hs.1.g (LL4 hl)]; exact hL.2.2.1
    rw [w1, w2, if_neg (show ¬ (1 : Int32) = 0 by decide), if_neg (show ¬ (1 : Int32) = 0 by decide), if_neg (show ¬ (1 : Int32) = 0 by decide), lineOf_n hl, in_eq, hr0, hx4, hr4, hx3, e1]
    rcases in_sub (b := sl l) (by have := hL.1.2.2; omega) a2 with q | ⟨q, o, ho, rfl⟩
    · rw [q, if_pos rfl, if_pos rfl, if_pos rfl]
      exact ⟨rfl, h, ro_line0 hl, trivial⟩
    · rw [q, if_neg (show ¬ (1 : Int32) = 0 by decide), if_neg (show ¬ (1 : Int32) = 0 by decide), if_neg (show ¬ (1 : Int32) = 0 by decide)]
      have B := fun K KO => add_38 (Y := Y) (K := K) (KO := KO) (a2 := nI o) hs hl (mn l) 0 7 2147483648 (by omega) (by omega) (by omega)
      simp only [sR_id] at B
      rcases B _ _ with ⟨q1, q2, q3⟩ | ⟨q1, q2, q3⟩
      · rw [q2]
        have q1' : f_X0_hasOffset (vw 0 X) (1 + 15 * l) (nI o) = 0 := q1
        rw [q1', if_pos rfl]
        dsimp only
        by_cases hm : mn l = 6
        · have hm' : nI (mn l) = 6 := by rw [hm]; rfl
          have hm2 : ¬ nI (mn l) < 6 := by rw [hm]; decide +kernel
          rw [if_neg hm2, if_pos hm']
          refine ⟨rfl, h, ro_line0 hl, ro_line4 hl, q3 ?_⟩
          rw [if_pos hm']
          trivial
        · have hm6 : mn l < 6 := by omega
          have hm' : ¬ nI (mn l) = 6 := fun z => hm (nI_inj (b := 6) (by omega) (by omega) z)
          have hm2 : nI (mn l) < 6 := nI_lt (b := 6) hm6 (by decide)
          have hA : 74 + 10 * (6 * l + mn l) < 194 := by omega
          obtain ⟨b1, b2⟩ := open_ss h1 hl hm6 ho
          have est : f_X9_stationAt ((10 * nI l) + nI (mn l)) = nI (74 + 10 * (6 * l + mn l)) := by rw [e10n, st_at hl hm6]
          rw [if_pos hm2, if_neg hm']
          refine ⟨?_, ?_, ro_line0 hl, ro_line4 hl, q3 ?_⟩
          · rw [est, (add_101 (Y := Y1) (KO := fun _ _ => True) (by omega) 10 0 2147483648 _ rfl (by omega)).1]
            exact b1
          · rw [est, (add_101 (Y := Y1) (KO := fun _ _ => True) (by omega) 10 0 2147483648 _ rfl (by omega)).1]
            dsimp only
            rw [sR_u1, sR_1, sR_u1, iS0 (by omega), ri_line4 hl, pk_un (show 10 + 8 * l + 4 ≠ 74 + 10 * (6 * l + mn l) + 0 by omega), rZ_o (by omega), hL.2.2.1, nI_1]
            exact R1.act b2.se
          · rw [if_neg hm']
            refine ⟨o1, fun X1 ex => ?_⟩
            subst ex
            rw [est]
            refine (add_101 (Y := Y1) (K := fun X _ => (0, X)) (by omega) 10 0 2147483648 _ rfl (by omega)).2 ?_
            exact ⟨vS0 (by omega), fun X3 _ => ⟨rv_line4 hl, rv_line4 hl, trivial⟩⟩
      · rw [q2]
        have q1' : f_X0_hasOffset (vw 0 X) (1 + 15 * l) (nI o) = 1 := q1
        rw [q1', if_neg (show ¬ (1 : Int32) = 0 by decide)]
        exact ⟨rfl, h, ro_line0 hl, ro_line4 hl, q3⟩
end ACTS5
