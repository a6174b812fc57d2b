/-! type, clearText, readTickets: both sides -/
section TEXTS
variable {X Y : gM}
theorem Rl.txt {X' Y' : gM} (h : Rl X Y) (hx : ∀ a, (a < 371 ∨ 379 ≤ a) → X' a = X a) (h1 : Y' 1 = Y 1) (h2 : Y' 2 = Y 2) (h3 : Y' 3 = Y 3) (h02 : Y' 0 2 = Y 0 2) (h04 : Y' 0 4 = Y 0 4) (hT : Tx X' Y') : Rl X' Y' := by
  obtain ⟨s0, ⟨n, h4, a1, a2, a3⟩, b, c, -⟩ := h
  have e370 : ∀ k, hp X' k = hp X k := fun k => congrArg Int32.toNatClampNeg (congrFun (hx 370 (by decide)) k)
  refine ⟨?_, ⟨n, h4, by rw [hx 0 (by decide), a1], by rw [h02, a2], fun k hk => ?_⟩, ?_, ?_, hT⟩
  · rw [h1]
    exact s0.cg (fun q j hq => congrFun (hx (off 0 + q) (by rw [off0]; omega)) j) (fun _ _ => rfl)
  · rw [e370, h2]
    have := (b k (by omega)).1
    exact (a3 k hk).cg (fun q j hq => congrFun (hx (off (hp X k) + q) (by rw [off3 this]; omega)) j) (fun _ _ => rfl)
  · intro j hj
    rw [e370]
    refine ⟨(b j hj).1, (b j hj).2.1, fun j' hj' => ?_⟩
    rw [e370]
    exact (b j hj).2.2 j' hj'
  · rcases c with ⟨c1, c2⟩ | ⟨c1, c2, c3⟩
    · exact Or.inl ⟨by rw [hx 0 (by decide), c1], by rw [h04, c2]⟩
    · refine Or.inr ⟨by rw [hx 0 (by decide), c1], by rw [h04, c2], ?_⟩
      rw [h3]
      exact c3.cg (fun q j hq => congrFun (hx (off 1 + q) (by rw [off1]; omega)) j) (fun _ _ => rfl)
theorem putX_o {W : gM} {a : Nat} (h : a < 371 ∨ 379 ≤ a) : putX X W a = X a := by
  funext j
  unfold putX
  rw [if_neg (by omega)]
theorem putX_i {W : gM} {c : Nat} (h : c < 8) : putX X W (371 + c) = W c := by
  funext j
  unfold putX
  rw [if_pos (by omega), Nat.add_sub_cancel_left]
theorem s_type (h : Rl X Y) (a1 : Int32) : (p_X8_type X a1).1 = (p_X9_type Y a1).1 ∧ Rl (p_X8_type X a1).2 (p_X9_type Y a1).2 ∧ ok_X9_type Y a1 := by
  obtain ⟨n, n60, x2, y7, hc⟩ := h.2.2.2.2
  have v2 : vx X 0 2 = nI n := x2
  unfold p_X8_type p_X9_type ok_X9_type p_X6_append
  dsimp only
  rw [v2, y7]
  by_cases hn : n = 60
  · subst hn
    have hw : f_X8_within (nI 60) 0 59 = 0 := by decide +kernel
    rw [hw, if_pos rfl, if_pos (show nI 60 = 60 from rfl), if_pos (show nI 60 = 60 from rfl)]
    refine ⟨rfl, h.txt (fun a ha => putX_o ha) rfl rfl rfl rfl rfl ⟨60, by omega, ?_, y7, fun k hk => ?_⟩, trivial⟩
    · exact (congrFun (putX_i (W := vx X) (c := 0) (by decide)) 2).trans x2
    · exact (congrFun (putX_i (W := vx X) (c := 1) (by decide)) k).trans (hc k hk)
  · have hw : f_X8_within (nI n) 0 59 = 1 := (show ∀ k, k < 60 → f_X8_within (nI k) 0 59 = 1 by decide +kernel) n (by omega)
    have hn' : ¬ nI n = 60 := fun z => hn (nI_inj (b := 60) (by omega) (by omega) z)
    have u2 : updM (vx X) 1 n (vp_nar .char a1) 0 2 = nI n := by rw [updM_n (by decide), v2]
    have w7 : updM Y 5 n (vp_nar .char a1) 0 7 = nI n := by rw [updM_n (by decide), y7]
    rw [hw, if_neg (show ¬ (1 : Int32) = 0 by decide), if_neg hn', if_neg hn', c1 (by omega)]
    dsimp only
    rw [u2, w7, updM_ss, updM_ss]
    refine ⟨rfl, h.txt (fun a ha => putX_o ha) ?_ ?_ ?_ ?_ ?_ ⟨n + 1, by omega, ?_, ?_, fun k hk => ?_⟩, vp_in_nI (by omega) (by decide), trivial⟩
    · rw [updM_o (by decide), updM_o (by decide)]
    · rw [updM_o (by decide), updM_o (by decide)]
    · rw [updM_o (by decide), updM_o (by decide)]
    · rw [updM_sn (by decide), updM_n (by decide)]
    · rw [updM_sn (by decide), updM_n (by decide)]
    · refine (congrFun (putX_i (c := 0) (by decide)) 2).trans ?_
      rw [updM_ss, nI_1]
    · rw [updM_ss, nI_1]
    · refine (congrFun (putX_i (c := 1) (by decide)) k).trans ?_
      rw [updM_n (show (1:Nat) ≠ 0 by decide), updM_n (show (5:Nat) ≠ 0 by decide)]
      by_cases hk2 : k = n
      · subst hk2
        rw [updM_ss, updM_ss]
      · rw [updM_sn hk2, updM_sn hk2]
        exact hc k (by omega)
theorem s_clearText (h : Rl X Y) : (p_X8_clearText X).1 = (p_X9_clearText Y).1 ∧ Rl (p_X8_clearText X).2 (p_X9_clearText Y).2 := by
  obtain ⟨n, n60, x2, y7, hc⟩ := h.2.2.2.2
  have v2 : vx X 0 2 = nI n := x2
  unfold p_X8_clearText p_X9_clearText
  dsimp only
  rw [v2, y7]
  refine ⟨rfl, h.txt (fun a ha => updM_o (by omega)) (updM_o (by decide)) (updM_o (by decide)) (updM_o (by decide)) (updM_sn (by decide)) (updM_sn (by decide)) ⟨0, by omega, updM_ss, updM_ss, fun k hk => absurd hk (by omega)⟩⟩
theorem fr_loop {V Z : gM} {r : Nat → Int32} {tc oc m : Nat} {sl ph mn : Nat → Nat} {K : Int32 → Int32 × gM} {KO : Int32 → Prop} (hs : SS (vw 0 V) r tc oc sl ph mn) (hZ : Z 1 = r) (h3 : vx V 0 3 = nI m) (h12 : Z 0 12 = nI m) (m5 : m ≤ 5) (hT : TRs m (vx V) Z) : ∀ d k f1 f2, k + d = m → d < f1 → d < f2 → (lf_X8_firstRefusal_2 V (fun _ => 0) f1 k = 0 ∧ lf_X9_readTickets_21 Z K f2 (nI (5 * k)) = K (nI (5 * m)) ∧ (∀ j, k ≤ j → j < m → gTr mn (vx V (3 + j) 1) (vx V (3 + j) 2) (vx V (3 + j) 3) (vx V (3 + j) 4)) ∧ (KO (nI (5 * m)) → lok_X9_readTickets_21 Z KO f2 (nI (5 * k)))) ∨ (∃ e, (e = (-1) ∨ e = (-2)) ∧ lf_X8_firstRefusal_2 V (fun _ => 0) f1 k = e ∧ lf_X9_readTickets_21 Z K f2 (nI (5 * k)) = (e, Z) ∧ lok_X9_readTickets_21 Z KO f2 (nI (5 * k))) := by
  have e5 : (5 : Int32) * nI m = nI (5 * m) := nI_mul 5 m
  intro d
  induction d with
  | zero =>
    intro k f1 f2 hk hf1 hf2
    obtain ⟨g1, rfl⟩ : ∃ g, f1 = g + 1 := ⟨f1 - 1, by omega⟩
    obtain ⟨g2, rfl⟩ : ∃ g, f2 = g + 1 := ⟨f2 - 1, by omega⟩
    have e : k = m := by omega
    subst e
    have hle : nI k ≤ nI k := nI_le (Nat.le_refl _) (by omega)
    have hle5 : nI (5 * k) ≤ nI (5 * k) := nI_le (Nat.le_refl _) (by omega)
    simp only [lf_X8_firstRefusal_2, lf_X9_readTickets_21, lok_X9_readTickets_21, h3, h12, e5, if_pos hle, if_pos hle5]
    exact Or.inl ⟨trivial, trivial, fun j h1 h2 => by omega, fun q => q⟩
  | succ d ih =>
    intro k f1 f2 hk hf1 hf2
    obtain ⟨g1, rfl⟩ : ∃ g, f1 = g + 1 := ⟨f1 - 1, by omega⟩
    obtain ⟨g2, rfl⟩ : ∃ g, f2 = g + 1 := ⟨f2 - 1, by omega⟩
    have hle : ¬ nI m ≤ nI k := nI_ge (by omega) (by omega)
    have h5 : ¬ (5 : Int32) ≤ nI k := nI_ge (b := 5) (by omega) (by decide)
    have hle5 : ¬ nI (5 * m) ≤ nI (5 * k) := nI_ge (by omega) (by omega)
    have j0 : (nI (5 * k)).toNatClampNeg = 5 * k + 0 := c1 (by omega)
    have j1 : (nI (5 * k) + 1 : Int32).toNatClampNeg = 5 * k + 1 := iS1 (by omega)
    have j2 : (nI (5 * k) + 2 : Int32).toNatClampNeg = 5 * k + 2 := iS2 (by omega)
    have j3 : (nI (5 * k) + 3 : Int32).toNatClampNeg = 5 * k + 3 := iS3 (by omega)
    have j4 : (nI (5 * k) + 4 : Int32).toNatClampNeg = 5 * k + 4 := iS4 (by omega)
    have vv : ∀ w, w < 5 → vp_in (nI (5 * k) + nI w) 30 := fun w hw => by rw [nI_add]; exact vp_in_nI (by omega) (by decide)
    have vv0 : vp_in (nI (5 * k)) 30 := vp_in_nI (by omega) (by decide)
    have e55 : nI (5 * k) + 5 = nI (5 * (k + 1)) := by
      show nI (5 * k) + nI 5 = _
      rw [nI_add]
      rfl
    have t := hT k (by omega)
    have eZ : Z = sR Z r := by rw [← hZ]; exact sR_id.symm
    obtain ⟨f1', f2', f3'⟩ := refuse_sim (Y := Z) hs (vx V (3 + k))
    rw [← eZ, t 0 (by omega), t 1 (by omega), t 2 (by omega), t 3 (by omega), t 4 (by omega)] at f1' f2'
    simp only [lf_X8_firstRefusal_2, lf_X9_readTickets_21, lok_X9_readTickets_21, h3, h12, e5, if_neg hle, if_neg h5, if_neg hle5, j0, j1, j2, j3, j4, e55]
    rw [← f1']
    rcases f3' with ⟨z, hg⟩ | z
    · rw [z]
      simp only [if_true, if_pos (show (0 : Int32) ≤ 0 by decide)]
      rcases ih (k + 1) g1 g2 (by omega) (by omega) (by omega) with ⟨q1, q2, q3, q4⟩ | ⟨e, q0, q1, q2, q3⟩
      · refine Or.inl ⟨q1, q2, fun j h1 h2 => ?_, fun q => ⟨vv0, vv 1 (by omega), vv 2 (by omega), vv 3 (by omega), vv 4 (by omega), f2', q4 q⟩⟩
        by_cases hj : j = k
        · rw [hj]
          exact hg
        · exact q3 j (by omega) h2
      · exact Or.inr ⟨e, q0, q1, q2, vv0, vv 1 (by omega), vv 2 (by omega), vv 3 (by omega), vv 4 (by omega), f2', q3⟩
    · have zn : ¬ f_X3_refusalOf (vw 0 V) (vx V (3 + k)) = 0 := by
        rcases z with z | z <;> rw [z] <;> decide
      have zl : ¬ 0 ≤ f_X3_refusalOf (vw 0 V) (vx V (3 + k)) := by
        rcases z with z | z <;> rw [z] <;> decide
      simp only [if_neg zn, if_neg zl]
      exact Or.inr ⟨_, z, rfl, rfl, vv0, vv 1 (by omega), vv 2 (by omega), vv 3 (by omega), vv 4 (by omega), f2', trivial⟩
theorem adm_loop {oc m : Nat} {sl ph mn : Nat → Nat} {P : Int32} {y1 y2 y3 : Int32} {K : gM → Nat → Int32 × gM} {K' : gM → Int32 → Int32 → Int32 × gM} {U : gM} (h12 : U 0 12 = nI m) (m5 : m ≤ 5) : ∀ d k f1 f2 (V : gM) (r : Nat → Int32) (tc : Nat) (sum : Int32), k + d = m → d < f1 → d < f2 → SS (vw 0 V) r tc oc sl ph mn → Rl V (sR U r) → tc + d ≤ 40 → vx V 0 3 = nI m → TRs m (vx V) U → (∀ j, j < m → gTr mn (vx V (3 + j) 1) (vx V (3 + j) 2) (vx V (3 + j) 3) (vx V (3 + j) 4)) → r 3 = P + sum → ∃ V' r' sum', lf_X8_readTickets_63 y1 y2 y3 K f1 V k = K V' m ∧ lf_X9_readTickets_113 K' f2 (sR U r) sum (nI (5 * k)) = K' (sR U r') sum' (nI (5 * m)) ∧ Rl V' (sR U r') ∧ vw 0 V' 0 10 = P + sum' ∧ lok_X9_readTickets_113 (fun _ _ _ => True) f2 (sR U r) sum (nI (5 * k)) := by
  have e5 : (5 : Int32) * nI m = nI (5 * m) := nI_mul 5 m
  have y12 : ∀ r, sR U r 0 12 = nI m := fun _ => h12
  have y6 : ∀ r i, sR U r 6 i = U 6 i := fun _ _ => rfl
  intro d
  induction d with
  | zero =>
    intro k f1 f2 V r tc sum hk hf1 hf2 hs hR htc h3 hT hg hP
    obtain ⟨g1, rfl⟩ : ∃ g, f1 = g + 1 := ⟨f1 - 1, by omega⟩
    obtain ⟨g2, rfl⟩ : ∃ g, f2 = g + 1 := ⟨f2 - 1, by omega⟩
    have e : k = m := by omega
    subst e
    have hle : nI k ≤ nI k := nI_le (Nat.le_refl _) (by omega)
    have hle5 : nI (5 * k) ≤ nI (5 * k) := nI_le (Nat.le_refl _) (by omega)
    simp only [lf_X8_readTickets_63, lf_X9_readTickets_113, lok_X9_readTickets_113, h3, y12, e5, if_pos hle, if_pos hle5]
    exact ⟨V, r, sum, rfl, rfl, hR, by rw [hs.1.g LK3, hP], trivial⟩
  | succ d ih =>
    intro k f1 f2 V r tc sum hk hf1 hf2 hs hR htc h3 hT hg hP
    obtain ⟨g1, rfl⟩ : ∃ g, f1 = g + 1 := ⟨f1 - 1, by omega⟩
    obtain ⟨g2, rfl⟩ : ∃ g, f2 = g + 1 := ⟨f2 - 1, by omega⟩
    have hle : ¬ nI m ≤ nI k := nI_ge (by omega) (by omega)
    have h5 : ¬ (5 : Int32) ≤ nI k := nI_ge (b := 5) (by omega) (by decide)
    have hle5 : ¬ nI (5 * m) ≤ nI (5 * k) := nI_ge (by omega) (by omega)
    have j0 : (nI (5 * k)).toNatClampNeg = 5 * k + 0 := c1 (by omega)
    have j1 : (nI (5 * k) + 1 : Int32).toNatClampNeg = 5 * k + 1 := iS1 (by omega)
    have j2 : (nI (5 * k) + 2 : Int32).toNatClampNeg = 5 * k + 2 := iS2 (by omega)
    have j3 : (nI (5 * k) + 3 : Int32).toNatClampNeg = 5 * k + 3 := iS3 (by omega)
    have j4 : (nI (5 * k) + 4 : Int32).toNatClampNeg = 5 * k + 4 := iS4 (by omega)
    have vv : ∀ w, w < 5 → vp_in (nI (5 * k) + nI w) 30 := fun w hw => by rw [nI_add]; exact vp_in_nI (by omega) (by decide)
    have vv0 : vp_in (nI (5 * k)) 30 := vp_in_nI (by omega) (by decide)
    have e55 : nI (5 * k) + 5 = nI (5 * (k + 1)) := by
      show nI (5 * k) + nI 5 = _
      rw [nI_add]
      rfl
    have t := hT k (by omega)
    have htc4 : tc < 40 := by omega
    obtain ⟨b1, b2, -⟩ := admit_sim hs htc4 (vx V (3 + k)) (hg k (by omega))
    rw [t 0 (by omega), t 1 (by omega), t 2 (by omega), t 3 (by omega), t 4 (by omega)] at b2
    obtain ⟨m1, m2⟩ := rp_comes (Y := U) (a1 := U 6 (5 * k + 0)) (a2 := U 6 (5 * k + 1)) (a3 := U 6 (5 * k + 2)) (a4 := U 6 (5 * k + 3)) (a5 := U 6 (5 * k + 4)) htc4 hs.r1
    generalize hr2 : rCome r tc (U 6 (5 * k + 0)) (U 6 (5 * k + 1)) (U 6 (5 * k + 2)) (U 6 (5 * k + 3)) (U 6 (5 * k + 4)) = r2 at *
    have c3 : r2 3 = r 3 + pr (r 6) (U 6 (5 * k + 1)) (U 6 (5 * k + 4)) := by
      rw [← hr2]
      unfold rCome
      rw [pk_us]
    have c5 : r2 (294 + 17 * tc + 5) = pr (r 6) (U 6 (5 * k + 1)) (U 6 (5 * k + 4)) := by
      rw [← hr2]
      unfold rCome
      simp (disch := omega) only [pk_un, pk_us]
    have o5 : f_X9_of (sR U r2) (nI tc) 5 = r2 (294 + 17 * tc + 5) := rf_of5 htc4
    have vput : ∀ c, vx (putS V 0 (p_X3_admit (vw 0 V) (vx V (3 + k))).2) c = vx V c := by
      intro c
      funext q
      show putS V 0 _ (371 + c) q = V (371 + c) q
      unfold putS
      rw [off0, if_neg (by omega)]
    have h2 : SS (vw 0 (putS V 0 (p_X3_admit (vw 0 V) (vx V (3 + k))).2)) r2 (tc + 1) oc sl ph mn := b2.cg (fun _ _ hc => vw_put0 hc) (fun _ _ => rfl)
    have R2 : Rl (putS V 0 (p_X3_admit (vw 0 V) (vx V (3 + k))).2) (sR U r2) := hR.act b2.se
    obtain ⟨V', r', sum', i1, i2, i3, i4, i5⟩ := ih (k + 1) g1 g2 _ r2 (tc + 1) (sum + r2 (294 + 17 * tc + 5)) (by omega) (by omega) (by omega) h2 R2 (by omega) (by rw [vput]; exact h3) (fun j hj i hi => by rw [vput]; exact hT j hj i hi) (fun j hj => by rw [vput]; exact hg j hj) (by rw [c3, c5, hP, Int32.add_assoc])
    simp only [lf_X8_readTickets_63, lf_X9_readTickets_113, lok_X9_readTickets_113, h3, y12, e5, if_neg hle, if_neg h5, if_neg hle5, j0, j1, j2, j3, j4, y6, m1, o5, e55]
    refine ⟨V', r', sum', i1, i2, i3, i4, vv0, vv 1 (by omega), vv 2 (by omega), vv 3 (by omega), vv 4 (by omega), m2, fun X1 ex => ?_⟩
    rw [ex, o5]
    exact ⟨ro_of5 htc4, i5⟩
end TEXTS
