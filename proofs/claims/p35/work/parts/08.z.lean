/-! undo, keep, restore -/
section HIST
variable {X Y : gM}
def rUn (Y : gM) (h k : Nat) : gM := fun a => if a = 1 then (fun i => if k ≤ i ∧ i < 974 then Y 2 (974 * h + i) else Y 1 i) else Y a
theorem undo_loop {K : gM → Nat → Int32 × gM} {h : Nat} (hh : h < 4) : ∀ d k f (Y : gM), k + d = 974 → d < f → Y 0 2 = nI h → lf_X9_undo_22 K f Y k = K (rUn Y h k) 974 ∧ lok_X9_undo_22 (fun _ _ => True) f Y k := by
  intro d
  induction d with
  | zero =>
    intro k f Y hk hf h2
    obtain ⟨g, rfl⟩ : ∃ g, f = g + 1 := ⟨f - 1, by omega⟩
    have e : k = 974 := by omega
    subst e
    have hle : (974 : Int32) ≤ nI 974 := by decide +kernel
    have e2 : rUn Y h 974 = Y := by
      funext a
      unfold rUn
      by_cases ha : a = 1
      · rw [if_pos ha, ha]
        funext i
        rw [if_neg (by omega)]
      · rw [if_neg ha]
    simp only [lf_X9_undo_22, lok_X9_undo_22, if_pos hle, e2]
    exact ⟨trivial, trivial⟩
  | succ d ih =>
    intro k f Y hk hf h2
    obtain ⟨g, rfl⟩ : ∃ g, f = g + 1 := ⟨f - 1, by omega⟩
    have hle : ¬ (974 : Int32) ≤ nI k := nI_ge (b := 974) (by omega) (by decide)
    have hk9 : k < 974 := by omega
    obtain ⟨b1, b2⟩ := ih (k + 1) g (updM Y 1 k (Y 2 (974 * h + k))) (by omega) (by omega) (by rw [updM_n (by decide), h2])
    have e2 : rUn (updM Y 1 k (Y 2 (974 * h + k))) h (k + 1) = rUn Y h k := by
      funext a
      unfold rUn
      by_cases ha : a = 1
      · rw [if_pos ha, if_pos ha]
        funext i
        by_cases h1 : i = k
        · subst h1
          rw [if_neg (by omega), if_pos (by omega), updM_ss]
        · by_cases h3 : k ≤ i ∧ i < 974
          · rw [if_pos (by omega), if_pos h3, updM_n (by decide)]
          · rw [if_neg (by omega), if_neg h3, updM_sn h1]
      · rw [if_neg ha, if_neg ha, updM_o ha]
    simp only [lf_X9_undo_22, lok_X9_undo_22, if_neg hle, h2, i974 (show h ≤ 4 by omega) hk9]
    rw [b1, e2]
    refine ⟨rfl, v974 hh hk9, fun X1 e1 => ?_⟩
    subst e1
    exact b2
theorem undo_eq {n : Nat} (hn : n ≠ 0) (h4 : n ≤ 4) (a2 : Y 0 2 = nI n) : p_X9_undo Y = (nI (n - 1), rUn (updM Y 0 2 (nI (n - 1))) (n - 1) 0) ∧ ok_X9_undo Y := by
  have hn0 : ¬ nI n = 0 := nI_ne0 (by omega) (by omega)
  have em : nI n - 1 = nI (n - 1) := by
    have := nI_pred (n - 1)
    rwa [show n - 1 + 1 = n by omega] at this
  have l := fun K : gM → Nat → Int32 × gM => undo_loop (K := K) (h := n - 1) (by omega) 974 0 2147483648 (updM Y 0 2 (nI (n - 1))) rfl (by omega) updM_ss
  have y02 : rUn (updM Y 0 2 (nI (n - 1))) (n - 1) 0 0 2 = nI (n - 1) := by
    unfold rUn
    rw [if_neg (by decide), updM_ss]
  constructor
  · unfold p_X9_undo
    rw [a2, if_neg hn0, em, (l _).1, y02]
  · unfold ok_X9_undo
    rw [a2, if_neg hn0, em]
    intro X1 ex
    subst ex
    exact (l (fun X _ => (0, X))).2
theorem s_undo (h : Rl X Y) : (p_X8_undo X).1 = (p_X9_undo Y).1 ∧ Rl (p_X8_undo X).2 (p_X9_undo Y).2 ∧ ok_X9_undo Y := by
  obtain ⟨s0, ⟨n, h4, a1, a2, a3⟩, b, c, ⟨m, d1, d2, d3, d4⟩⟩ := id h
  by_cases hn : n = 0
  · subst hn
    unfold p_X8_undo p_X9_undo ok_X9_undo
    rw [a1, a2, if_pos (show nI 0 < 1 by decide +kernel), if_pos (show nI 0 = 0 from rfl), if_pos (show nI 0 = 0 from rfl)]
    exact ⟨rfl, h, trivial⟩
  · have hn1 : ¬ nI n < 1 := nI_nlt (a := n) (b := 1) (by omega) (by omega)
    have hn4 : nI n ≤ 4 := nI_le (b := 4) h4 (by decide)
    have em : nI n - 1 = nI (n - 1) := by
      have := nI_pred (n - 1)
      rwa [show n - 1 + 1 = n by omega] at this
    have hpn := b (n - 1) (by omega)
    have o3 : off (hp X (n - 1)) = 11 + 123 * hp X (n - 1) := off3 hpn.1
    have u06 : updM X 0 6 (nI (n - 1)) 0 6 = nI (n - 1) := updM_ss
    have u370 : (updM X 0 6 (nI (n - 1)) 370 (n - 1)).toNatClampNeg = hp X (n - 1) := congrArg Int32.toNatClampNeg (updM_n (by decide))
    have p0 : ∀ j, putS (updM X 0 6 (nI (n - 1))) 0 (vw (hp X (n - 1)) (updM X 0 6 (nI (n - 1)))) 0 j = updM X 0 6 (nI (n - 1)) 0 j := by
      intro j
      unfold putS
      rw [off0, if_neg (by omega)]
    have ex8 : p_X8_undo X = (nI (n - 1), putS (updM X 0 6 (nI (n - 1))) 0 (vw (hp X (n - 1)) (updM X 0 6 (nI (n - 1))))) := by
      unfold p_X8_undo
      rw [a1, if_neg hn1, if_pos hn4, em]
      dsimp only
      rw [u06, c1 (show n - 1 < 2147483648 by omega), u370, p0, u06]
    obtain ⟨ey9, eok⟩ := undo_eq hn h4 a2
    rw [ex8, ey9]
    dsimp only
    have px : ∀ a, 124 ≤ a → putS (updM X 0 6 (nI (n - 1))) 0 (vw (hp X (n - 1)) (updM X 0 6 (nI (n - 1)))) a = X a := by
      intro a ha
      unfold putS
      rw [off0]
      funext j
      rw [if_neg (by omega), updM_n (by omega)]
    have y0 : ∀ j, j ≠ 2 → rUn (updM Y 0 2 (nI (n - 1))) (n - 1) 0 0 j = Y 0 j := by
      intro j hj
      unfold rUn
      rw [if_neg (by decide), updM_sn hj]
    have y02 : rUn (updM Y 0 2 (nI (n - 1))) (n - 1) 0 0 2 = nI (n - 1) := by
      unfold rUn
      rw [if_neg (by decide), updM_ss]
    have yo : ∀ a, a ≠ 0 → a ≠ 1 → rUn (updM Y 0 2 (nI (n - 1))) (n - 1) 0 a = Y a := by
      intro a h0 h1
      unfold rUn
      rw [if_neg h1, updM_o h0]
    have y1 : ∀ i, i < 974 → rUn (updM Y 0 2 (nI (n - 1))) (n - 1) 0 1 i = Y 2 (974 * (n - 1) + i) := by
      intro i hi
      unfold rUn
      rw [if_pos rfl, if_pos (by omega), updM_n (by decide)]
    have xv : ∀ q j, q < 123 → vw (hp X (n - 1)) (updM X 0 6 (nI (n - 1))) q j = vw (hp X (n - 1)) X q j := by
      intro q j hq
      show updM X 0 6 (nI (n - 1)) (off (hp X (n - 1)) + q) j = X (off (hp X (n - 1)) + q) j
      exact updM_n (by omega)
    generalize hZ : putS (updM X 0 6 (nI (n - 1))) 0 (vw (hp X (n - 1)) (updM X 0 6 (nI (n - 1)))) = Z at *
    generalize hW : rUn (updM Y 0 2 (nI (n - 1))) (n - 1) 0 = W at *
    have e370 : ∀ k, hp Z k = hp X k := fun k => congrArg Int32.toNatClampNeg (congrFun (px 370 (by decide)) k)
    refine ⟨rfl, ⟨?_, ⟨n - 1, by omega, by rw [p0, updM_ss], y02, fun k hk => ?_⟩, ?_, ?_, m, d1, ?_, ?_, ?_⟩, eok⟩
    · refine (a3 (n - 1) (by omega)).cg (fun q j hq => ?_) (fun i hi => y1 i hi)
      rw [← hZ, vw_put0 hq, xv q j hq]
    · rw [e370, yo 2 (by decide) (by decide)]
      have := (b k (by omega)).1
      exact (a3 k (by omega)).cg (fun q j hq => congrFun (px (off (hp X k) + q) (by rw [off3 this]; omega)) j) (fun i hi => rfl)
    · intro j hj
      rw [e370]
      refine ⟨(b j hj).1, (b j hj).2.1, fun j' hj' => ?_⟩
      rw [e370]
      exact (b j hj).2.2 j' hj'
    · rcases c with ⟨c1, c2⟩ | ⟨c1, c2, c3⟩
      · exact Or.inl ⟨by rw [p0, updM_sn (by decide), c1], by rw [y0 _ (by decide), c2]⟩
      · refine Or.inr ⟨by rw [p0, updM_sn (by decide), c1], by rw [y0 _ (by decide), c2], ?_⟩
        rw [yo 3 (by decide) (by decide)]
        exact c3.cg (fun q j hq => congrFun (px (off 1 + q) (by rw [off1]; omega)) j) (fun _ _ => rfl)
    · rw [px _ (by decide), d2]
    · rw [y0 _ (by decide), d3]
    · intro k hk
      rw [px _ (by decide), yo _ (by decide) (by decide), d4 k hk]
def rKp (Y : gM) (k : Nat) : gM := fun a => if a = 3 then (fun i => if k ≤ i ∧ i < 974 then Y 1 i else Y 3 i) else Y a
theorem keep_loop {K : gM → Nat → Int32 × gM} : ∀ d k f (Y : gM), k + d = 974 → d < f → lf_X9_keep_2 K f Y k = K (rKp Y k) 974 ∧ lok_X9_keep_2 (fun _ _ => True) f Y k := by
  intro d
  induction d with
  | zero =>
    intro k f Y hk hf
    obtain ⟨g, rfl⟩ : ∃ g, f = g + 1 := ⟨f - 1, by omega⟩
    have e : k = 974 := by omega
    subst e
    have hle : (974 : Int32) ≤ nI 974 := by decide +kernel
    have e2 : rKp Y 974 = Y := by
      funext a
      unfold rKp
      by_cases ha : a = 3
      · rw [if_pos ha, ha]
        funext i
        rw [if_neg (by omega)]
      · rw [if_neg ha]
    simp only [lf_X9_keep_2, lok_X9_keep_2, if_pos hle, e2]
    exact ⟨trivial, trivial⟩
  | succ d ih =>
    intro k f Y hk hf
    obtain ⟨g, rfl⟩ : ∃ g, f = g + 1 := ⟨f - 1, by omega⟩
    have hle : ¬ (974 : Int32) ≤ nI k := nI_ge (b := 974) (by omega) (by decide)
    obtain ⟨b1, b2⟩ := ih (k + 1) g (updM Y 3 k (Y 1 k)) (by omega) (by omega)
    have e2 : rKp (updM Y 3 k (Y 1 k)) (k + 1) = rKp Y k := by
      funext a
      unfold rKp
      by_cases ha : a = 3
      · rw [if_pos ha, if_pos ha]
        funext i
        by_cases h1 : i = k
        · subst h1
          rw [if_neg (by omega), if_pos (by omega), updM_ss]
        · by_cases h3 : k ≤ i ∧ i < 974
          · rw [if_pos (by omega), if_pos h3, updM_n (by decide)]
          · rw [if_neg (by omega), if_neg h3, updM_sn h1]
      · rw [if_neg ha, if_neg ha, updM_o ha]
    simp only [lf_X9_keep_2, lok_X9_keep_2, if_neg hle]
    rw [b1, e2]
    refine ⟨rfl, fun X1 e1 => ?_⟩
    subst e1
    exact b2
theorem keep_eq {Y : gM} : p_X9_keep Y = ((updM (rKp Y 0) 0 4 1) 1 0, updM (rKp Y 0) 0 4 1) ∧ ok_X9_keep Y := by
  have l := fun K : gM → Nat → Int32 × gM => keep_loop (K := K) 974 0 2147483648 Y rfl (by omega)
  constructor
  · unfold p_X9_keep
    rw [(l _).1]
  · exact (l (fun X _ => (0, X))).2
theorem s_keep (h : Rl X Y) : (p_X8_keep X).1 = (p_X9_keep Y).1 ∧ Rl (p_X8_keep X).2 (p_X9_keep Y).2 ∧ ok_X9_keep Y := by
  obtain ⟨s0, ⟨n, h4, a1, a2, a3⟩, b, c, ⟨m, d1, d2, d3, d4⟩⟩ := id h
  rw [(keep_eq (Y := Y)).1]
  have l2 := (keep_eq (Y := Y)).2
  have ekx : p_X8_keep X = (vw 0 (updM (putS X 1 (vw 0 X)) 0 7 1) 0 7, updM (putS X 1 (vw 0 X)) 0 7 1) := rfl
  rw [ekx]
  dsimp only
  have px : ∀ a, a ≠ 0 → (a < 124 ∨ 247 ≤ a) → updM (putS X 1 (vw 0 X)) 0 7 1 a = X a := by
    intro a h0 ha
    rw [updM_o h0]
    unfold putS
    rw [off1, if_neg (by omega)]
  have p1 : ∀ q j, q < 123 → vw 1 (updM (putS X 1 (vw 0 X)) 0 7 1) q j = vw 0 X q j := by
    intro q j hq
    show updM (putS X 1 (vw 0 X)) 0 7 1 (off 1 + q) j = _
    rw [updM_n (by rw [off1]; omega)]
    unfold putS
    rw [off1, if_pos (by omega), Nat.add_sub_cancel_left]
  have p0 : ∀ j, j ≠ 7 → updM (putS X 1 (vw 0 X)) 0 7 1 0 j = X 0 j := by
    intro j hj
    rw [updM_sn hj]
    unfold putS
    rw [off1, if_neg (by omega)]
  have yo : ∀ a, a ≠ 0 → a ≠ 3 → updM (rKp Y 0) 0 4 1 a = Y a := by
    intro a h0 h3
    rw [updM_o h0]
    unfold rKp
    rw [if_neg h3]
  have y0 : ∀ j, j ≠ 4 → updM (rKp Y 0) 0 4 1 0 j = Y 0 j := fun j hj => by rw [updM_sn hj]; rfl
  have e370 : ∀ k, hp (updM (putS X 1 (vw 0 X)) 0 7 1) k = hp X k := fun k => congrArg Int32.toNatClampNeg (congrFun (px 370 (by decide) (by decide)) k)
  have e7 : vw 0 X 0 7 = Y 1 0 := by
    obtain ⟨tc, oc, sl, ph, mn, hs⟩ := s0
    exact hs.1.g LK0
  refine ⟨?_, ⟨?_, ⟨n, h4, by rw [p0 _ (by decide), a1], by rw [y0 _ (by decide), a2], fun k hk => ?_⟩, ?_, Or.inr ⟨updM_ss, updM_ss, ?_⟩, m, d1, ?_, ?_, ?_⟩, l2⟩
  · rw [yo 1 (by decide) (by decide), ← e7]
    exact congrFun (px (off 0 + 0) (by rw [off0]; omega) (by rw [off0]; omega)) 7
  · rw [yo 1 (by decide) (by decide)]
    exact s0.cg (fun q j hq => congrFun (px (off 0 + q) (by rw [off0]; omega) (by rw [off0]; omega)) j) (fun _ _ => rfl)
  · rw [e370, yo 2 (by decide) (by decide)]
    have := (b k (by omega)).1
    exact (a3 k (by omega)).cg (fun q j hq => congrFun (px (off (hp X k) + q) (by rw [off3 this]; omega) (by rw [off3 this]; omega)) j) (fun _ _ => rfl)
  · intro j hj
    rw [e370]
    refine ⟨(b j hj).1, (b j hj).2.1, fun j' hj' => ?_⟩
    rw [e370]
    exact (b j hj).2.2 j' hj'
  · refine s0.cg (fun q j hq => p1 q j hq) (fun i hi => ?_)
    rw [updM_n (by decide)]
    unfold rKp
    rw [if_pos rfl, if_pos (by omega)]
  · rw [px _ (by decide) (by decide), d2]
  · rw [y0 _ (by decide), d3]
  · intro k hk
    rw [px _ (by decide) (by decide), yo _ (by decide) (by decide), d4 k hk]
theorem rest_loop {K : gM → Nat → Int32 × gM} : ∀ d k f (r : Nat → Int32), k + d = 974 → d < f → lf_X9_restore_16 K f (sR Y r) k = K (sR Y (fun i => if k ≤ i ∧ i < 974 then Y 3 i else r i)) 974 ∧ lok_X9_restore_16 (fun _ _ => True) f (sR Y r) k := by
  intro d
  induction d with
  | zero =>
    intro k f r hk hf
    obtain ⟨g, rfl⟩ : ∃ g, f = g + 1 := ⟨f - 1, by omega⟩
    have e : k = 974 := by omega
    subst e
    have hle : (974 : Int32) ≤ nI 974 := by decide +kernel
    have e2 : (fun i => if 974 ≤ i ∧ i < 974 then Y 3 i else r i) = r := by
      funext i
      rw [if_neg (by omega)]
    simp only [lf_X9_restore_16, lok_X9_restore_16, if_pos hle]
    rw [e2]
    exact ⟨rfl, trivial⟩
  | succ d ih =>
    intro k f r hk hf
    obtain ⟨g, rfl⟩ : ∃ g, f = g + 1 := ⟨f - 1, by omega⟩
    have hle : ¬ (974 : Int32) ≤ nI k := nI_ge (b := 974) (by omega) (by decide)
    have y3 : sR Y r 3 k = Y 3 k := rfl
    obtain ⟨b1, b2⟩ := ih (k + 1) g (upd r k (Y 3 k)) (by omega) (by omega)
    have e2 : (fun i => if k + 1 ≤ i ∧ i < 974 then Y 3 i else upd r k (Y 3 k) i) = (fun i => if k ≤ i ∧ i < 974 then Y 3 i else r i) := by
      funext i
      by_cases h1 : i = k
      · subst h1
        rw [if_neg (by omega), if_pos (by omega), pk_us]
      · by_cases h3 : k ≤ i ∧ i < 974
        · rw [if_pos (by omega), if_pos h3]
        · rw [if_neg (by omega), if_neg h3, pk_un h1]
    rw [e2] at b1
    simp only [lf_X9_restore_16, lok_X9_restore_16, if_neg hle, y3, sR_u1]
    rw [b1]
    refine ⟨rfl, fun X1 e1 => ?_⟩
    subst e1
    exact b2
theorem s_restore (h : Rl X Y) : (p_X8_restore X).1 = (p_X9_restore Y).1 ∧ Rl (p_X8_restore X).2 (p_X9_restore Y).2 ∧ ok_X9_restore Y := by
  obtain ⟨tc, oc, sl, ph, mn, hs⟩ := h.1
  obtain ⟨Y1, e1, h1, R1, o1, rx, ry⟩ := rec_use h hs
  unfold p_X8_restore p_X9_restore ok_X9_restore
  have hk := h.2.2.2.1
  rcases hk with ⟨c1, c2⟩ | ⟨c1, c2, c3⟩
  · rw [c1, c2, if_pos rfl, if_pos rfl, if_pos rfl]
    exact ⟨rfl, h, trivial⟩
  · rw [c1, c2, if_neg (show ¬ (1 : Int32) = 0 by decide), if_neg (show ¬ (1 : Int32) = 0 by decide), if_neg (show ¬ (1 : Int32) = 0 by decide), e1]
    dsimp only
    obtain ⟨l1, l2⟩ := rest_loop (Y := Y1) (K := fun X2 _ => (X2 1 0, X2)) 974 0 2147483648 (Y 1) rfl (by omega)
    rw [l1]
    have y3 : Y1 3 = Y 3 := ry.1 3 (by decide) (by decide)
    have hS : SE (vw 1 (p_X8_recordState X)) (fun i => if 0 ≤ i ∧ i < 974 then Y1 3 i else Y 1 i) := by
      refine c3.cg (fun q j hq => congrFun (rx.1 (off 1 + q) (by rw [off1]; omega) (by rw [off1]; omega) (by rw [off1]; omega)) j) (fun i hi => ?_)
      rw [if_pos (by omega), y3]
    refine ⟨?_, R1.act hS, o1, fun X1 ex => ?_⟩
    · rw [vw_put0 (by decide)]
      obtain ⟨tc', oc', sl', ph', mn', hs'⟩ := hS
      exact hs'.1.g LK0
    · subst ex
      exact l2
end HIST
