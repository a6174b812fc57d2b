/-! what is recorded, both sides -/
section REC
variable {X Y : gM}
/-- what stays when a state is recorded -/
def RX (X X1 : gM) : Prop := (∀ a, a ≠ 0 → a ≠ 370 → a < 380 → X1 a = X a) ∧ ∀ j, j ≠ 6 → X1 0 j = X 0 j
def RY (Y Y1 : gM) : Prop := (∀ a, a ≠ 0 → a ≠ 2 → Y1 a = Y a) ∧ ∀ j, j ≠ 2 → Y1 0 j = Y 0 j
theorem push_sim (h : Rl X Y) {n : Nat} (hn : n < 4) (hx : X 0 6 = nI n) : Rl (updM (putS X (hp X n) (vw 0 X)) 0 6 (nI (n + 1))) (updM (rRec Y n 0) 0 2 (nI (n + 1))) ∧ RX X (updM (putS X (hp X n) (vw 0 X)) 0 6 (nI (n + 1))) ∧ RY Y (updM (rRec Y n 0) 0 2 (nI (n + 1))) := by
  obtain ⟨s0, ⟨n', h4, a1, a2, a3⟩, b, c, ⟨m, d1, d2, d3, d4⟩⟩ := h
  have en : n' = n := nI_inj (by omega) (by omega) (a1.symm.trans hx)
  subst en
  have hpn := b n' hn
  have e3 : off (hp X n') = 11 + 123 * hp X n' := off3 hpn.1
  have px : ∀ a, a < 380 → putS X (hp X n') (vw 0 X) a = X a := by
    intro a ha
    unfold putS
    rw [if_neg (by omega)]
  have ux : ∀ a, a ≠ 0 → a < 380 → updM (putS X (hp X n') (vw 0 X)) 0 6 (nI (n' + 1)) a = X a := fun a h0 ha => by rw [updM_o h0, px a ha]
  have u0 : ∀ j, j ≠ 6 → updM (putS X (hp X n') (vw 0 X)) 0 6 (nI (n' + 1)) 0 j = X 0 j := fun j hj => by rw [updM_sn hj, px 0 (by omega)]
  have y0 : ∀ j, j ≠ 2 → updM (rRec Y n' 0) 0 2 (nI (n' + 1)) 0 j = Y 0 j := fun j hj => by rw [updM_sn hj]; rfl
  have yo : ∀ a, a ≠ 0 → a ≠ 2 → updM (rRec Y n' 0) 0 2 (nI (n' + 1)) a = Y a := fun a h0 h2 => by
    rw [updM_o h0]
    unfold rRec
    rw [if_neg h2]
  have e370 : ∀ k, hp (updM (putS X (hp X n') (vw 0 X)) 0 6 (nI (n' + 1))) k = hp X k := fun k => congrArg Int32.toNatClampNeg (congrFun (ux 370 (by decide) (by decide)) k)
  refine ⟨⟨?_, ⟨n' + 1, by omega, updM_ss, updM_ss, fun k hk => ?_⟩, ?_, ?_, m, d1, by rw [ux _ (by decide) (by decide), d2], by rw [y0 _ (by decide), d3], fun k hk => by rw [ux _ (by decide) (by decide), yo _ (by decide) (by decide), d4 k hk]⟩, ⟨fun a h0 _ ha => ux a h0 ha, u0⟩, ⟨yo, y0⟩⟩
  · rw [yo 1 (by decide) (by decide)]
    refine s0.cg (fun q j hq => ?_) (fun _ _ => rfl)
    exact congrFun (ux (off 0 + q) (by rw [off0]; omega) (by rw [off0]; omega)) j
  · rw [e370]
    have hpk := b k (by omega)
    have k3 : off (hp X k) = 11 + 123 * hp X k := off3 hpk.1
    by_cases hkn : k = n'
    · subst hkn
      refine s0.cg (fun q j hq => ?_) (fun i hi => ?_)
      · have e1 : vw (hp X k) (updM (putS X (hp X k) (vw 0 X)) 0 6 (nI (k + 1))) q j = putS X (hp X k) (vw 0 X) (off (hp X k) + q) j := by
          show updM (putS X (hp X k) (vw 0 X)) 0 6 (nI (k + 1)) (off (hp X k) + q) j = _
          exact updM_n (by omega)
        rw [e1]
        unfold putS
        rw [if_pos (by omega), Nat.add_sub_cancel_left]
      · show updM (rRec Y k 0) 0 2 (nI (k + 1)) 2 (974 * k + i) = _
        rw [updM_n (by decide)]
        unfold rRec
        rw [if_pos rfl, if_pos (by omega), Nat.add_sub_cancel_left]
    · have hne : hp X k ≠ hp X n' := fun z => hkn (hpk.2.2 n' hn z)
      refine (a3 k (by omega)).cg (fun q j hq => ?_) (fun i hi => ?_)
      · show updM (putS X (hp X n') (vw 0 X)) 0 6 (nI (n' + 1)) (off (hp X k) + q) j = X (off (hp X k) + q) j
        rw [updM_n (by omega)]
        unfold putS
        rw [if_neg]
        omega
      · show updM (rRec Y n' 0) 0 2 (nI (n' + 1)) 2 (974 * k + i) = _
        rw [updM_n (by decide)]
        unfold rRec
        rw [if_pos rfl, if_neg (by omega)]
  · intro j hj
    rw [e370]
    refine ⟨(b j hj).1, (b j hj).2.1, fun j' hj' => ?_⟩
    rw [e370]
    exact (b j hj).2.2 j' hj'
  · rcases c with ⟨c1, c2⟩ | ⟨c1, c2, c3⟩
    · exact Or.inl ⟨by rw [u0 _ (by decide), c1], by rw [y0 _ (by decide), c2]⟩
    · refine Or.inr ⟨by rw [u0 _ (by decide), c1], by rw [y0 _ (by decide), c2], ?_⟩
      rw [yo 3 (by decide) (by decide)]
      refine c3.cg (fun q j hq => ?_) (fun _ _ => rfl)
      exact congrFun (ux (off 1 + q) (by rw [off1]; omega) (by rw [off1]; omega)) j
/-- the oldest is dropped: the places turn -/
def xTurn (X : gM) : gM := updM (updM (updM (updM (updM X 370 0 (X 370 1)) 370 1 (X 370 2)) 370 2 (X 370 3)) 0 6 3) 370 3 (X 370 0)
theorem drop_c : p_X8_dropOldestState X = xTurn X := by
  unfold p_X8_dropOldestState xTurn
  have n1 : ¬ (4 : Int32) ≤ nI 1 := by decide +kernel
  have n2 : ¬ (4 : Int32) ≤ nI (1 + 1) := by decide +kernel
  have n3 : ¬ (4 : Int32) ≤ nI (1 + 1 + 1) := by decide +kernel
  have n4 : (4 : Int32) ≤ nI (1 + 1 + 1 + 1) := by decide +kernel
  have e3 : (3 : Int32).toNatClampNeg = 3 := by decide +kernel
  rw [show (5 : Nat) = 1 + 1 + 1 + 1 + 1 from rfl]
  simp only [lf_X8_dropOldestState_9, if_neg n1, if_neg n2, if_neg n3, if_pos n4, updM_ss, e3]
  rw [updM_sn (by decide), updM_sn (by decide), updM_sn (by decide)]
theorem turn_sim (h : Rl X Y) (hx : X 0 6 = nI 4) : Rl (xTurn X) (updM (rMov Y 0) 0 2 (nI 3)) ∧ RX X (xTurn X) ∧ RY Y (updM (rMov Y 0) 0 2 (nI 3)) ∧ xTurn X 0 6 = nI 3 := by
  obtain ⟨s0, ⟨n', h4, a1, a2, a3⟩, b, c, ⟨m, d1, d2, d3, d4⟩⟩ := h
  have en : n' = 4 := nI_inj (by omega) (by omega) (a1.symm.trans hx)
  subst en
  have ux : ∀ a, a ≠ 0 → a ≠ 370 → xTurn X a = X a := fun a h0 h3 => by
    unfold xTurn
    rw [updM_o h3, updM_o h0, updM_o h3, updM_o h3, updM_o h3]
  have u0 : ∀ j, j ≠ 6 → xTurn X 0 j = X 0 j := fun j hj => by
    unfold xTurn
    rw [updM_n (by decide), updM_sn hj, updM_n (by decide), updM_n (by decide), updM_n (by decide)]
  have u6 : xTurn X 0 6 = nI 3 := by
    unfold xTurn
    rw [updM_n (by decide), updM_ss]
    rfl
  have y0 : ∀ j, j ≠ 2 → updM (rMov Y 0) 0 2 (nI 3) 0 j = Y 0 j := fun j hj => by rw [updM_sn hj]; rfl
  have yo : ∀ a, a ≠ 0 → a ≠ 2 → updM (rMov Y 0) 0 2 (nI 3) a = Y a := fun a h0 h2 => by
    rw [updM_o h0]
    unfold rMov
    rw [if_neg h2]
  have p0 : hp (xTurn X) 0 = hp X 1 := by
    unfold hp xTurn
    rw [updM_sn (by decide), updM_n (by decide), updM_sn (by decide), updM_sn (by decide), updM_ss]
  have p1 : hp (xTurn X) 1 = hp X 2 := by
    unfold hp xTurn
    rw [updM_sn (by decide), updM_n (by decide), updM_sn (by decide), updM_ss]
  have p2 : hp (xTurn X) 2 = hp X 3 := by
    unfold hp xTurn
    rw [updM_sn (by decide), updM_n (by decide), updM_ss]
  have p3 : hp (xTurn X) 3 = hp X 0 := by
    unfold hp xTurn
    rw [updM_ss]
  have pk : ∀ k, k < 3 → hp (xTurn X) k = hp X (k + 1) := by
    intro k hk
    rcases (show k = 0 ∨ k = 1 ∨ k = 2 by omega) with rfl | rfl | rfl
    · exact p0
    · exact p1
    · exact p2
  refine ⟨⟨?_, ⟨3, by omega, u6, updM_ss, fun k hk => ?_⟩, ?_, ?_, m, d1, by rw [ux _ (by decide) (by decide), d2], by rw [y0 _ (by decide), d3], fun k hk => by rw [ux _ (by decide) (by decide), yo _ (by decide) (by decide), d4 k hk]⟩, ⟨fun a h0 h3 _ => ux a h0 h3, u0⟩, ⟨yo, y0⟩, u6⟩
  · rw [yo 1 (by decide) (by decide)]
    refine s0.cg (fun q j hq => ?_) (fun _ _ => rfl)
    exact congrFun (ux (off 0 + q) (by rw [off0]; omega) (by rw [off0]; omega)) j
  · rw [pk k hk]
    have := (b (k + 1) (by omega)).1
    refine (a3 (k + 1) (by omega)).cg (fun q j hq => ?_) (fun i hi => ?_)
    · exact congrFun (ux (off (hp X (k + 1)) + q) (by rw [off3 this]; omega) (by rw [off3 this]; omega)) j
    · show updM (rMov Y 0) 0 2 (nI 3) 2 (974 * k + i) = _
      rw [updM_n (by decide)]
      unfold rMov
      rw [if_pos rfl, if_pos (by omega)]
      congr 1
      omega
  · have q0 := b 0 (by omega)
    have q1 := b 1 (by omega)
    have q2 := b 2 (by omega)
    have q3 := b 3 (by omega)
    have w01 : hp X 0 ≠ hp X 1 := fun z => absurd (q0.2.2 1 (by omega) z) (by decide)
    have w02 : hp X 0 ≠ hp X 2 := fun z => absurd (q0.2.2 2 (by omega) z) (by decide)
    have w03 : hp X 0 ≠ hp X 3 := fun z => absurd (q0.2.2 3 (by omega) z) (by decide)
    have w12 : hp X 1 ≠ hp X 2 := fun z => absurd (q1.2.2 2 (by omega) z) (by decide)
    have w13 : hp X 1 ≠ hp X 3 := fun z => absurd (q1.2.2 3 (by omega) z) (by decide)
    have w23 : hp X 2 ≠ hp X 3 := fun z => absurd (q2.2.2 3 (by omega) z) (by decide)
    intro j hj
    rcases (show j = 0 ∨ j = 1 ∨ j = 2 ∨ j = 3 by omega) with rfl | rfl | rfl | rfl
    · rw [p0]
      refine ⟨q1.1, q1.2.1, fun j' hj' => ?_⟩
      rcases (show j' = 0 ∨ j' = 1 ∨ j' = 2 ∨ j' = 3 by omega) with rfl | rfl | rfl | rfl
      · exact fun _ => rfl
      · rw [p1]; exact fun z => absurd z w12
      · rw [p2]; exact fun z => absurd z w13
      · rw [p3]; exact fun z => absurd z.symm w01
    · rw [p1]
      refine ⟨q2.1, q2.2.1, fun j' hj' => ?_⟩
      rcases (show j' = 0 ∨ j' = 1 ∨ j' = 2 ∨ j' = 3 by omega) with rfl | rfl | rfl | rfl
      · rw [p0]; exact fun z => absurd z.symm w12
      · exact fun _ => rfl
      · rw [p2]; exact fun z => absurd z w23
      · rw [p3]; exact fun z => absurd z.symm w02
    · rw [p2]
      refine ⟨q3.1, q3.2.1, fun j' hj' => ?_⟩
      rcases (show j' = 0 ∨ j' = 1 ∨ j' = 2 ∨ j' = 3 by omega) with rfl | rfl | rfl | rfl
      · rw [p0]; exact fun z => absurd z.symm w13
      · rw [p1]; exact fun z => absurd z.symm w23
      · exact fun _ => rfl
      · rw [p3]; exact fun z => absurd z.symm w03
    · rw [p3]
      refine ⟨q0.1, q0.2.1, fun j' hj' => ?_⟩
      rcases (show j' = 0 ∨ j' = 1 ∨ j' = 2 ∨ j' = 3 by omega) with rfl | rfl | rfl | rfl
      · rw [p0]; exact fun z => absurd z w01
      · rw [p1]; exact fun z => absurd z w02
      · rw [p2]; exact fun z => absurd z w03
      · exact fun _ => rfl
  · rcases c with ⟨c1, c2⟩ | ⟨c1, c2, c3⟩
    · exact Or.inl ⟨by rw [u0 _ (by decide), c1], by rw [y0 _ (by decide), c2]⟩
    · refine Or.inr ⟨by rw [u0 _ (by decide), c1], by rw [y0 _ (by decide), c2], ?_⟩
      rw [yo 3 (by decide) (by decide)]
      refine c3.cg (fun q j hq => ?_) (fun _ _ => rfl)
      exact congrFun (ux (off 1 + q) (by rw [off1]; omega) (by rw [off1]; omega)) j
theorem RX.tr {X1 X2 : gM} (h : RX X X1) (g : RX X1 X2) : RX X X2 := ⟨fun a h0 h1 h2 => by rw [g.1 a h0 h1 h2, h.1 a h0 h1 h2], fun j hj => by rw [g.2 j hj, h.2 j hj]⟩
theorem RY.tr {X1 X2 : gM} (h : RY Y X1) (g : RY X1 X2) : RY Y X2 := ⟨fun a h0 h1 => by rw [g.1 a h0 h1, h.1 a h0 h1], fun j hj => by rw [g.2 j hj, h.2 j hj]⟩
theorem rec_sim (h : Rl X Y) : Rl (p_X8_recordState X) (p_X9_records Y) ∧ RX X (p_X8_recordState X) ∧ RY Y (p_X9_records Y) ∧ ok_X9_records Y := by
  obtain ⟨n, h4, a1, a2, a3⟩ := h.2.1
  have hw : ∀ n, n < 4 → f_X8_within (nI n) 0 3 = 1 := by decide +kernel
  by_cases hn : n < 4
  · have ex : p_X8_recordState X = updM (putS X (hp X n) (vw 0 X)) 0 6 (nI (n + 1)) := by
      have e3 : off (hp X n) = 11 + 123 * hp X n := off3 (h.2.2.1 n hn).1
      unfold p_X8_recordState
      rw [a1, if_pos (show nI n < 4 from nI_lt (b := 4) hn (by decide)), hw n hn, if_neg (show ¬ (1 : Int32) = 0 by decide), c1 (by omega)]
      dsimp only
      rw [show putS X (X 370 n).toNatClampNeg (vw 0 X) 0 6 = nI n from ?_, nI_1]
      · rfl
      · show putS X (hp X n) (vw 0 X) 0 6 = nI n
        unfold putS
        rw [if_neg (by omega), a1]
    have n4 : ¬ nI n = 4 := fun z => by have := nI_inj (b := 4) (by omega) (by omega) z; omega
    have rl := fun (K : gM → Nat → gM) => rec_loop (K := K) hn 974 0 2147483648 Y rfl (by omega) a2
    have ey : p_X9_records Y = updM (rRec Y n 0) 0 2 (nI (n + 1)) := by
      unfold p_X9_records
      rw [a2, if_neg n4, (rl _).1]
      dsimp only
      rw [show rRec Y n 0 0 2 = nI n from a2, nI_1]
    have eo : ok_X9_records Y := by
      unfold ok_X9_records
      rw [a2, if_neg n4]
      exact (rl (fun X _ => X)).2
    obtain ⟨b1, b2, b3⟩ := push_sim h hn a1
    rw [ex, ey]
    exact ⟨b1, b2, b3, eo⟩
  · have e4 : n = 4 := by omega
    subst e4
    obtain ⟨t1, t2, t3, t4⟩ := turn_sim h a1
    obtain ⟨b1, b2, b3⟩ := push_sim t1 (n := 3) (by omega) t4
    have e3 : off (hp (xTurn X) 3) = 11 + 123 * hp (xTurn X) 3 := off3 (t1.2.2.1 3 (by omega)).1
    have ex : p_X8_recordState X = updM (putS (xTurn X) (hp (xTurn X) 3) (vw 0 (xTurn X))) 0 6 (nI (3 + 1)) := by
      unfold p_X8_recordState
      rw [a1, if_neg (show ¬ nI 4 < 4 by decide +kernel), drop_c]
      dsimp only
      rw [t4, hw 3 (by omega), if_neg (show ¬ (1 : Int32) = 0 by decide), c1 (by omega)]
      rw [show putS (xTurn X) (xTurn X 370 3).toNatClampNeg (vw 0 (xTurn X)) 0 6 = nI 3 from ?_, nI_1]
      · rfl
      · show putS (xTurn X) (hp (xTurn X) 3) (vw 0 (xTurn X)) 0 6 = nI 3
        unfold putS
        rw [if_neg (by omega), t4]
    have em : nI 4 - 1 = nI 3 := by decide +kernel
    have y1 : rMov Y 0 0 2 = nI 4 := a2
    have y2 : updM (rMov Y 0) 0 2 (nI 3) 0 2 = nI 3 := updM_ss
    have rl := fun (K : gM → Nat → gM) => rec_loop (K := K) (h := 3) (by omega) 974 0 2147483648 (updM (rMov Y 0) 0 2 (nI 3)) rfl (by omega) y2
    have ey : p_X9_records Y = updM (rRec (updM (rMov Y 0) 0 2 (nI 3)) 3 0) 0 2 (nI (3 + 1)) := by
      unfold p_X9_records
      rw [a2, if_pos (show nI 4 = 4 from rfl), (mov_loop (KO := fun _ _ => True) 2922 0 2147483648 Y rfl (by omega)).1]
      dsimp only
      rw [y1, em, (rl _).1]
      rw [show rRec (updM (rMov Y 0) 0 2 (nI 3)) 3 0 0 2 = nI 3 from y2, nI_1]
    have eo : ok_X9_records Y := by
      unfold ok_X9_records
      rw [a2, if_pos (show nI 4 = 4 from rfl)]
      refine (mov_loop (K := fun X _ => X) 2922 0 2147483648 Y rfl (by omega)).2 (fun X4 e4' => ?_)
      rw [y1, em] at e4'
      subst e4'
      exact (rl (fun X _ => X)).2
    rw [ex, ey]
    exact ⟨b1, t2.tr b2, t3.tr b3, eo⟩
end REC
