/-! each act keeps the bounds of all states; undo, keep, restore -/
section KAS
variable {X : gM}
theorem K_upd07 {x : gM} {c a : Nat} {v : Int32} (h : Kv x) (hk : kdS c = 0) (h1 : -10 ≤ v) (h2 : v ≤ 10) (hc : ∀ l, l < 2 → 1 + 15 * l ≠ c → updM x c 7 v (1 + 15 * l) 7 = x (1 + 15 * l) 7) : Kv (updM x c 7 v) := by
  have no : ∀ a, kdS a ≠ 0 → updM x c 7 v a = x a := fun a ha => updM_o (fun z => ha (by rw [z, hk]))
  have k0 : kdS 0 ≠ 0 := by decide +kernel
  obtain ⟨a, b, d, e, f, g, q⟩ := h
  refine ⟨by rw [no 0 k0]; exact a, by rw [no 0 k0]; exact b, by rw [no 0 k0]; exact d, fun l hl => ?_, fun l hl n hn k hk => ?_, fun t ht => ?_, fun o ho => ?_⟩
  · by_cases z : 1 + 15 * l = c
    · rw [z, updM_ss]
      exact ⟨h1, h2⟩
    · rw [hc l hl z]
      exact e l hl
  · rw [no _ (by rw [cl_k l hl n hn]; decide)]
    exact f l hl n hn k hk
  · rw [no _ (by rw [(kd_T t ht).2.1]; decide), no _ (by rw [(kd_5 _ (kd_T t ht).1 (kd_T t ht).2.1).2]; decide)]
    exact g t ht
  · rw [no _ (by rw [(kd_O o ho).2]; decide), no 0 k0, no _ (by rw [(kd_2 _ (kd_O o ho).1 (kd_O o ho).2).2]; decide)]
    exact q o ho
theorem K_upd0 {x : gM} {j : Nat} {v : Int32} (h : Kv x) (hj : j = 8 ∧ 1 ≤ v ∧ v ≤ 99 ∨ j = 9 ∧ 0 ≤ v ∧ v ≤ 50) : Kv (updM x 0 j v) := by
  obtain ⟨a, b, d, e, f, g, q⟩ := h
  have no : ∀ a, a ≠ 0 → updM x 0 j v a = x a := fun a ha => updM_o ha
  refine ⟨?_, ?_, ?_, fun l hl => by rw [no _ (by omega)]; exact e l hl, fun l hl n hn k hk => by rw [no _ (by omega)]; exact f l hl n hn k hk, fun t ht => by rw [no _ (by omega), no _ (by omega)]; exact g t ht, fun o ho => ?_⟩
  · rcases hj with ⟨rfl, h1⟩ | ⟨rfl, h1⟩
    · rw [updM_ss]
      exact h1
    · rw [updM_sn (by decide)]
      exact a
  · rcases hj with ⟨rfl, h1⟩ | ⟨rfl, h1⟩
    · rw [updM_sn (by decide)]
      exact b
    · rw [updM_ss]
      exact h1
  · rcases hj with ⟨rfl, h1⟩ | ⟨rfl, h1⟩ <;> rw [updM_sn (by decide)] <;> exact d
  · rw [show updM x 0 j v 0 5 = x 0 5 by rcases hj with ⟨rfl, -⟩ | ⟨rfl, -⟩ <;> exact updM_sn (by decide), no (115 + 2 * o) (by omega), no (115 + 2 * o + 1) (by omega)]
    exact q o ho
theorem w_le {a b c : Int32} (h : ¬ f_X8_within a b c = 0) : b ≤ a ∧ a ≤ c := by
  simp only [w_ne] at h
  rw [Int32.le_iff_toInt_le, Int32.le_iff_toInt_le]
  omega
theorem kA_build (hI : Iv X) (h : KA X) (a1 a2 : Int32) : KA (p_X8_build X a1 a2).2 := by
  unfold p_X8_build
  repeat' split
  all_goals first | exact h | exact (h.rec hI).put (by decide) ((h.rec hI).now.kf (kf_rebuild (fk_X3_lineOf _ _).2))
theorem kA_addStation (hI : Iv X) (h : KA X) (a1 a2 : Int32) : KA (p_X8_addStation X a1 a2).2 := by
  unfold p_X8_addStation
  repeat' split
  all_goals first | exact h | exact (h.rec hI).put (by decide) ((h.rec hI).now.kf (kf_openStation (fk_X3_lineOf _ _).1 (fk_X3_lineOf _ _).2))
theorem kA_setHeat (hI : Iv X) (h : KA X) (a1 a2 : Int32) : KA (p_X8_setHeat X a1 a2).2 := by
  unfold p_X8_setHeat
  split
  · exact h
  · split
    · exact h
    · rename_i hw
      split
      · exact h
      · have fk := fk_X3_lineOf (vw 0 X) a1
        refine (h.rec hI).upd0 (K_upd07 (a := 0) (h.rec hI).now fk.2 (w_le hw).1 (w_le hw).2 (fun l hl z => updM_n z)) fk.1
theorem kA_setFare (hI : Iv X) (h : KA X) (a1 : Int32) : KA (p_X8_setFare X a1).2 := by
  unfold p_X8_setFare
  split
  · exact h
  · rename_i hw
    split
    · exact h
    · exact (h.rec hI).upd0 (K_upd0 (h.rec hI).now (Or.inl ⟨rfl, w_le hw⟩)) (by decide)
theorem kA_setPatience (hI : Iv X) (h : KA X) (a1 : Int32) : KA (p_X8_setPatience X a1).2 := by
  unfold p_X8_setPatience
  split
  · exact h
  · rename_i hw
    split
    · exact h
    · exact (h.rec hI).upd0 (K_upd0 (h.rec hI).now (Or.inr ⟨rfl, w_le hw⟩)) (by decide)
theorem kA_drain (hI : Iv X) (h : KA X) (a1 : Int32) : KA (p_X8_drain X a1).2 := by
  unfold p_X8_drain
  repeat' split
  all_goals first | exact h | exact (h.rec hI).put (by decide) ((h.rec hI).now.kf (kf_drain (fk_X3_lineOf _ _).1 (fk_X3_lineOf _ _).2))
theorem kA_cancel (hI : Iv X) (h : KA X) (a1 : Int32) : KA (p_X8_cancel X a1).2 := by
  unfold p_X8_cancel
  rcases e : f_X3_ticketOf (vw 0 X) a1 with _ | q
  · exact h
  · simp only [gOpt]
    split
    · exact (h.rec hI).put (by decide) ((h.rec hI).now.kf (kf_withdraw (fk_X3_ticketOf e).2))
    · exact h
theorem kA_call (hI : Iv X) (h : KA X) (a1 a2 : Int32) : KA (p_X8_call X a1 a2).2 := by
  unfold p_X8_call
  rcases e : f_X3_stationOf (vw 0 X) a1 with _ | q
  · exact h
  · have fk := fk_X3_stationOf e
    simp only [gOpt]
    split
    · exact h
    · rename_i hw
      split
      · exact (h.rec hI).put (by decide) ((h.rec hI).now.kf (kf_addCall fk.2 (kd_4 _ fk.1 fk.2).2 (w_le hw).1))
      · exact h
theorem kA_callBack (hI : Iv X) (h : KA X) (a1 : Int32) : KA (p_X8_callBack X a1).2 := by
  unfold p_X8_callBack
  rcases e : f_X3_stationOf (vw 0 X) a1 with _ | q
  · exact h
  · have fk := fk_X3_stationOf e
    simp only [gOpt]
    split
    · exact h
    · exact (h.rec hI).put (by decide) ((h.rec hI).now.kf (kf_remove fk.2 (kd_4 _ fk.1 fk.2)))
theorem kA_order (hI : Iv X) (h : KA X) (a1 a2 : Int32) : KA (p_X8_order X a1 a2).2 := by
  obtain ⟨Y, hR⟩ := id hI
  obtain ⟨tc, oc, sl, ph, mn, hs⟩ := hR.1
  have h40 := hs.tc4
  unfold p_X8_order
  rcases ticket_arg (Y := Y) hs a1 with ⟨e1, -⟩ | ⟨t, ht, rfl, e1, -⟩
  · rw [e1]
    exact h
  · rw [e1]
    simp only [gOpt]
    split
    · exact h
    · split
      · obtain ⟨-, b1, b2, b3, b4⟩ := (h.rec hI).now.2.2.2.2.2.1 t (by omega)
        exact (h.rec hI).put (by decide) (K_give (h.rec hI).now b1 b2 b3 b4)
      · exact h
theorem kA_endOrder (hI : Iv X) (h : KA X) (a1 : Int32) : KA (p_X8_endOrder X a1).2 := by
  unfold p_X8_endOrder
  rcases e : f_X3_orderOf (vw 0 X) a1 with _ | q
  · exact h
  · have fk := fk_X3_orderOf e
    simp only [gOpt]
    split
    · exact (h.rec hI).upd0 ((h.rec hI).now.kf (KF.u fk.2 rfl (by decide))) fk.1
    · exact h
theorem refusal_good {x : gM} {v : Nat → Int32} (h : f_X3_refusalOf x v = 0) : (0 ≤ v 1 ∧ v 1 ≤ 3) ∧ (0 ≤ v 4 ∧ v 4 ≤ 9) := by
  have hg : ¬ f_X7_isGood v = 0 := fun z => by
    unfold f_X3_refusalOf at h
    rw [z] at h
    cases e1 : f_X3_stationOf x (v 2) with
    | none => rw [e1] at h; simp only [gOpt] at h; exact absurd h (by decide)
    | some q =>
      cases e2 : f_X3_stationOf x (v 3) with
      | none => rw [e1, e2] at h; simp only [gOpt] at h; exact absurd h (by decide)
      | some q2 => rw [e1, e2] at h; simp only [gOpt, if_true] at h; exact absurd h (by decide)
  unfold f_X7_isGood at hg
  split at hg
  · exact absurd rfl hg
  · split at hg
    · exact absurd rfl hg
    · rename_i h1
      split at hg
      · exact absurd rfl hg
      · rename_i h4
        have e0 : (0 : Int32).toInt = 0 := by decide
        have e1 : (1 : Int32).toInt = 1 := by decide
        obtain ⟨p1, p2⟩ := w_le h1
        obtain ⟨p3, p4⟩ := w_le h4
        rw [Int32.le_iff_toInt_le, e1] at p1 p3
        exact ⟨⟨by rw [Int32.le_iff_toInt_le, e0]; omega, p2⟩, ⟨by rw [Int32.le_iff_toInt_le, e0]; omega, p4⟩⟩
theorem kA_book (hI : Iv X) (h : KA X) (a1 a2 a3 a4 a5 : Int32) : KA (p_X8_book X a1 a2 a3 a4 a5).2 := by
  unfold p_X8_book
  dsimp only
  obtain ⟨X5, e5⟩ : ∃ Z, Z = updM (updM (updM (updM (updM X 379 0 a1) 379 1 a2) 379 2 a3) 379 3 a4) 379 4 a5 := ⟨_, rfl⟩
  have hS : Sm X X5 := by
    rw [e5]
    exact ((((Sm.upd379).tr Sm.upd379).tr Sm.upd379).tr Sm.upd379).tr Sm.upd379
  have h5 : KA X5 := h.out (fun a ha => by rw [e5, updM_o (by omega), updM_o (by omega), updM_o (by omega), updM_o (by omega), updM_o (by omega)])
  rw [← e5]
  have hI5 := hS.iv hI
  obtain ⟨Y, hR⟩ := id hI5
  split
  · rename_i hr
    split
    · exact h5
    · rename_i ht
      have e379 : p_X8_recordState X5 379 = X5 379 := (rec_sim hR).2.1.1 379 (by decide) (by decide) (by decide)
      obtain ⟨⟨b1, b2⟩, b3, b4⟩ := refusal_good hr
      have hK := (h5.rec hI5).now
      have e05 : vw 0 (p_X8_recordState X5) 0 5 = vw 0 X5 0 5 := by
        show p_X8_recordState X5 (off 0 + 0) 5 = X5 (off 0 + 0) 5
        rw [(rec_sim hR).2.1.1 _ (by rw [off0]; omega) (by rw [off0]; omega) (by rw [off0]; omega)]
      refine (h5.rec hI5).put (by decide) ?_
      rw [e379]
      refine (K_admit hK ?_ b1 b2 b3 b4).1
      rw [e05]
      have t1 := h5.now.2.2.1.1
      have t2 := h5.now.2.2.1.2
      unfold f_X3_hasTickets at ht
      split at ht
      · exact absurd rfl ht
      · rename_i h6
        rw [Int32.lt_iff_toInt_lt] at h6 ⊢
        rw [Int32.le_iff_toInt_le] at t2 t1
        have z0 : (0 : Int32).toInt = 0 := by decide
        have z1 : (1 : Int32).toInt = 1 := by decide
        have z40 : (40 : Int32).toInt = 40 := by decide
        rw [Int32.toInt_add, z1, z40, Int.bmod_eq_of_le (by omega) (by omega)] at h6
        omega
  · exact h5
theorem kA_tick_l {a y : Int32} {K : gM → Nat → Int32 × gM} (hK : ∀ Z k, KA Z → KA (K Z k).2) : ∀ (n : Nat) (Z : gM) (k : Nat), KA Z → KA (lf_X8_tick_28 a y K n Z k).2 := by
  intro n
  induction n with
  | zero => intro Z k h; exact hK Z k h
  | succ n ih =>
    intro Z k h
    simp only [lf_X8_tick_28]
    split
    · exact hK Z k h
    · exact ih _ _ (h.put (by decide) (K_tick h.now))
theorem kA_tick (hI : Iv X) (h : KA X) (a1 : Int32) : KA (p_X8_tick X a1).2 := by
  unfold p_X8_tick
  split
  · exact h
  · exact kA_tick_l (fun _ _ q => q) _ _ _ (h.rec hI)
theorem kA_undo (hI : Iv X) (h : KA X) : KA (p_X8_undo X).2 := by
  obtain ⟨Y, hR⟩ := id hI
  obtain ⟨n, h4, a1, -, -⟩ := hR.2.1
  unfold p_X8_undo
  split
  · exact h
  · split
    · rename_i c1' c2'
      dsimp only
      have ho : KA (updM X 0 6 (X 0 6 - 1)) := h.out (fun a ha => updM_o (by omega))
      have hn : n ≠ 0 := fun z => by
        subst z
        rw [a1] at c1'
        exact c1' (by decide +kernel)
      have e : X 0 6 - 1 = nI (n - 1) := by rw [a1]; exact pk_sub (b := 1) (by omega)
      rw [updM_ss, updM_o (show (370 : Nat) ≠ 0 by decide), e, nI_clamp (n := n - 1) (by omega)]
      rw [e] at ho
      have b := hR.2.2.1 (n - 1) (by omega)
      exact ho.put (by decide) (ho _ b.2.1 (fun z => by have b1 := b.1; unfold hp at b1; omega))
    · exact h
theorem kA_keep (h : KA X) : KA (p_X8_keep X).2 := by
  unfold p_X8_keep
  exact (h.put (k := 1) (by decide) h.now).out (fun a ha => updM_o (by omega))
theorem kA_restore (hI : Iv X) (h : KA X) : KA (p_X8_restore X).2 := by
  unfold p_X8_restore
  split
  · exact h
  · exact (h.rec hI).put (by decide) ((h.rec hI) 1 (by decide) (by decide))
/-! the top of what is recorded -/
def Tp (X : gM) (h m : Nat) (S : Nat → gM) : Prop := h ≤ 4 ∧ X 0 6 = nI h ∧ m ≤ h ∧ ∀ i, i < m → ∀ c j, c < 123 → Hs X (h - 1 - i) c j = S i c j
def tcons (s : gM) (S : Nat → gM) : Nat → gM := fun i => if i = 0 then s else S (i - 1)
theorem Tp.rc {X X' : gM} {h m n : Nat} {S : Nat → gM} (t : Tp X h m S) (r : Rc X X') (hn : n ≤ m + 1) (hn4 : n ≤ 4) : Tp X' (if h < 4 then h + 1 else 4) n (tcons (vw 0 X) S) := by
  obtain ⟨t1, t2, t3, t4⟩ := t
  obtain ⟨g, r1, r2, r3, r4, r5, r6⟩ := r
  have eg : g = h := nI_inj (by omega) (by omega) (r2.symm.trans t2)
  subst eg
  rcases r6 with ⟨b1, b2, b3, b4⟩ | ⟨b1, b2, b3, b4⟩
  · rw [if_pos b1]
    refine ⟨by omega, b2, by omega, fun i hi c j hc => ?_⟩
    unfold tcons
    by_cases hi0 : i = 0
    · subst hi0
      rw [if_pos rfl, show g + 1 - 1 - 0 = g by omega]
      exact b4 c j hc
    · rw [if_neg hi0, b3 _ (by omega) c j hc, show g + 1 - 1 - i = g - 1 - (i - 1) by omega]
      exact t4 (i - 1) (by omega) c j hc
  · rw [if_neg (by omega)]
    refine ⟨by omega, b2, by omega, fun i hi c j hc => ?_⟩
    unfold tcons
    by_cases hi0 : i = 0
    · subst hi0
      rw [if_pos rfl]
      exact b4 c j hc
    · rw [if_neg hi0, b3 _ (by omega) c j hc, show 4 - 1 - i + 1 = g - 1 - (i - 1) by omega]
      exact t4 (i - 1) (by omega) c j hc
theorem undo_f {h m : Nat} {S : Nat → gM} (hI : Iv X) (t : Tp X (h + 1) (m + 1) S) : (p_X8_undo X).1 = nI h ∧ (∀ c j, c < 123 → vw 0 (p_X8_undo X).2 c j = S 0 c j) ∧ Tp (p_X8_undo X).2 h m (fun i => S (i + 1)) ∧ (p_X8_undo X).2 0 7 = X 0 7 ∧ (∀ c j, c < 123 → vw 1 (p_X8_undo X).2 c j = vw 1 X c j) := by
  have b := hI.hq
  obtain ⟨t1, t2, t3, t4⟩ := t
  have hh := b h (by omega)
  have e3 : off (hp X h) = 11 + 123 * hp X h := off3 hh.1
  have e1 : X 0 6 - 1 = nI h := by rw [t2]; exact nI_pred h
  have er : p_X8_undo X = (nI h, putS (updM X 0 6 (nI h)) 0 (vw (hp X h) (updM X 0 6 (nI h)))) := by
    unfold p_X8_undo
    rw [if_neg (by rw [t2, show (1 : Int32) = nI 1 from rfl, nI_ltI (by omega) (by omega)]; omega), if_pos (by rw [t2]; exact nI_le (b := 4) (by omega) (by decide)), e1]
    dsimp only
    rw [updM_ss, updM_o (show (370 : Nat) ≠ 0 by decide), nI_clamp (n := h) (by omega)]
    show (putS (updM X 0 6 (nI h)) 0 (vw (hp X h) (updM X 0 6 (nI h))) 0 6, _) = _
    congr 1
  have vo : ∀ c j, vw (hp X h) (updM X 0 6 (nI h)) c j = vw (hp X h) X c j := fun c j => updM_n (by omega)
  have po : ∀ a, 124 ≤ a → putS (updM X 0 6 (nI h)) 0 (vw (hp X h) (updM X 0 6 (nI h))) a = X a := fun a ha => by
    unfold putS
    rw [off0, if_neg (by omega), updM_o (by omega)]
  have p0 : ∀ j, putS (updM X 0 6 (nI h)) 0 (vw (hp X h) (updM X 0 6 (nI h))) 0 j = updM X 0 6 (nI h) 0 j := fun j => by
    unfold putS
    rw [off0, if_neg (by omega)]
  rw [er]
  dsimp only
  have eh : ∀ i, hp (putS (updM X 0 6 (nI h)) 0 (vw (hp X h) (updM X 0 6 (nI h)))) i = hp X i := fun i => congrArg Int32.toNatClampNeg (congrFun (po 370 (by decide)) i)
  refine ⟨rfl, fun c j hc => ?_, ⟨by omega, by rw [p0, updM_ss], by omega, fun i hi c j hc => ?_⟩, by rw [p0, updM_sn (by decide)], fun c j hc => ?_⟩
  · rw [vw_put0 hc, vo]
    have := t4 0 (by omega) c j hc
    rw [show h + 1 - 1 - 0 = h by omega] at this
    exact this
  · have := t4 (i + 1) (by omega) c j hc
    rw [show h + 1 - 1 - (i + 1) = h - 1 - i by omega] at this
    show Hs _ (h - 1 - i) c j = S (i + 1) c j
    rw [← this]
    show putS _ 0 _ (off (hp _ (h - 1 - i)) + c) j = X (off (hp X (h - 1 - i)) + c) j
    have b3 := (b (h - 1 - i) (by omega)).1
    rw [eh, po _ (by rw [off3 b3]; omega)]
  · show putS _ 0 _ (off 1 + c) j = X (off 1 + c) j
    rw [po _ (by rw [off1]; omega)]
theorem undo_0 (t : X 0 6 = nI 0) : p_X8_undo X = (-5, X) := by
  unfold p_X8_undo
  rw [if_pos (by rw [t]; decide +kernel)]
theorem count0 (X : gM) : f_X8_count X 0 = vw 0 X 0 7 := by
  unfold f_X8_count
  rw [if_pos (by decide), if_pos rfl]
theorem count19 (X : gM) : f_X8_count X 19 = X 0 6 := by
  unfold f_X8_count
  rw [if_pos (by decide)]
  repeat rw [if_neg (by decide)]
  rw [if_pos rfl]
theorem count20 (X : gM) : f_X8_count X 20 = vx X 0 2 := by
  unfold f_X8_count
  rw [if_pos (by decide)]
  repeat rw [if_neg (by decide)]
  rw [if_pos rfl]
theorem keep_f : (p_X8_keep X).1 = f_X8_count (p_X8_keep X).2 0 ∧ (∀ c j, c < 123 → vw 0 (p_X8_keep X).2 c j = vw 0 X c j) ∧ (p_X8_keep X).2 0 7 = 1 ∧ (p_X8_keep X).2 0 6 = X 0 6 ∧ (∀ c j, c < 123 → vw 1 (p_X8_keep X).2 c j = vw 0 X c j) := by
  unfold p_X8_keep
  dsimp only
  refine ⟨(count0 _).symm, fun c j hc => ?_, updM_ss, ?_, fun c j hc => ?_⟩
  · show updM (putS X 1 (vw 0 X)) 0 7 1 (off 0 + c) j = _
    rw [updM_n (by rw [off0]; omega)]
    unfold putS
    rw [off1, off0, if_neg (by omega)]
    rfl
  · rw [updM_sn (by decide)]
    unfold putS
    rw [off1, if_neg (by omega)]
  · show updM (putS X 1 (vw 0 X)) 0 7 1 (off 1 + c) j = _
    rw [updM_n (by rw [off1]; omega)]
    unfold putS
    rw [off1, if_pos (by omega), Nat.add_sub_cancel_left]
theorem restore_f (hI : Iv X) (h7 : X 0 7 = 1) : (p_X8_restore X).1 = f_X8_count (p_X8_restore X).2 0 ∧ Rc X (p_X8_restore X).2 ∧ (∀ c j, c < 123 → vw 0 (p_X8_restore X).2 c j = vw 1 X c j) := by
  unfold p_X8_restore
  rw [if_neg (by rw [h7]; decide)]
  dsimp only
  refine ⟨(count0 _).symm, rec_fx hI FX.put0, fun c j hc => ?_⟩
  rw [vw_put0 hc]
  obtain ⟨-, -, -, -, -, r5, -⟩ := rec_rc hI
  exact r5 c j hc
theorem restore_0 (h7 : X 0 7 = 0) : p_X8_restore X = (-5, X) := by
  unfold p_X8_restore
  rw [if_pos h7]
end KAS
