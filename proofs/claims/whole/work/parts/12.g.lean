/-! the bounds of a state are kept: what a method may write, by the kinds of cells -/
def wkf (k j : Nat) : Bool := (k == 3 && (j == 5 || j == 8 || j == 9)) || (k == 0 && j == 7) || (k == 5 && j == 3) || (k == 7 && (j == 1 || j == 4)) || (k == 2 && j == 3)
def Cl (x : gM) : Prop := ∀ c, c < 123 → kdS c = 21 → ∀ k, k < 3 → 0 ≤ x c k
def KF (x x' : gM) : Prop := (∀ c j, c < 123 → wkf (kdS c) j = true → x' c j = x c j) ∧ (Cl x → Cl x')
theorem KF.rf {x : gM} : KF x x := ⟨fun _ _ _ _ => rfl, fun h => h⟩
theorem KF.tr {x y z : gM} (h : KF x y) (g : KF y z) : KF x z := ⟨fun c j hc hw => by rw [g.1 c j hc hw, h.1 c j hc hw], fun q => g.2 (h.2 q)⟩
theorem KF.u {x : gM} {c j K : Nat} {v : Int32} (hk : kdS c = K) (hw : wkf K j = false) (h21 : K ≠ 21) : KF x (updM x c j v) := by
  refine ⟨fun a i ha hi => ?_, fun h a ha hka k hk3 => ?_⟩
  · by_cases h : a = c ∧ i = j
    · obtain ⟨rfl, rfl⟩ := h
      rw [hk, hw] at hi
      exact absurd hi (by decide)
    · by_cases h1 : a = c
      · subst h1
        exact updM_sn (fun z => h ⟨rfl, z⟩)
      · exact updM_n h1
  · have hne : a ≠ c := fun z => h21 (by rw [← hk, ← z, hka])
    rw [updM_n hne]
    exact h a ha hka k hk3
theorem KF.v {x : gM} {c k : Nat} {v : Int32} (hk : kdS c = 21) (hv : Cl x → k < 3 → 0 ≤ v) : KF x (updM x c k v) := by
  refine ⟨fun a i ha hi => ?_, fun h a ha hka i hi => ?_⟩
  · have hne : a ≠ c := fun z => by
      rw [z, hk] at hi
      exact absurd hi (by simp [wkf])
    exact updM_n hne
  · by_cases h1 : a = c
    · subst h1
      by_cases h2 : i = k
      · subst h2
        rw [updM_ss]
        exact hv h hi
      · rw [updM_sn h2]
        exact h a ha hka i hi
    · rw [updM_n h1]
      exact h a ha hka i hi
theorem cl_ln : ∀ c, c < 123 → kdS c = 21 → nLin c < 2 ∧ (c - (1 + 15 * nLin c) - 4) / 2 < 6 ∧ c = 1 + 15 * nLin c + 2 + 1 + 2 * ((c - (1 + 15 * nLin c) - 4) / 2) + 1 := by decide +kernel
theorem cl_k : ∀ l, l < 2 → ∀ n, n < 6 → kdS (1 + 15 * l + 2 + 1 + 2 * n + 1) = 21 := by decide +kernel
theorem Kv.cl {x : gM} (h : Kv x) : Cl x := fun c hc hk k hk3 => by
  obtain ⟨a, b, d⟩ := cl_ln c hc hk
  rw [d]
  exact h.2.2.2.2.1 _ a _ b k hk3
theorem w_t : ∀ t, t < 40 → 35 + 2 * t < 123 ∧ wkf (kdS (35 + 2 * t)) 3 = true ∧ 35 + 2 * t + 1 < 123 ∧ wkf (kdS (35 + 2 * t + 1)) 1 = true ∧ wkf (kdS (35 + 2 * t + 1)) 4 = true := by decide +kernel
theorem w_o : ∀ o, o < 4 → 115 + 2 * o < 123 ∧ wkf (kdS (115 + 2 * o)) 3 = true ∧ 115 + 2 * o + 1 < 123 ∧ wkf (kdS (115 + 2 * o + 1)) 1 = true ∧ wkf (kdS (115 + 2 * o + 1)) 4 = true := by decide +kernel
theorem w_l : ∀ l, l < 2 → 1 + 15 * l < 123 ∧ wkf (kdS (1 + 15 * l)) 7 = true := by decide +kernel
theorem w_0 : wkf (kdS 0) 5 = true ∧ wkf (kdS 0) 8 = true ∧ wkf (kdS 0) 9 = true := by decide +kernel
theorem Kv.kf {x x' : gM} (h : Kv x) (g : KF x x') : Kv x' := by
  have hc := g.2 h.cl
  obtain ⟨a, b, c, d, e, f, q⟩ := h
  refine ⟨by rw [g.1 _ _ (by decide) w_0.2.1]; exact a, by rw [g.1 _ _ (by decide) w_0.2.2]; exact b, by rw [g.1 _ _ (by decide) w_0.1]; exact c, fun l hl => by rw [g.1 _ _ (w_l l hl).1 (w_l l hl).2]; exact d l hl, fun l hl n hn k hk => hc _ (by omega) (cl_k l hl n hn) k hk, fun t ht => ?_, fun o ho => ?_⟩
  · obtain ⟨w1, w2, w3, w4, w5⟩ := w_t t ht
    rw [g.1 _ _ w1 w2, g.1 _ _ w3 w4, g.1 _ _ w3 w5]
    exact f t ht
  · obtain ⟨w1, w2, w3, w4, w5⟩ := w_o o ho
    rw [g.1 _ _ w1 w2, g.1 _ _ (by decide) w_0.1, g.1 _ _ w3 w4, g.1 _ _ w3 w5]
    exact q o ho
section KFS
variable {x : gM} {c c1 c2 c3 q : Nat} {a a1 a2 a3 a4 a5 : Int32}
theorem kd0 : kdS 0 = 3 := by decide +kernel
theorem kd33 : kdS 33 = 1 := by decide +kernel
theorem kd34 : kdS (33 + 1) = 22 := by decide +kernel
theorem kf_finish (hk : kdS c = 5) : KF x (p_X5_finish x c a1 a2 a3) :=
  ((((KF.u hk rfl (by decide)).tr (KF.u hk rfl (by decide))).tr (KF.u hk rfl (by decide))).tr (KF.u hk rfl (by decide))).tr (KF.u hk rfl (by decide))
theorem kf_hall (hk : kdS c = 5) : KF x (p_X5_enterHall x c a1 a2) :=
  (((KF.u hk rfl (by decide)).tr (KF.u hk rfl (by decide))).tr (KF.u hk rfl (by decide))).tr (KF.u hk rfl (by decide))
theorem kf_ride (hk : kdS c = 5) : KF x (p_X5_ride x c c1 a2 a3) := by
  unfold p_X5_ride
  dsimp only
  have h : KF x (updM (updM (updM (updM x c 4 1) c 5 (nI (nLin c1))) c 6 a2) c 13 (nI (10 * nLin c1 + nSta c1))) := (((KF.u hk rfl (by decide)).tr (KF.u hk rfl (by decide))).tr (KF.u hk rfl (by decide))).tr (KF.u hk rfl (by decide))
  split
  · exact h.tr (KF.u hk rfl (by decide))
  · exact h
theorem kf_write : KF x (p_X1_write x 33 a1 a2 a3 a4 a5) := by
  unfold p_X1_write
  split
  · exact KF.rf
  · split
    · dsimp only
      have w22 : ∀ j, wkf 22 j = false := fun j => by simp [wkf]
      have w1 : ∀ j, wkf 1 j = false := fun j => by simp [wkf]
      have h : ∀ {y : gM} {j : Nat} {v : Int32}, KF y (updM y (33 + 1) j v) := fun {y j v} => KF.u kd34 (w22 j) (by decide)
      have g : ∀ {y : gM} {j : Nat} {v : Int32}, KF y (updM y 33 j v) := fun {y j v} => KF.u kd33 (w1 j) (by decide)
      split
      · exact ((((((h.tr h).tr h).tr h).tr h).tr g).tr g)
      · exact ((((((h.tr h).tr h).tr h).tr h).tr g).tr g)
    · exact KF.rf
theorem kf_setRider (hc : c < 123) (hk : kdS c = 0) : KF x (p_X0_setRider x c a1 a2) := by
  unfold p_X0_setRider
  split
  · exact KF.rf
  · exact KF.u (kd_0 c hc hk).1.2 (by simp [wkf]) (by decide)
theorem kf_advance (hk : kdS c = 0) : KF x (p_X0_advance x c).2 := by
  unfold p_X0_advance
  dsimp only
  have h : ∀ {y : gM} {v : Int32}, KF y (updM y c 6 v) := KF.u hk rfl (by decide)
  have h5 : ∀ {y : gM} {v : Int32}, KF y (updM y c 5 v) := KF.u hk rfl (by decide)
  have h8 : ∀ {y : gM} {v : Int32}, KF y (updM y c 8 v) := KF.u hk rfl (by decide)
  have h9 : ∀ {y : gM} {v : Int32}, KF y (updM y c 9 v) := KF.u hk rfl (by decide)
  split
  · split
    · exact h.tr h5
    · exact ((h.tr h).tr h9).tr h5
  · exact (h.tr h).tr h8
theorem kf_arrive (hk1 : kdS c1 = 5) (hk2 : kdS c2 = 4) : KF x (p_X3_arrive x c1 c2) :=
  (((kf_write.tr (KF.u hk2 rfl (by decide))).tr (KF.u kd0 rfl (by decide))).tr (KF.u kd0 rfl (by decide))).tr (kf_finish hk1)
theorem kf_putOut (hk1 : kdS c1 = 5) : KF x (p_X3_putOut x c1 c2 a3 a4) :=
  (kf_write.tr (KF.u kd0 rfl (by decide))).tr (kf_finish hk1)
theorem kf_board (hk1 : kdS c1 = 5) (hc2 : c2 < 123) (hk2 : kdS c2 = 0) (hk3 : kdS c3 = 4) : KF x (p_X3_board x c1 c2 c3 a4) :=
  ((kf_write.tr (KF.u hk3 rfl (by decide))).tr (kf_ride hk1)).tr (kf_setRider hc2 hk2)
theorem kf_remove_l {K : gM → Nat → gM} (hk : c + 1 < 123 ∧ kdS (c + 1) = 21) (hK : ∀ y k, KF y (K y k)) : ∀ (n : Nat) (y : gM) (k : Nat), KF y (lf_X4_removeCall_15 c c1 K n y k) := by
  intro n
  induction n with
  | zero => intro y k; exact hK y k
  | succ n ih =>
    intro y k
    simp only [lf_X4_removeCall_15]
    split
    · exact hK y k
    · split
      · exact hK y k
      · rename_i h3
        refine KF.tr (KF.v hk.2 (fun hC hk3 => ?_)) (ih _ _)
        have h4 : k + 1 < 3 := by
          rcases Nat.lt_or_ge (k + 1) 3 with q | q
          · exact q
          · exact absurd (nI_le (a := 3) (b := k + 1) q (by omega)) h3
        exact hC _ hk.1 hk.2 _ h4
theorem kf_remove (hk : kdS c = 4) (hk1 : c + 1 < 123 ∧ kdS (c + 1) = 21) : KF x (p_X4_removeCall x c q) := by
  unfold p_X4_removeCall
  split
  · exact KF.rf
  · split
    · exact kf_remove_l hk1 (fun y k => KF.u hk rfl (by decide)) _ _ _
    · exact KF.rf
theorem kf_take_l {K : gM → Nat → Int32 × gM} (hk : kdS c = 4) (hk1 : c + 1 < 123 ∧ kdS (c + 1) = 21) (hK : ∀ y k, KF y (K y k).2) : ∀ (n : Nat) (y : gM) (k : Nat), KF y (lf_X4_takeCall_2 c a1 K n y k).2 := by
  intro n
  induction n with
  | zero => intro y k; exact hK y k
  | succ n ih =>
    intro y k
    simp only [lf_X4_takeCall_2]
    split
    · exact hK y k
    · split
      · exact kf_remove hk hk1
      · exact ih y (k + 1)
theorem kf_take (hk : kdS c = 4) (hk1 : c + 1 < 123 ∧ kdS (c + 1) = 21) : KF x (p_X4_takeCall x c a1).2 := by
  unfold p_X4_takeCall
  exact kf_take_l hk hk1 (fun y k => KF.rf) _ _ _
theorem kf_getsOff (hk1 : kdS c1 = 5) (hc2 : c2 < 123) (hk2 : kdS c2 = 4) : KF x (p_X3_getsOff x c1 c2).2 := by
  have h21 := kd_4 c2 hc2 hk2
  unfold p_X3_getsOff
  split
  · exact kf_arrive hk1 hk2
  · dsimp only
    split
    · split
      · split
        · split
          · exact ((kf_take hk2 h21).tr (KF.u hk1 rfl (by decide))).tr (kf_putOut hk1)
          · exact (kf_take hk2 h21).tr (KF.u hk1 rfl (by decide))
        · exact kf_take hk2 h21
      · exact ((kf_take hk2 h21).tr kf_write).tr (kf_hall hk1)
    · exact ((kf_take hk2 h21).tr (KF.u hk2 rfl (by decide))).tr (kf_putOut hk1)
theorem kf_serve (hc1 : c1 < 123) (hk1 : kdS c1 = 0) (hc2 : c2 < 123) (hk2 : kdS c2 = 4) : KF x (p_X3_serveStation x c1 c2) := by
  unfold p_X3_serveStation
  rcases h1 : f_X3_ticketOf x (f_X0_riderIn x c1 (f_X0_slotAt x c1 (x c2 5))) with _ | q1
  · simp only [gOpt]
    rcases h2 : f_X3_nextToBoard x c2 with _ | q2
    · exact KF.rf
    · exact kf_board (fk_X3_nextToBoard hc2 hk2 h2).2 hc1 hk1 hk2
  · have k1 := (fk_X3_ticketOf h1).2
    simp only [gOpt]
    split
    · rcases h2 : f_X3_nextToBoard (p_X3_getsOff x q1 c2).2 c2 with _ | q2
      · exact kf_getsOff k1 hc2 hk2
      · dsimp only
        split
        · exact kf_getsOff k1 hc2 hk2
        · exact ((((kf_getsOff k1 hc2 hk2).tr (KF.u hk2 rfl (by decide))).tr (KF.u k1 rfl (by decide))).tr (kf_putOut k1)).tr (kf_board (fk_X3_nextToBoard hc2 hk2 h2).2 hc1 hk1 hk2)
    · rcases h2 : f_X3_nextToBoard (p_X0_setRider (p_X3_getsOff x q1 c2).2 c1 (f_X0_slotAt x c1 (x c2 5)) (-5)) c2 with _ | q2
      · exact (kf_getsOff k1 hc2 hk2).tr (kf_setRider hc1 hk1)
      · exact ((kf_getsOff k1 hc2 hk2).tr (kf_setRider hc1 hk1)).tr (kf_board (fk_X3_nextToBoard hc2 hk2 h2).2 hc1 hk1 hk2)
theorem kf_line_l {K : gM → Nat → gM} (hc1 : c1 < 123) (hk1 : kdS c1 = 0) (hK : ∀ y k, KF y (K y k)) : ∀ (n : Nat) (y : gM) (k : Nat), k ≤ 6 → KF y (lf_X3_serveLine_2 c1 K n y k) := by
  intro n
  induction n with
  | zero => intro y k _; exact hK y k
  | succ n ih =>
    intro y k h6
    simp only [lf_X3_serveLine_2]
    split
    · exact hK y k
    · split
      · exact hK y k
      · rename_i h
        have hk : k < 6 := by
          rcases Nat.lt_or_ge k 6 with q | q
          · exact q
          · exact absurd (nI_le (a := 6) (b := k) q (by omega)) h
        have w := (kd_0 c1 hc1 hk1).2.2 k hk
        exact (kf_serve hc1 hk1 w.1 w.2.1).tr (ih _ _ (by omega))
theorem kf_line (hc1 : c1 < 123) (hk1 : kdS c1 = 0) : KF x (p_X3_serveLine x c1) := by
  unfold p_X3_serveLine
  exact kf_line_l hc1 hk1 (fun y k => KF.rf) _ _ _ (by decide)
theorem kf_move (hk1 : kdS c1 = 0) : KF x (p_X3_moveLine x c1) := by
  unfold p_X3_moveLine
  dsimp only
  split
  · exact kf_advance hk1
  · exact (kf_advance hk1).tr kf_write
theorem kf_drain_l {K : gM → Nat → gM} (hc1 : c1 < 123) (hk1 : kdS c1 = 0) (hK : ∀ y k, KF y (K y k)) : ∀ (n : Nat) (y : gM) (k : Nat), KF y (lf_X3_putOutRiders_2 c1 K n y k) := by
  intro n
  induction n with
  | zero => intro y k; exact hK y k
  | succ n ih =>
    intro y k
    simp only [lf_X3_putOutRiders_2]
    split
    · exact hK y k
    · rcases h1 : f_X3_ticketOf y (f_X0_riderIn y c1 (nI k)) with _ | q1
      · exact ih y (k + 1)
      · have k1 := (fk_X3_ticketOf h1).2
        exact (((kf_write.tr (KF.u kd0 rfl (by decide))).tr (kf_finish k1)).tr (kf_setRider hc1 hk1)).tr (ih _ _)
theorem kf_drain (hc1 : c1 < 123) (hk1 : kdS c1 = 0) : KF x (p_X3_putOutRiders x c1) := by
  unfold p_X3_putOutRiders
  exact kf_drain_l hc1 hk1 (fun y k => KF.rf) _ _ _
theorem kf_rebuild (hk : kdS c = 0) : KF x (p_X0_rebuild x c a1) :=
  ((KF.u hk rfl (by decide)).tr (KF.u hk rfl (by decide))).tr (KF.u hk rfl (by decide))
theorem kf_open (hk : kdS c = 4) : KF x (p_X4_open x c a1) :=
  (((((KF.u hk rfl (by decide)).tr (KF.u hk rfl (by decide))).tr (KF.u hk rfl (by decide))).tr (KF.u hk rfl (by decide))).tr (KF.u hk rfl (by decide))).tr (KF.u hk rfl (by decide))
theorem kf_openStation (hc : c < 123) (hk : kdS c = 0) : KF x (p_X0_openStation x c a1).2 := by
  unfold p_X0_openStation
  split
  · exact KF.rf
  · rename_i h
    have h6 : (x c 3).toNatClampNeg < 6 := by
      simp only [w_ne] at h
      have e0 : (0 : Int32).toInt = 0 := by decide
      have e5 : (5 : Int32).toInt = 5 := by decide
      exact g_vl (n := 6) (vp_in_iff.mpr (by omega))
    have w := (kd_0 c hc hk).2.2 _ h6
    exact (kf_open w.2.1).tr (KF.u hk rfl (by decide))
theorem kf_addCall (hk : kdS c = 4) (hk1 : kdS (c + 1) = 21) (ha : 0 ≤ a1) : KF x (p_X4_addCall x c a1).2 := by
  unfold p_X4_addCall
  split
  · exact KF.rf
  · exact (KF.v hk1 (fun _ _ => ha)).tr (KF.u hk rfl (by decide))
theorem kf_withdraw (hk : kdS c = 5) : KF x (p_X3_withdraw x c).2 := by
  unfold p_X3_withdraw
  split
  · exact (((kf_setRider (fk_X3_lineOf _ _).1 (fk_X3_lineOf _ _).2).tr (KF.u kd0 rfl (by decide))).tr (KF.u kd0 rfl (by decide))).tr (kf_finish hk)
  · exact ((KF.u kd0 rfl (by decide)).tr (KF.u kd0 rfl (by decide))).tr (kf_finish hk)
end KFS
