/-! a line alone: slotIn, lapsNeeded; both sides -/
/-- the line of the trial and the reference's own numbers -/
def AL (r : Nat → Int32) (s l : Nat) (W Z : gM) (p : Nat) (d : Int32) : Prop := W (1 + 15 * l) 4 = nI s ∧ W (1 + 15 * l) 5 = nI p ∧ p < s ∧ W (1 + 15 * l) 6 = d ∧ W (1 + 15 * l) 7 = r (10 + 8 * l + 3) ∧ Z 1 = r ∧ Z 0 13 = nI p ∧ Z 0 14 = d
/-- only the two numbers have changed -/
def FZ (Z Z' : gM) : Prop := (∀ a, a ≠ 0 → Z' a = Z a) ∧ ∀ j, j ≠ 13 → j ≠ 14 → Z' 0 j = Z 0 j
theorem FZ.rf {Z : gM} : FZ Z Z := ⟨fun _ _ => rfl, fun _ _ _ => rfl⟩
theorem FZ.tr {Z Z1 Z2 : gM} (h : FZ Z Z1) (g : FZ Z1 Z2) : FZ Z Z2 := ⟨fun a ha => by rw [g.1 a ha, h.1 a ha], fun j h1 h2 => by rw [g.2 j h1 h2, h.2 j h1 h2]⟩
theorem FZ.u13 {Z : gM} {v : Int32} : FZ Z (updM Z 0 13 v) := ⟨fun a ha => updM_o ha, fun j h1 _ => updM_sn h1⟩
theorem FZ.u14 {Z : gM} {v : Int32} : FZ Z (updM Z 0 14 v) := ⟨fun a ha => updM_o ha, fun j _ h2 => updM_sn h2⟩
theorem FZ.fy {Z Z' : gM} (h : FZ Z Z') : FY Z Z' := ⟨h.1 2 (by decide), h.1 3 (by decide), h.1 5 (by decide), h.2 2 (by decide) (by decide), h.2 4 (by decide) (by decide), h.2 7 (by decide) (by decide)⟩
section ALONE
variable {r : Nat → Int32} {s l n : Nat} {W Z : gM} {p : Nat} {d : Int32}
theorem al_mod (h : AL r s l W Z p d) (hs : s ≤ 24) (b : Nat) (hb : b ≤ 2) : (nI p + nI b) - (nI p + nI b) / nI s * nI s = nI ((p + b) % s) := by
  obtain ⟨-, -, h3, -⟩ := h
  rw [nI_add, i_mod (by omega) (by omega) (by omega)]
theorem al_step (h : AL r s l W Z p d) (hl : l < 2) (hs : s ≤ 24) (h2 : 2 ≤ s) (hr : r (10 + 8 * l + 0) = nI s) : ∃ p' d', AL r s l (p_X0_advance W (1 + 15 * l)).2 (p_X9_goAlone Z (nI l)) p' d' ∧ FZ Z (p_X9_goAlone Z (nI l)) ∧ ok_X9_goAlone Z (nI l) := by
  have M := al_mod h hs
  obtain ⟨a4, a5, hp, a6, a7, z1, z13, z14⟩ := h
  have hs0 : nI s ≠ 0 := nI_ne0 (by omega) (by omega)
  have ear : ∀ b, b ≤ 2 → f_X0_around W (1 + 15 * l) (nI p + nI b) = nI ((p + b) % s) := by
    intro b hb
    unfold f_X0_around
    rw [a4, if_neg (nI_nle (by omega) (by omega)), M b hb]
  have o3 : f_X9_ofLine Z (nI l) 3 = r (10 + 8 * l + 3) := by rw [rf_line3 hl, z1]
  have o0 : ∀ Z' : gM, Z' 1 = r → f_X9_ofLine Z' (nI l) 0 = nI s := fun Z' h => by rw [rf_line0 hl, h, hr]
  have u1 : ∀ v, updM Z 0 14 v 1 = r := fun v => by rw [updM_o (by decide), z1]
  rw [advance_c, a5, a6, a7, show (nI p + 1 : Int32) = nI p + nI 1 from rfl, show (nI p + 2 : Int32) = nI p + nI 2 from rfl, ear 1 (by omega), ear 2 (by omega)]
  have eg : p_X9_goAlone Z (nI l) = if d + r (10 + 8 * l + 3) < 10 then (if (-10) < d + r (10 + 8 * l + 3) then updM (updM Z 0 14 (d + r (10 + 8 * l + 3))) 0 13 (nI ((p + 1) % s)) else updM (updM Z 0 14 (d + r (10 + 8 * l + 3) + 10)) 0 13 (nI ((p + 2) % s))) else updM (updM Z 0 14 (d + r (10 + 8 * l + 3) - 10)) 0 13 (nI p) := by
    unfold p_X9_goAlone
    dsimp only
    rw [o3, z14, updM_ss]
    have n13 : ∀ v w, updM (updM Z 0 14 v) 0 14 w 0 13 = nI p := fun v w => by rw [updM_tw, updM_sn (by decide), z13]
    have f0 : ∀ v w, f_X9_ofLine (updM (updM Z 0 14 v) 0 14 w) (nI l) 0 = nI s := fun v w => by rw [updM_tw]; exact o0 _ (u1 _)
    have e0 : (p + 0) % s = p := Nat.mod_eq_of_lt hp
    rw [n13, n13, n13, f0, f0, f0, updM_tw, updM_tw, updM_tw, Int32.sub_zero, show (nI p + 1 : Int32) = nI p + nI 1 from rfl, show (nI p + 2 : Int32) = nI p + nI 2 from rfl, show (nI p + 0 : Int32) = nI p + nI 0 from rfl, M 1 (by omega), M 2 (by omega), M 0 (by omega), e0]
    rw [show d + r (10 + 8 * l + 3) - (-10) = d + r (10 + 8 * l + 3) + 10 from Int32.sub_neg]
  have eo : ok_X9_goAlone Z (nI l) := by
    unfold ok_X9_goAlone
    refine ⟨ro_line3 hl, fun X1 e1 => ?_⟩
    rw [o3, z14] at e1
    have x1 : X1 1 = r := by rw [e1]; exact u1 _
    have key : ∀ v, f_X9_ofLine (updM X1 0 14 v) (nI l) 0 = nI s := fun v => o0 _ (by rw [updM_o (by decide), x1])
    split
    · split
      · intro X2 e2
        rw [e2, key]
        exact ⟨ro_line0 hl, hs0, trivial⟩
      · intro X2 e2
        rw [e2, key]
        exact ⟨ro_line0 hl, hs0, trivial⟩
    · intro X2 e2
      rw [e2, key]
      exact ⟨ro_line0 hl, hs0, trivial⟩
  rw [eg]
  by_cases c10 : d + r (10 + 8 * l + 3) < 10
  · rw [if_pos c10, if_pos c10]
    by_cases cm : (-10) < d + r (10 + 8 * l + 3)
    · rw [if_pos cm, if_pos cm]
      refine ⟨(p + 1) % s, d + r (10 + 8 * l + 3), ⟨?_, ?_, Nat.mod_lt _ (by omega), ?_, ?_, ?_, ?_, ?_⟩, FZ.u14.tr FZ.u13, eo⟩
      · show updM (updM W (1 + 15 * l) 6 _) (1 + 15 * l) 5 _ (1 + 15 * l) 4 = _
        rw [updM_sn (by decide), updM_sn (by decide), a4]
      · exact updM_ss
      · show updM (updM W (1 + 15 * l) 6 _) (1 + 15 * l) 5 _ (1 + 15 * l) 6 = _
        rw [updM_sn (by decide), updM_ss]
      · show updM (updM W (1 + 15 * l) 6 _) (1 + 15 * l) 5 _ (1 + 15 * l) 7 = _
        rw [updM_sn (by decide), updM_sn (by decide), a7]
      · rw [updM_o (by decide), updM_o (by decide), z1]
      · exact updM_ss
      · rw [updM_sn (by decide), updM_ss]
    · rw [if_neg cm, if_neg cm]
      refine ⟨(p + 2) % s, d + r (10 + 8 * l + 3) + 10, ⟨?_, ?_, Nat.mod_lt _ (by omega), ?_, ?_, ?_, ?_, ?_⟩, FZ.u14.tr FZ.u13, eo⟩
      · show updM (updM (updM W (1 + 15 * l) 6 _) (1 + 15 * l) 9 _) (1 + 15 * l) 5 _ (1 + 15 * l) 4 = _
        rw [updM_sn (by decide), updM_sn (by decide), updM_sn (by decide), a4]
      · exact updM_ss
      · show updM (updM (updM W (1 + 15 * l) 6 _) (1 + 15 * l) 9 _) (1 + 15 * l) 5 _ (1 + 15 * l) 6 = _
        rw [updM_sn (by decide), updM_sn (by decide), updM_ss]
      · show updM (updM (updM W (1 + 15 * l) 6 _) (1 + 15 * l) 9 _) (1 + 15 * l) 5 _ (1 + 15 * l) 7 = _
        rw [updM_sn (by decide), updM_sn (by decide), updM_sn (by decide), a7]
      · rw [updM_o (by decide), updM_o (by decide), z1]
      · exact updM_ss
      · rw [updM_sn (by decide), updM_ss]
  · rw [if_neg c10, if_neg c10]
    refine ⟨p, d + r (10 + 8 * l + 3) - 10, ⟨?_, ?_, hp, ?_, ?_, ?_, ?_, ?_⟩, FZ.u14.tr FZ.u13, eo⟩
    · show updM (updM W (1 + 15 * l) 6 _) (1 + 15 * l) 8 _ (1 + 15 * l) 4 = _
      rw [updM_sn (by decide), updM_sn (by decide), a4]
    · show updM (updM W (1 + 15 * l) 6 _) (1 + 15 * l) 8 _ (1 + 15 * l) 5 = _
      rw [updM_sn (by decide), updM_sn (by decide), a5]
    · show updM (updM W (1 + 15 * l) 6 _) (1 + 15 * l) 8 _ (1 + 15 * l) 6 = _
      rw [updM_sn (by decide), updM_ss]
    · show updM (updM W (1 + 15 * l) 6 _) (1 + 15 * l) 8 _ (1 + 15 * l) 7 = _
      rw [updM_sn (by decide), updM_sn (by decide), a7]
    · rw [updM_o (by decide), updM_o (by decide), z1]
    · exact updM_ss
    · rw [updM_sn (by decide), updM_ss]
theorem al_slot (h : AL r s l W Z p d) (hl : l < 2) (hn : n < 6) (hs : s ≤ 24) (h2 : 2 ≤ s) (hr : r (10 + 8 * l + 0) = nI s) {o : Nat} (ho : o < s) (he : r (74 + 10 * (6 * l + n) + 0) = nI o) : f_X0_slotAt W (1 + 15 * l) (nI o) = f_X9_slotAlone Z (nI (10 * l + n)) ∧ ok_X9_slotAlone Z (nI (10 * l + n)) := by
  obtain ⟨a4, a5, hp, a6, a7, z1, z13, z14⟩ := h
  have hs0 : nI s ≠ 0 := nI_ne0 (by omega) (by omega)
  have o0 : f_X9_ofLine Z (nI l) 0 = nI s := by rw [rf_line0 hl, z1, hr]
  have hA : 74 + 10 * (6 * l + n) < 194 := by omega
  unfold f_X0_slotAt f_X0_around f_X9_slotAlone ok_X9_slotAlone
  rw [a4, a5, z13, st_div hl (by omega), o0, st_at hl hn, iS0 (by omega), z1, he, if_neg (nI_nle (by omega) (by omega))]
  exact ⟨rfl, vS0 (by omega), ro_line0 hl, hs0, trivial⟩
end ALONE
section ALONE2
variable {X Y : gM}
/-- the trial's line is now's; the reference begins alone -/
theorem al_begin {Y0 : gM} {r : Nat → Int32} {tc oc : Nat} {sl ph mn : Nat → Nat} (hs : SS (vw 0 X) r tc oc sl ph mn) (hY : Y0 1 = r) {l : Nat} (hl : l < 2) : AL r (sl l) l (vw 2 (p_X8_trialLine X (nI l)).2) (p_X9_beginAlone Y0 (nI l)) (ph l) (r (10 + 8 * l + 2)) ∧ FZ Y0 (p_X9_beginAlone Y0 (nI l)) ∧ ok_X9_beginAlone Y0 (nI l) ∧ FT X (p_X8_trialLine X (nI l)).2 ∧ (p_X8_trialLine X (nI l)).1 = 1 + 15 * l := by
  obtain ⟨⟨b1, b2, b3⟩, ⟨b4, b5⟩, -⟩ := hs.lin hl
  have e1 : f_X9_ofLine Y0 (nI l) 1 = nI (ph l) := by rw [rf_line1 hl, hY, b4]
  have e2 : ∀ v, f_X9_ofLine (updM Y0 0 13 v) (nI l) 2 = r (10 + 8 * l + 2) := fun v => by rw [rf_line2 hl, updM_o (by decide), hY]
  have hline : ∀ j, vw 2 (putS X 2 (cpL (vw 2 X) (vw 0 X) (1 + 15 * l))) (1 + 15 * l) j = vw 0 X (1 + 15 * l) j := by
    intro j
    rw [vw_put2 (by omega)]
    unfold cpL
    rw [if_pos (by omega)]
  unfold p_X8_trialLine p_X9_beginAlone ok_X9_beginAlone
  rw [lineOf_n hl]
  dsimp only
  rw [e1, e2]
  refine ⟨⟨?_, ?_, b5, ?_, ?_, ?_, ?_, updM_ss⟩, FZ.u13.tr FZ.u14, ⟨ro_line1 hl, fun X1 _ => ⟨ro_line2 hl, trivial⟩⟩, FT.put, rfl⟩
  · rw [hline, hs.1.g (LL0 hl), b1]
  · rw [hline, hs.1.g (LL1 hl), b4]
  · rw [hline, hs.1.g (LL2 hl)]
  · rw [hline, hs.1.g (LL3 hl)]
  · rw [updM_o (by decide), updM_o (by decide), hY]
  · rw [updM_sn (by decide), updM_ss]
theorem slotIn_loop {r : Nat → Int32} {s l n N : Nat} {d3 : Nat} (hl : l < 2) (hn : n < 6) (hs : s ≤ 24) (h2 : 2 ≤ s) (hr : r (10 + 8 * l + 0) = nI s) (hN : N < 1000) {K : gM → Nat → Int32 × gM} {K' : gM → Nat → Int32 × gM} {KO : gM → Nat → Prop} {a1 : Int32} : ∀ d k f1 f2 (V Z : gM) (p : Nat) (dr : Int32), k + d = N → d < f1 → d < f2 → AL r s l (vw 2 V) Z p dr → ∃ V' Z' p' dr', lf_X8_slotIn_42 a1 (nI N) d3 (1 + 15 * l) K f1 V k = K V' N ∧ lf_X9_slotIn_34 (nI (10 * l + n)) (nI N) K' f2 Z k = K' Z' N ∧ AL r s l (vw 2 V') Z' p' dr' ∧ FT V V' ∧ FZ Z Z' ∧ (KO Z' N → lok_X9_slotIn_34 (nI (10 * l + n)) (nI N) KO f2 Z k) := by
  intro d
  induction d with
  | zero =>
    intro k f1 f2 V Z p dr hk hf1 hf2 h
    obtain ⟨g1, rfl⟩ : ∃ g, f1 = g + 1 := ⟨f1 - 1, by omega⟩
    obtain ⟨g2, rfl⟩ : ∃ g, f2 = g + 1 := ⟨f2 - 1, by omega⟩
    have e : k = N := by omega
    subst e
    have hle : nI k ≤ nI k := nI_le (Nat.le_refl _) (by omega)
    simp only [lf_X8_slotIn_42, lf_X9_slotIn_34, lok_X9_slotIn_34, if_pos hle]
    exact ⟨V, Z, p, dr, rfl, rfl, h, fun _ _ => rfl, FZ.rf, fun q => q⟩
  | succ d ih =>
    intro k f1 f2 V Z p dr hk hf1 hf2 h
    obtain ⟨g1, rfl⟩ : ∃ g, f1 = g + 1 := ⟨f1 - 1, by omega⟩
    obtain ⟨g2, rfl⟩ : ∃ g, f2 = g + 1 := ⟨f2 - 1, by omega⟩
    have hle : ¬ nI N ≤ nI k := nI_ge (by omega) (by omega)
    obtain ⟨p', dr', q1, q2, q3⟩ := al_step h hl hs h2 hr
    have q1' : AL r s l (vw 2 (putS V 2 ((p_X0_advance (vw 2 V) (1 + 15 * l)).2))) (p_X9_goAlone Z (nI l)) p' dr' := by
      obtain ⟨w4, w5, w0, w6, w7, w8⟩ := q1
      exact ⟨by rw [vw_put2 (by omega), w4], by rw [vw_put2 (by omega), w5], w0, by rw [vw_put2 (by omega), w6], by rw [vw_put2 (by omega), w7], w8⟩
    obtain ⟨V', Z', p2, dr2, t1, t2, t3, t4, t5, t6⟩ := ih (k + 1) g1 g2 _ _ p' dr' (by omega) (by omega) (by omega) q1'
    simp only [lf_X8_slotIn_42, lf_X9_slotIn_34, lok_X9_slotIn_34, if_neg hle, st_div hl (show n < 10 by omega)]
    refine ⟨V', Z', p2, dr2, t1, t2, t3, FT.put.tr t4, q2.tr t5, fun q => ⟨q3, fun X1 ex => ?_⟩⟩
    subst ex
    exact t6 q
theorem s_slotIn (h : Rl X Y) (a1 a2 : Int32) : (p_X8_slotIn X a1 a2).1 = (p_X9_slotIn Y a1 a2).1 ∧ Rl (p_X8_slotIn X a1 a2).2 (p_X9_slotIn Y a1 a2).2 ∧ ok_X9_slotIn Y a1 a2 := by
  obtain ⟨tc, oc, sl, ph, mn, hs⟩ := h.1
  unfold p_X8_slotIn p_X9_slotIn ok_X9_slotIn
  obtain ⟨ar, ok⟩ := station_arg (Y := Y) hs a1
  rw [sR_id] at ar ok
  rcases ar with ⟨w1, w2⟩ | ⟨l, n, hl, hn, rfl, w1, w2⟩
  · rw [w1, w2, if_pos rfl, if_pos rfl]
    exact ⟨rfl, h, ok, trivial⟩
  · have hn6 : n < 6 := Nat.lt_of_lt_of_le hn (hs.mn6 hl)
    obtain ⟨⟨b1, b2, b3⟩, -, -⟩ := hs.lin hl
    obtain ⟨⟨o, o1, o2⟩, -⟩ := hs.sta hl hn
    rw [w1, w2, if_neg (show ¬ (1 : Int32) = 0 by decide), if_neg (show ¬ (1 : Int32) = 0 by decide), in_eq, st_div hl (by omega)]
    simp only [gOpt]
    rw [nS_lin hl hn6]
    rcases in_arg (N := 300) (by omega) a2 with q | ⟨q, N, hN, rfl⟩
    · have q' : f_X8_within a2 0 300 = 0 := q
      rw [q', if_pos rfl, if_pos rfl, if_pos rfl]
      exact ⟨rfl, h, ok, trivial⟩
    · have q' : f_X8_within (nI N) 0 300 = 1 := q
      rw [q', if_neg (show ¬ (1 : Int32) = 0 by decide), if_neg (show ¬ (1 : Int32) = 0 by decide), if_neg (show ¬ (1 : Int32) = 0 by decide)]
      obtain ⟨c1', c2', c3', c4', c5'⟩ := al_begin (Y0 := Y) hs rfl hl
      rw [c5']
      have L := fun K K' KO => slotIn_loop (n := n) (d3 := 1 + 15 * l + 2 + 1 + 2 * n) (a1 := nI (10 * l + n)) (K := K) (K' := K') (KO := KO) hl hn6 b3 b2 b1 (show N < 1000 by omega) N 0 2147483648 2147483648 _ _ _ _ (by omega) (by omega) (by omega) c1'
      obtain ⟨V', Z', p', dr', t1, t2, t3, t4, t5, t6⟩ := L (fun X2 _ => (f_X0_slotAt (vw 2 X2) (1 + 15 * l) (vw 0 X2 (1 + 15 * l + 2 + 1 + 2 * n) 5), X2)) (fun X2 _ => (f_X9_slotAlone X2 (nI (10 * l + n)), X2)) (fun X2 _ => ok_X9_slotAlone X2 (nI (10 * l + n)) ∧ True)
      rw [t1, t2]
      have ft := c4'.tr t4
      have fz := c2'.tr t5
      have x5 : vw 0 V' (1 + 15 * l + 2 + 1 + 2 * n) 5 = nI o := by
        rw [← o2, ← hs.1.g (LS0 hl hn6)]
        exact congrFun (ft (off 0 + (1 + 15 * l + 2 + 1 + 2 * n)) (by rw [off0]; omega)) 5
      obtain ⟨s1, s2⟩ := al_slot t3 hl hn6 b3 b2 b1 o1 o2
      refine ⟨?_, h.fr (h.1.cg (fun q j hq => congrFun (ft (off 0 + q) (by rw [off0]; omega)) j) (fun i _ => congrFun (fz.1 1 (by decide)) i)) ft.fx fz.fy, ok, c3', fun X1 ex => ?_⟩
      · dsimp only
        rw [x5]
        exact s1
      · subst ex
        exact t6 ⟨s2, trivial⟩
theorem laps_loop {r : Nat → Int32} {s l n n' : Nat} {oa ob : Nat} {slot : Int32} (hl : l < 2) (hn : n < 6) (hn' : n' < 6) (hs : s ≤ 24) (h2 : 2 ≤ s) (hr : r (10 + 8 * l + 0) = nI s) (ha : oa < s) (hb : ob < s) (ea : r (74 + 10 * (6 * l + n) + 0) = nI oa) (eb : r (74 + 10 * (6 * l + n') + 0) = nI ob) : ∀ d k x f1 f2 (W Z : gM) (p : Nat) (dr : Int32), k + d = 300 → x ≤ 9 → d < f1 → d + 1 < f2 → AL r s l W Z p dr → ∃ a W' Z', lf_X8_fewestLaps_12 (nI oa) (nI ob) (1 + 15 * l) slot (fun X1 _ _ => ((-5), X1)) f1 W (nI x) (k + 1) = (a, W') ∧ lf_X9_lapsNeeded_57 (nI (10 * l + n)) (nI (10 * l + n')) (nI l) slot (fun X2 _ _ => ((-5), X2)) f2 Z (nI x) k = (a, Z') ∧ FZ Z Z' ∧ lok_X9_lapsNeeded_57 (nI (10 * l + n)) (nI (10 * l + n')) (nI l) slot (fun _ _ _ => True) f2 Z (nI x) k := by
  intro d
  induction d with
  | zero =>
    intro k x f1 f2 W Z p dr hk hx hf1 hf2 h
    obtain ⟨g1, rfl⟩ : ∃ g, f1 = g + 1 := ⟨f1 - 1, by omega⟩
    obtain ⟨g2, rfl⟩ : ∃ g, f2 = g + 1 := ⟨f2 - 1, by omega⟩
    have e : k = 300 := by omega
    subst e
    have hlt : (300 : Int32) < nI (300 + 1) := by decide +kernel
    have hle : (300 : Int32) ≤ nI 300 := by decide +kernel
    simp only [lf_X8_fewestLaps_12, lf_X9_lapsNeeded_57, lok_X9_lapsNeeded_57, if_pos hlt, if_pos hle]
    exact ⟨(-5), W, Z, rfl, rfl, FZ.rf, trivial⟩
  | succ d ih =>
    intro k x f1 f2 W Z p dr hk hx hf1 hf2 h
    obtain ⟨g1, rfl⟩ : ∃ g, f1 = g + 1 := ⟨f1 - 1, by omega⟩
    obtain ⟨g2, rfl⟩ : ∃ g, f2 = g + 1 := ⟨f2 - 1, by omega⟩
    have hlt : ¬ (300 : Int32) < nI (k + 1) := nI_nlt (a := 300) (by omega) (by decide)
    have hle : ¬ (300 : Int32) ≤ nI k := nI_ge (b := 300) (by omega) (by decide)
    have hx10 : ¬ (10 : Int32) ≤ nI x := nI_ge (b := 10) (by omega) (by decide)
    obtain ⟨p', dr', q1, q2, q3⟩ := al_step h hl hs h2 hr
    obtain ⟨s1, s2⟩ := al_slot q1 hl hn hs h2 hr ha ea
    obtain ⟨t1, t2⟩ := al_slot q1 hl hn' hs h2 hr hb eb
    simp only [lf_X8_fewestLaps_12, lf_X9_lapsNeeded_57, lok_X9_lapsNeeded_57, if_neg hlt, if_neg hle, if_neg hx10, s1, t1, Int32.add_zero]
    generalize hA : p_X9_goAlone Z (nI l) = A at *
    have okk : ∀ P : gM → Prop, P A → ∀ X1 : gM, X1 = A → P X1 := fun P hP X1 ex => by rw [ex]; exact hP
    by_cases c1' : f_X9_slotAlone A (nI (10 * l + n')) = slot
    · simp only [if_pos c1']
      refine ⟨nI x, _, A, rfl, rfl, q2, q3, okk (fun X1 => ok_X9_slotAlone X1 (nI (10 * l + n')) ∧ (if f_X9_slotAlone X1 (nI (10 * l + n')) = slot then True else _ )) ⟨t2, ?_⟩⟩
      rw [if_pos c1']
      trivial
    · simp only [if_neg c1']
      by_cases c2' : f_X9_slotAlone A (nI (10 * l + n)) = slot
      · simp only [if_pos c2', nI_1]
        by_cases hx9 : x = 9
        · subst hx9
          have h10 : ¬ nI (9 + 1) ≤ 9 := by decide +kernel
          simp only [if_neg h10]
          obtain ⟨g3, rfl⟩ : ∃ g, g2 = g + 1 := ⟨g2 - 1, by omega⟩
          have hx10' : (10 : Int32) ≤ nI (9 + 1) := by decide +kernel
          have eR : ∀ V : gM, lf_X9_lapsNeeded_57 (nI (10 * l + n)) (nI (10 * l + n')) (nI l) slot (fun X2 _ _ => ((-5), X2)) (g3 + 1) V (nI (9 + 1)) (k + 1) = ((-5), V) := by
            intro V
            simp only [lf_X9_lapsNeeded_57, if_pos hx10', ite_self]
          have eO : ∀ V : gM, lok_X9_lapsNeeded_57 (nI (10 * l + n)) (nI (10 * l + n')) (nI l) slot (fun _ _ _ => True) (g3 + 1) V (nI (9 + 1)) (k + 1) := by
            intro V
            simp only [lok_X9_lapsNeeded_57, if_pos hx10', ite_self]
          rw [eR]
          refine ⟨(-5), _, A, rfl, rfl, q2, q3, fun X1 ex => ?_⟩
          subst ex
          refine ⟨t2, ?_⟩
          rw [if_neg c1']
          refine ⟨s2, ?_⟩
          rw [if_pos c2']
          exact eO _
        · have h9 : nI (x + 1) ≤ 9 := nI_le (b := 9) (by omega) (by decide)
          simp only [if_pos h9]
          obtain ⟨a, W', Z', i1, i2, i3, i4⟩ := ih (k + 1) (x + 1) g1 g2 _ A p' dr' (by omega) (by omega) (by omega) (by omega) q1
          refine ⟨a, W', Z', i1, i2, q2.tr i3, q3, fun X1 ex => ?_⟩
          subst ex
          refine ⟨t2, ?_⟩
          rw [if_neg c1']
          refine ⟨s2, ?_⟩
          rw [if_pos c2']
          exact i4
      · have h9 : nI x ≤ 9 := nI_le (b := 9) hx (by decide)
        simp only [if_neg c2', if_pos h9]
        obtain ⟨a, W', Z', i1, i2, i3, i4⟩ := ih (k + 1) x g1 g2 _ A p' dr' (by omega) hx (by omega) (by omega) q1
        refine ⟨a, W', Z', i1, i2, q2.tr i3, q3, fun X1 ex => ?_⟩
        subst ex
        refine ⟨t2, ?_⟩
        rw [if_neg c1']
        refine ⟨s2, ?_⟩
        rw [if_neg c2']
        exact i4
theorem s_lapsNeeded (h : Rl X Y) (a1 a2 : Int32) : (p_X8_lapsNeeded X a1 a2).1 = (p_X9_lapsNeeded Y a1 a2).1 ∧ Rl (p_X8_lapsNeeded X a1 a2).2 (p_X9_lapsNeeded Y a1 a2).2 ∧ ok_X9_lapsNeeded Y a1 a2 := by
  obtain ⟨tc, oc, sl, ph, mn, hs⟩ := h.1
  unfold p_X8_lapsNeeded p_X9_lapsNeeded ok_X9_lapsNeeded
  obtain ⟨ar1, ok1⟩ := station_arg (Y := Y) hs a1
  obtain ⟨ar2, ok2⟩ := station_arg (Y := Y) hs a2
  rw [sR_id] at ar1 ok1 ar2 ok2
  rcases ar1 with ⟨w1, w2⟩ | ⟨l, n, hl, hn, rfl, w1, w2⟩
  · rw [w1, w2, if_pos rfl, if_pos rfl]
    simp only [gOpt]
    rcases ar2 with ⟨z1, z2⟩ | ⟨l', n', hl', hn', rfl, z1, z2⟩
    · rw [z1]
      exact ⟨rfl, h, ok1, trivial⟩
    · rw [z1]
      exact ⟨rfl, h, ok1, trivial⟩
  · rw [w1, w2, if_neg (show ¬ (1 : Int32) = 0 by decide), if_neg (show ¬ (1 : Int32) = 0 by decide)]
    simp only [gOpt]
    rcases ar2 with ⟨z1, z2⟩ | ⟨l', n', hl', hn', rfl, z1, z2⟩
    · rw [z1, z2, if_pos rfl, if_pos rfl]
      exact ⟨rfl, h, ok1, ok2, trivial⟩
    · have hn6 : n < 6 := Nat.lt_of_lt_of_le hn (hs.mn6 hl)
      have hn6' : n' < 6 := Nat.lt_of_lt_of_le hn' (hs.mn6 hl')
      rw [z1, z2, if_neg (show ¬ (1 : Int32) = 0 by decide), if_neg (show ¬ (1 : Int32) = 0 by decide)]
      dsimp only
      rw [nS_lin hl hn6, nS_lin hl' hn6', st_div hl (by omega), st_div hl' (by omega)]
      by_cases he : nI (10 * l + n) = nI (10 * l' + n')
      · rw [if_pos he, if_pos he, if_pos he]
        exact ⟨rfl, h, ok1, ok2, trivial⟩
      · rw [if_neg he, if_neg he, if_neg he]
        by_cases hll : l = l'
        · subst hll
          rw [if_pos rfl, if_pos rfl, if_pos rfl]
          obtain ⟨⟨b1, b2, b3⟩, -, -⟩ := hs.lin hl
          obtain ⟨⟨oa, oa1, oa2⟩, -⟩ := hs.sta hl hn
          obtain ⟨⟨ob, ob1, ob2⟩, -⟩ := hs.sta hl hn'
          obtain ⟨c1', c2', c3', c4', c5'⟩ := al_begin (Y0 := Y) hs rfl hl
          obtain ⟨s1, s2⟩ := al_slot c1' hl hn6 b3 b2 b1 oa1 oa2
          have xa : vw 0 X (1 + 15 * l + 2 + 1 + 2 * n) 5 = nI oa := by rw [hs.1.g (LS0 hl hn6), oa2]
          have xb : vw 0 X (1 + 15 * l + 2 + 1 + 2 * n') 5 = nI ob := by rw [hs.1.g (LS0 hl hn6'), ob2]
          rw [c5', xa, xb]
          obtain ⟨a, W', Z', i1, i2, i3, i4⟩ := laps_loop (slot := f_X9_slotAlone (p_X9_beginAlone Y (nI l)) (nI (10 * l + n))) hl hn6 hn6' b3 b2 b1 oa1 ob1 oa2 ob2 300 0 1 302 2147483648 _ _ _ _ (by omega) (by omega) (by omega) (by omega) c1'
          have ef : p_X8_fewestLaps (vw 2 (p_X8_trialLine X (nI l)).2) (nI oa) (nI ob) (1 + 15 * l) = (a, W') := by
            unfold p_X8_fewestLaps
            rw [s1]
            exact i1
          have eg : lf_X9_lapsNeeded_57 (nI (10 * l + n)) (nI (10 * l + n')) (nI l) (f_X9_slotAlone (p_X9_beginAlone Y (nI l)) (nI (10 * l + n))) (fun X2 _ _ => ((-5), X2)) 2147483648 (p_X9_beginAlone Y (nI l)) 1 0 = (a, Z') := i2
          have eo : lok_X9_lapsNeeded_57 (nI (10 * l + n)) (nI (10 * l + n')) (nI l) (f_X9_slotAlone (p_X9_beginAlone Y (nI l)) (nI (10 * l + n))) (fun _ _ _ => True) 2147483648 (p_X9_beginAlone Y (nI l)) 1 0 := i4
          rw [ef, eg]
          have ft : FT X (putS (p_X8_trialLine X (nI l)).2 2 W') := c4'.tr FT.put
          have fz := c2'.tr i3
          refine ⟨rfl, h.fr (h.1.cg (fun q j hq => congrFun (ft (off 0 + q) (by rw [off0]; omega)) j) (fun i _ => congrFun (fz.1 1 (by decide)) i)) ft.fx fz.fy, ok1, ok2, c3', fun X1 ex => ?_⟩
          subst ex
          exact ⟨s2, eo⟩
        · have n1 : ¬ nI l = nI l' := fun z => hll (nI_inj (by omega) (by omega) z)
          have n2 : ¬ nI l' = nI l := fun z => n1 z.symm
          rw [if_neg n1, if_neg n2, if_neg n2]
          exact ⟨rfl, h, ok1, ok2, trivial⟩
end ALONE2
