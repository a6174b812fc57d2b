/-! orders and a whole tick: both sides -/
section TICK
variable {X Y : gM} {r : Nat → Int32} {tc oc : Nat} {sl ph mn : Nat → Nat} {l n t k u : Nat}
theorem gBit_01 {x : Int32} (h : x = 0 ∨ x = 1) : gBit x = x := by
  rcases h with rfl | rfl <;> rfl
theorem cO {a : Nat} (h : a < 2147483648) : (nI a).toNatClampNeg = a := c1 h
/-- what is told of an order when it is not relevant to the invariant -/
theorem SS.setO {i j c : Nat} {v : Int32} (h : SS X r tc oc sl ph mn) (hl : LC i c j) (hz : zr i = false) (hc : c ≠ 33 ∧ c ≠ 34) (hi : i < 9 ∨ 10 ≤ i ∧ i < 234) (hj : j ≠ 13) : SS (updM X c j v) (upd r i v) tc oc sl ph mn := by
  obtain ⟨hPS, hOn, hLg, hInv⟩ := h
  refine ⟨PS.set hl pk_us (PS.rset (by simp) hPS.w0), ?_, hLg.same (fun q => updM_n (by omega)) (fun q => updM_n (by omega)) (fun q hq => pk_un (by omega)), hInv.same (fun q hq => pk_un (nz hq hz))⟩
  intro u hu h1
  rw [updM_sn' (Ne.symm hj), pk_un (by omega), pk_un (by omega)]
  rw [pk_un (by omega)] at h1
  exact hOn u hu h1
theorem orders_loop : ∀ d k f1 f2 (X : gM) (r : Nat → Int32) (tc : Nat), k + d = oc → d < f1 → d < f2 → SS X r tc oc sl ph mn → ∃ r2 tc2, lf_X9_goOrders_2 (fun X1 _ => X1) f2 (sR Y r) k = sR Y r2 ∧ SS (lf_X3_followOrders_2 (fun X1 _ => X1) f1 X k) r2 tc2 oc sl ph mn ∧ tc ≤ tc2 ∧ cn (bSt r2 3) tc2 = cn (bSt r 3) tc ∧ lok_X9_goOrders_2 (fun _ _ => True) f2 (sR Y r) k := by
  intro d
  induction d with
  | zero =>
    intro k f1 f2 X r tc hk hf1 hf2 h
    obtain ⟨g1, rfl⟩ : ∃ g, f1 = g + 1 := ⟨f1 - 1, by omega⟩
    obtain ⟨g2, rfl⟩ : ∃ g, f2 = g + 1 := ⟨f2 - 1, by omega⟩
    have e : k = oc := by omega
    subst e
    have ho := h.oc4
    have hx : X 0 6 = nI k := by rw [h.1.g LK2, h.r2]
    have hr : sR Y r 1 2 = nI k := h.r2
    have hle : nI k ≤ nI k := nI_le (Nat.le_refl _) (by omega)
    simp only [lf_X9_goOrders_2, lf_X3_followOrders_2, lok_X9_goOrders_2, hx, hr, if_pos hle]
    exact ⟨r, tc, rfl, h, Nat.le_refl _, rfl, trivial⟩
  | succ d ih =>
    intro k f1 f2 X r tc hk hf1 hf2 h
    obtain ⟨g1, rfl⟩ : ∃ g, f1 = g + 1 := ⟨f1 - 1, by omega⟩
    obtain ⟨g2, rfl⟩ : ∃ g, f2 = g + 1 := ⟨f2 - 1, by omega⟩
    have ho := h.oc4
    have hk4 : k < 4 := by omega
    have h40 := h.tc4
    have hx : X 0 6 = nI oc := by rw [h.1.g LK2, h.r2]
    have hr : sR Y r 1 2 = nI oc := h.r2
    have hle : ¬ nI oc ≤ nI k := nI_ge (by omega) (by omega)
    have hle4 : ¬ (4 : Int32) ≤ nI k := nI_ge (b := 4) (by omega) (by decide)
    obtain ⟨⟨p, p1, p50, ep⟩, eo, hkd, hfr, hto, hlp⟩ := h.ord (show k < oc by omega)
    have o0 : X (115 + 2 * k) 1 = r (194 + 10 * k + 0) := h.1.g (LO0 hk4)
    have o1 : X (115 + 2 * k) 2 = r (194 + 10 * k + 1) := h.1.g (LO1 hk4)
    have o2 : X (115 + 2 * k) 3 = r (194 + 10 * k + 2) := h.1.g (LO2 hk4)
    have o3 : X (115 + 2 * k) 4 = r (194 + 10 * k + 3) := h.1.g (LO3 hk4)
    have o4 : X (115 + 2 * k) 5 = r (194 + 10 * k + 4) := h.1.g (LO4 hk4)
    have g7 : X 0 7 = r 0 := h.1.g LK0
    have c0 : (nI (194 + 10 * k + 0)).toNatClampNeg = 194 + 10 * k + 0 := c1 (by omega)
    have c1' : (nI (194 + 10 * k + 1)).toNatClampNeg = 194 + 10 * k + 1 := c1 (by omega)
    have c2' : (nI (194 + 10 * k + 2)).toNatClampNeg = 194 + 10 * k + 2 := c1 (by omega)
    have c3' : (nI (194 + 10 * k + 3)).toNatClampNeg = 194 + 10 * k + 3 := c1 (by omega)
    have c4' : (nI (194 + 10 * k + 4)).toNatClampNeg = 194 + 10 * k + 4 := c1 (by omega)
    have c5' : (nI (194 + 10 * k + 5)).toNatClampNeg = 194 + 10 * k + 5 := c1 (by omega)
    have c6' : (nI (194 + 10 * k + 6)).toNatClampNeg = 194 + 10 * k + 6 := c1 (by omega)
    have c7' : (nI (194 + 10 * k + 7)).toNatClampNeg = 194 + 10 * k + 7 := c1 (by omega)
    have c8' : (nI (194 + 10 * k + 8)).toNatClampNeg = 194 + 10 * k + 8 := c1 (by omega)
    have c9' : (nI (194 + 10 * k + 9)).toNatClampNeg = 194 + 10 * k + 9 := c1 (by omega)
    have vp : ∀ w, w < 10 → vp_in (nI (194 + 10 * k + w)) 974 := fun w hw => vp_in_nI (by omega) (by decide)
    have hp0 : ¬ nI p = 0 := nI_ne0 (by omega) (by omega)
    have hd : f_X2_isDue X (115 + 2 * k) (X 0 7) = if r (194 + 10 * k + 4) = 1 then 0 else if (r 0 - r (194 + 10 * k + 1)) - (r 0 - r (194 + 10 * k + 1)) / nI p * nI p = 0 then 1 else 0 := by
      unfold f_X2_isDue
      rw [o4, gBit_01 eo, o0, o1, ep, g7, if_neg (nI_nle (by omega) (by omega))]
      rcases eo with e | e
      · rw [e, if_pos rfl, if_neg (show ¬ (0 : Int32) = 1 by decide)]
      · rw [e, if_neg (by decide), if_pos rfl]
    simp only [lf_X9_goOrders_2, lf_X3_followOrders_2, lok_X9_goOrders_2, hx, hr, if_neg hle, if_neg hle4, c0, c1', c2', c3', c4', c5', c6', c7', c8', c9']
    have y4 : sR Y r 1 (194 + 10 * k + 4) = r (194 + 10 * k + 4) := rfl
    have y0 : sR Y r 1 0 = r 0 := rfl
    have y1 : sR Y r 1 1 = nI tc := h.r1
    have y11 : sR Y r 1 (194 + 10 * k + 1) = r (194 + 10 * k + 1) := rfl
    have y10 : sR Y r 1 (194 + 10 * k + 0) = nI p := ep
    rw [y4, y0, y11, y10, y1]
    by_cases hov : r (194 + 10 * k + 4) = 1
    · rw [if_pos hov] at hd
      rw [hd, if_pos rfl, if_pos hov, if_pos hov]
      obtain ⟨r2, tc2, a1, a2, a3, a4, a5⟩ := ih (k + 1) g1 g2 X r tc (by omega) (by omega) (by omega) h
      exact ⟨r2, tc2, a1, a2, a3, a4, vp 4 (by omega), a5⟩
    · rw [if_neg hov] at hd
      rw [if_neg hov, if_neg hov]
      by_cases hdu : (r 0 - r (194 + 10 * k + 1)) - (r 0 - r (194 + 10 * k + 1)) / nI p * nI p = 0
      · rw [if_pos hdu] at hd
        rw [hd, if_neg (show ¬ (1 : Int32) = 0 by decide), if_pos hdu, if_pos hdu]
        by_cases ht : tc = 40
        · have h41 : f_X3_hasTickets X 1 = 0 := by
            unfold f_X3_hasTickets
            rw [h.1.g LK1, h.r1, ht]
            decide +kernel
          have t40 : nI tc = 40 := by rw [ht]; rfl
          have ef : p_X3_followOrder X (115 + 2 * k) = updM X (115 + 2 * k) 4 (r (194 + 10 * k + 3) + 1) := by
            unfold p_X3_followOrder
            rw [h41, if_pos rfl, o3]
          rw [if_pos t40, if_pos t40, ef, sR_u1]
          have h2 : SS (updM X (115 + 2 * k) 4 (r (194 + 10 * k + 3) + 1)) (upd r (194 + 10 * k + 3) (r (194 + 10 * k + 3) + 1)) tc oc sl ph mn := h.setO (LO3 hk4) (yO3 hk4) (by omega) (by omega) (by decide)
          obtain ⟨r2, tc2, a1, a2, a3, a4, a5⟩ := ih (k + 1) g1 g2 _ _ tc (by omega) (by omega) (by omega) h2
          refine ⟨r2, tc2, a1, a2, a3, ?_, vp 4 (by omega), vp 1 (by omega), vp 0 (by omega), hp0, vp 3 (by omega), vp 3 (by omega), fun X4 e4 => ?_⟩
          · rw [a4]
            exact cn_all (fun u hu => pk_un (by omega))
          · subst e4
            exact a5
        · have htc : tc < 40 := by omega
          have h41 : f_X3_hasTickets X 1 = 1 := by
            unfold f_X3_hasTickets
            rw [h.1.g LK1, h.r1, if_neg]
            rw [show nI tc + 1 = nI (tc + 1) from nI_1 tc]
            exact nI_nlt (a := 40) (by omega) (by omega)
          have t40 : ¬ nI tc = 40 := fun z => ht (nI_inj (b := 40) (by omega) (by omega) z)
          have x5 : X (115 + 2 * k + 1) 0 = r (194 + 10 * k + 5) := h.1.g (LO5 hk4)
          have x7 : X (115 + 2 * k + 1) 1 = r (194 + 10 * k + 7) := h.1.g (LO7 hk4)
          have x6 : X (115 + 2 * k + 1) 2 = r (194 + 10 * k + 6) := h.1.g (LO6 hk4)
          have x8 : X (115 + 2 * k + 1) 3 = r (194 + 10 * k + 8) := h.1.g (LO8 hk4)
          have x9 : X (115 + 2 * k + 1) 4 = r (194 + 10 * k + 9) := h.1.g (LO9 hk4)
          obtain ⟨b1, b2, b3⟩ := admit_sim h htc (X (115 + 2 * k + 1)) (by rw [x7, x6, x8, x9]; exact ⟨hkd, hfr, hto, hlp⟩)
          rw [x5, x7, x6, x8, x9] at b2 b3
          obtain ⟨m1, m2⟩ := rp_comes (Y := Y) (a1 := r (194 + 10 * k + 5)) (a2 := r (194 + 10 * k + 7)) (a3 := r (194 + 10 * k + 6)) (a4 := r (194 + 10 * k + 8)) (a5 := r (194 + 10 * k + 9)) htc h.r1
          have yy : ∀ w, sR Y r 1 (194 + 10 * k + w) = r (194 + 10 * k + w) := fun w => rfl
          have z2 : (p_X3_admit X (X (115 + 2 * k + 1))).2 (115 + 2 * k) 3 = rCome r tc (r (194 + 10 * k + 5)) (r (194 + 10 * k + 7)) (r (194 + 10 * k + 6)) (r (194 + 10 * k + 8)) (r (194 + 10 * k + 9)) (194 + 10 * k + 2) := b2.1.g (LO2 hk4)
          have ef : p_X3_followOrder X (115 + 2 * k) = updM (p_X3_admit X (X (115 + 2 * k + 1))).2 (115 + 2 * k) 3 (rCome r tc (r (194 + 10 * k + 5)) (r (194 + 10 * k + 7)) (r (194 + 10 * k + 6)) (r (194 + 10 * k + 8)) (r (194 + 10 * k + 9)) (194 + 10 * k + 2) + 1) := by
            unfold p_X3_followOrder
            rw [h41, if_neg (by decide), ← z2]
          rw [if_neg t40, if_neg t40, ef]
          simp only [yy, m1]
          rw [if_pos (show (0 : Int32) ≤ nI tc from nI_pos' (by omega)), sR_u1]
          have h2 := b2.setO (v := rCome r tc (r (194 + 10 * k + 5)) (r (194 + 10 * k + 7)) (r (194 + 10 * k + 6)) (r (194 + 10 * k + 8)) (r (194 + 10 * k + 9)) (194 + 10 * k + 2) + 1) (LO2 hk4) (yO2 hk4) (by omega) (by omega) (by decide)
          obtain ⟨r2, tc2, a1, a2, a3, a4, a5⟩ := ih (k + 1) g1 g2 _ _ (tc + 1) (by omega) (by omega) (by omega) h2
          refine ⟨r2, tc2, a1, a2, by omega, ?_, vp 4 (by omega), vp 1 (by omega), vp 0 (by omega), hp0, vp 5 (by omega), vp 7 (by omega), vp 6 (by omega), vp 8 (by omega), vp 9 (by omega), m2, fun X1 e1 => ?_⟩
          · rw [a4, ← b3]
            exact cn_all (fun u hu => pk_un (by omega))
          · subst e1
            rw [if_pos (show (0 : Int32) ≤ nI tc from nI_pos' (by omega))]
            refine ⟨vp 2 (by omega), vp 2 (by omega), fun X2 e2 => ?_⟩
            rw [sR_u1] at e2
            subst e2
            exact a5
      · rw [if_neg hdu] at hd
        rw [hd, if_pos rfl, if_neg hdu, if_neg hdu]
        obtain ⟨r2, tc2, a1, a2, a3, a4, a5⟩ := ih (k + 1) g1 g2 X r tc (by omega) (by omega) (by omega) h
        exact ⟨r2, tc2, a1, a2, a3, a4, vp 4 (by omega), vp 1 (by omega), vp 0 (by omega), hp0, a5⟩
theorem tick_sim (h : SS X r tc oc sl ph mn) : ∃ r2 tc2 ph2 v, p_X9_goTick (sR Y r) = sR (updM Y 0 8 v) r2 ∧ SS (p_X3_passTick X) r2 tc2 oc sl ph2 mn ∧ tc ≤ tc2 ∧ AR Y r tc v r2 tc2 ∧ ok_X9_goTick (sR Y r) := by
  have ho := h.oc4
  obtain ⟨r1, tc1, a1, a2, a3, a4, a5⟩ := orders_loop (Y := Y) oc 0 5 2147483648 X r tc (by omega) (by omega) (by omega) h
  have n0 : mn 0 ≤ 6 := a2.mn6 (by omega)
  have n1 : mn 1 ≤ 6 := a2.mn6 (by omega)
  have KEY : ∀ (f : Nat), 3 ≤ f → ∀ KK : gM → gM, ∀ KO : gM → Prop, ∃ r3 v, lf_X9_goTick_6 (fun X2 _ => KK X2) f (sR Y r1) 0 = KK (sR (updM Y 0 8 v) r3) ∧ SS (p_X3_serveLine (p_X3_serveLine (p_X3_followOrders X) 1) 16) r3 tc1 oc sl ph mn ∧ AR Y r1 tc1 v r3 tc1 ∧ (KO (sR (updM Y 0 8 v) r3) → lok_X9_goTick_6 (fun X2 _ => KO X2) f (sR Y r1) 0) := by
    intro f hf KK KO
    obtain ⟨g, rfl⟩ : ∃ g, f = g + 1 + 1 + 1 := ⟨f - 3, by omega⟩
    simp only [lf_X9_goTick_6, lok_X9_goTick_6]
    rw [if_neg (show ¬ (2 : Int32) ≤ nI 0 by decide +kernel), if_neg (show ¬ (2 : Int32) ≤ nI 0 by decide +kernel)]
    have n12 : ¬ (2 : Int32) ≤ nI (0 + 1) := by decide +kernel
    have n22 : (2 : Int32) ≤ nI (0 + 1 + 1) := by decide +kernel
    simp only [if_neg n12, if_pos n22]
    obtain ⟨r2, v, s1, s2, s3, s4⟩ := serve_loop (l := 0) (K := fun X1 _ => lf_X9_goTick_13 (0 + 1) (fun X2 _ => KK X2) 2147483648 X1 0) (KO := fun X1 _ => lok_X9_goTick_13 (0 + 1) (fun X2 _ => KO X2) 2147483648 X1 0) (by omega) (mn 0) 0 7 2147483648 _ Y r1 (by omega) (by omega) (by omega) a2
    obtain ⟨r3, w, t1, t2, t3, t4⟩ := serve_loop (l := 0 + 1) (K := fun X2 _ => KK X2) (KO := fun X2 _ => KO X2) (by omega) (mn (0 + 1)) 0 7 2147483648 _ (updM Y 0 8 v) r2 (by omega) (by show mn 1 < 7; omega) (by show mn 1 < 2147483648; omega) s2
    rw [updM_tw] at t1 t4
    refine ⟨r3, w, ?_, t2, s3.tr t3, fun q => s4 (t4 q)⟩
    rw [s1]
    exact t1
  obtain ⟨r3, v, k1, k2, k3, k4⟩ := KEY 2147483648 (by omega) (fun X2 => updM (p_X9_goLine (p_X9_goLine X2 0) 1) 1 0 ((p_X9_goLine (p_X9_goLine X2 0) 1 1 0) + 1)) (fun X2 => (ok_X9_goLine X2 0) ∧ ∀ X3 : gM, X3 = p_X9_goLine X2 0 → (ok_X9_goLine X3 1) ∧ True)
  obtain ⟨r4, ph4, l1, l2, l3, l4⟩ := line_sim (Y := updM Y 0 8 v) k2 (show 0 < 2 by omega)
  obtain ⟨r5, ph5, m1, m2, m3, m4⟩ := line_sim (Y := updM Y 0 8 v) l2 (show 1 < 2 by omega)
  have l1' : p_X9_goLine (sR (updM Y 0 8 v) r3) 0 = sR (updM Y 0 8 v) r4 := l1
  have m1' : p_X9_goLine (sR (updM Y 0 8 v) r4) 1 = sR (updM Y 0 8 v) r5 := m1
  refine ⟨upd r5 0 (r5 0 + 1), tc1, ph5, v, ?_, ?_, a3, ?_, ?_⟩
  · unfold p_X9_goTick p_X9_goOrders
    dsimp only
    rw [a1]
    refine k1.trans ?_
    simp only [l1', m1', sR_u1, sR_1]
  · unfold p_X3_passTick
    dsimp only
    have e5 : p_X3_moveLine (p_X3_moveLine (p_X3_serveLine (p_X3_serveLine (p_X3_followOrders X) 1) 16) 1) 16 0 7 = r5 0 := m2.1.g LK0
    rw [e5]
    exact m2.setO LK0 (by decide +kernel) (by decide) (by decide) (by decide)
  · refine AR.cn (AR.tr (AR.same a4) (by rw [updM_id]; exact k3)) ?_
    rw [cn_all (r := r5) (fun u hu => pk_un (by omega)), m3, l3]
  · unfold ok_X9_goTick p_X9_goOrders ok_X9_goOrders
    refine ⟨a5, fun X1 e1 => ?_⟩
    rw [a1] at e1
    subst e1
    refine k4 ⟨l4, fun X3 e3 => ?_⟩
    rw [l1'] at e3
    subst e3
    exact ⟨m4, trivial⟩
end TICK
