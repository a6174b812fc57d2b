/-! build, addStation, drain -/
section ACTS4
variable {X Y : gM} {r : Nat → Int32} {tc oc : Nat} {sl ph mn : Nat → Nat} {l n t k u : Nat}
theorem e10n (l k : Nat) : (10 : Int32) * nI l + nI k = nI (10 * l + k) := by
  show nI 10 * nI l + nI k = _
  rw [nI_mul, nI_add]
/-- nobody rides: no ticket says so -/
theorem nobody (h : SS X r tc oc sl ph mn) {l : Nat} (h0 : cn (bOn r (nI l) 1) tc = 0) {u : Nat} (hu : u < tc) : ¬ (r (294 + 17 * u + 6) = 1 ∧ r (294 + 17 * u + 7) = nI l) := by
  rintro ⟨a, b⟩
  have := cn_lt (p := bOn r (nI l) 1) hu (by simp [bOn, a, b])
  omega
theorem Inv.build {r' : Nat → Int32} {s' : Nat} (h : Inv r tc oc sl ph mn) (hl : l < 2) (h0 : r' (10 + 8 * l + 0) = nI s') (h1 : r' (10 + 8 * l + 1) = nI 0) (hs2 : 2 ≤ s') (hs24 : s' ≤ 24) (hoff : ∀ n, n < mn l → ∃ o, o < s' ∧ r (74 + 10 * (6 * l + n) + 0) = nI o) (hno : ∀ u, u < tc → ¬ (r (294 + 17 * u + 6) = 1 ∧ r (294 + 17 * u + 7) = nI l)) (hs : ∀ i, zr i = true → i ≠ 10 + 8 * l + 0 → i ≠ 10 + 8 * l + 1 → r' i = r i) : Inv r' tc oc (fun x => if x = l then s' else sl x) (fun x => if x = l then 0 else ph x) mn := by
  obtain ⟨⟨a1, a2⟩, ⟨b1, b2⟩, c, d, e, f, g, kk⟩ := h
  have m6 : ∀ l, l < 2 → mn l ≤ 6 := fun l hl => (c l hl).2.2.2
  have s24 : ∀ l, l < 2 → sl l ≤ 24 := fun l hl => (c l hl).1.2.2
  refine ⟨⟨by rw [hs 1 (by decide +kernel) (by omega) (by omega), a1], a2⟩, ⟨by rw [hs 2 (by decide +kernel) (by omega) (by omega), b1], b2⟩, ?_, ?_, ?_, ?_, ?_, ?_⟩
  · intro l' hl'
    obtain ⟨c1, c2, c3⟩ := c l' hl'
    unfold InvL
    rw [hs _ (zL4 hl') (by omega) (by omega)]
    dsimp only
    by_cases hh : l' = l
    · subst hh
      rw [if_pos rfl, if_pos rfl]
      exact ⟨⟨h0, hs2, hs24⟩, ⟨h1, by omega⟩, c3⟩
    · rw [if_neg hh, if_neg hh, hs _ (zL0 hl') (by omega) (by omega), hs _ (zL1 hl') (by omega) (by omega)]
      exact ⟨c1, c2, c3⟩
  · intro l' n' hl' hn'
    have h6' : n' < 6 := Nat.lt_of_lt_of_le hn' (m6 l' hl')
    obtain ⟨d1, d2⟩ := d l' n' hl' hn'
    unfold InvS
    rw [hs _ (zS0 hl' h6') (by omega) (by omega), hs _ (zS5 hl' h6') (by omega) (by omega)]
    refine ⟨?_, d2⟩
    dsimp only
    by_cases hh : l' = l
    · subst hh
      rw [if_pos rfl]
      exact hoff n' hn'
    · rw [if_neg hh]
      exact d1
  · intro l' n' k hl' w2 w3
    rw [hs _ (zV hl' w2 w3) (by omega) (by omega)]
    exact e l' n' k hl' w2 w3
  · intro o ho
    have h4 : o < 4 := Nat.lt_of_lt_of_le ho b2
    unfold InvO
    rw [hs _ (zO0 h4) (by omega) (by omega), hs _ (zO4 h4) (by omega) (by omega), hs _ (zO6 h4) (by omega) (by omega), hs _ (zO7 h4) (by omega) (by omega), hs _ (zO8 h4) (by omega) (by omega), hs _ (zO9 h4) (by omega) (by omega)]
    exact f o ho
  · intro t ht
    have h4 : t < 40 := Nat.lt_of_lt_of_le ht a2
    have q := g t ht
    have hn := hno t ht
    unfold InvT at q ⊢
    rw [hs _ (zT1 h4) (by omega) (by omega), hs _ (zT2 h4) (by omega) (by omega), hs _ (zT3 h4) (by omega) (by omega), hs _ (zT14 h4) (by omega) (by omega), hs _ (zT6 h4) (by omega) (by omega), hs _ (zT4 h4) (by omega) (by omega), hs _ (zT7 h4) (by omega) (by omega), hs _ (zT8 h4) (by omega) (by omega)]
    obtain ⟨q1, q2, q3, q4, s, q5, q6, q7, q8, q9⟩ := q
    refine ⟨q1, q2, q3, q4, s, q5, q6, q7, fun hz => ?_, q9⟩
    obtain ⟨l', j, w1, w2, w3, w4, w5⟩ := q8 hz
    have := s24 l' w1
    have hll : l' ≠ l := by
      rintro rfl
      exact hn ⟨by rw [q6, hz]; rfl, w3⟩
    exact ⟨l', j, w1, by dsimp only; rw [if_neg hll]; exact w2, w3, w4, by rw [hs _ (zE w1 (by omega)) (by omega) (by omega), w5]⟩
  · intro l' j hl' hj
    unfold InvE
    rw [hs _ (zE hl' hj) (by omega) (by omega)]
    rcases kk l' j hl' hj with q | ⟨t, q1, q2, q3, q4, q5⟩
    · exact Or.inl q
    · have h4 : t < 40 := Nat.lt_of_lt_of_le q1 a2
      exact Or.inr ⟨t, q1, q2, by rw [hs _ (zT6 h4) (by omega) (by omega), q3], by rw [hs _ (zT7 h4) (by omega) (by omega), q4], by rw [hs _ (zT8 h4) (by omega) (by omega), q5]⟩
theorem off_at (h : SS X r tc oc sl ph mn) (hl : l < 2) (hk : k < mn l) : sR Y r 1 (((f_X9_stationAt ((10 * nI l) + nI k)) + 0).toNatClampNeg) = r (74 + 10 * (6 * l + k) + 0) ∧ vp_in ((f_X9_stationAt ((10 * nI l) + nI k)) + 0) 974 := by
  have h6 := h.mn6 hl
  have hA : 74 + 10 * (6 * l + k) < 194 := by omega
  rw [e10n, st_at hl (by omega), iS0 (by omega)]
  exact ⟨rfl, vS0 (by omega)⟩
theorem build_0 {K : Int32 → Nat → Int32 × gM} {KO : Int32 → Nat → Prop} {a2 : Int32} (h : SS X r tc oc sl ph mn) (hl : l < 2) : ∀ d k f, k + d = mn l → d < f → lf_X9_build_40 (nI l) a2 (sR Y r) K f 0 k = K 0 (mn l) ∧ (KO 0 (mn l) → lok_X9_build_40 (nI l) a2 (sR Y r) KO f 0 k) := by
  have h6 := h.mn6 hl
  have hm : r (10 + 8 * l + 4) = nI (mn l) := (h.lin hl).2.2.1
  have hr : f_X9_ofLine (sR Y r) (nI l) 4 = nI (mn l) := by rw [rf_line4 hl, sR_1, hm]
  intro d
  induction d with
  | zero =>
    intro k f hk hf
    obtain ⟨g, rfl⟩ : ∃ g, f = g + 1 := ⟨f - 1, by omega⟩
    have e : k = mn l := by omega
    have hle : nI (mn l) ≤ nI k := nI_le (by omega) (by omega)
    simp only [lf_X9_build_40, lok_X9_build_40, hr, if_pos hle]
    rw [e]
    exact ⟨rfl, fun q => ⟨ro_line4 hl, q⟩⟩
  | succ d ih =>
    intro k f hk hf
    obtain ⟨g, rfl⟩ : ∃ g, f = g + 1 := ⟨f - 1, by omega⟩
    have hle : ¬ nI (mn l) ≤ nI k := nI_ge (by omega) (by omega)
    obtain ⟨b1, b2⟩ := ih (k + 1) g (by omega) (by omega)
    simp only [lf_X9_build_40, lok_X9_build_40, hr, if_neg hle, if_true]
    exact ⟨b1, fun q => ⟨ro_line4 hl, b2 q⟩⟩
theorem build_1 {K : Int32 → Nat → Int32 × gM} {KO : Int32 → Nat → Prop} {a2 : Int32} (h : SS X r tc oc sl ph mn) (hl : l < 2) : ∀ d k f1 f2, k + d = mn l → d < f1 → d < f2 → (lf_X0_hasOffsetFrom_2 X (1 + 15 * l) a2 (fun _ => 0) f1 k = 0 ∧ lf_X9_build_40 (nI l) a2 (sR Y r) K f2 1 k = K 1 (mn l) ∧ (∀ n, k ≤ n → n < mn l → r (74 + 10 * (6 * l + n) + 0) < a2) ∧ (KO 1 (mn l) → lok_X9_build_40 (nI l) a2 (sR Y r) KO f2 1 k)) ∨ (lf_X0_hasOffsetFrom_2 X (1 + 15 * l) a2 (fun _ => 0) f1 k = 1 ∧ lf_X9_build_40 (nI l) a2 (sR Y r) K f2 1 k = K 0 (mn l) ∧ (KO 0 (mn l) → lok_X9_build_40 (nI l) a2 (sR Y r) KO f2 1 k)) := by
  have h6 := h.mn6 hl
  have hm : r (10 + 8 * l + 4) = nI (mn l) := (h.lin hl).2.2.1
  have hr : f_X9_ofLine (sR Y r) (nI l) 4 = nI (mn l) := by rw [rf_line4 hl, sR_1, hm]
  have hx : X (1 + 15 * l) 3 = nI (mn l) := by rw [h.1.g (LL4 hl), hm]
  intro d
  induction d with
  | zero =>
    intro k f1 f2 hk hf1 hf2
    obtain ⟨g1, rfl⟩ : ∃ g, f1 = g + 1 := ⟨f1 - 1, by omega⟩
    obtain ⟨g2, rfl⟩ : ∃ g, f2 = g + 1 := ⟨f2 - 1, by omega⟩
    have e : k = mn l := by omega
    have hle : nI (mn l) ≤ nI k := nI_le (by omega) (by omega)
    simp only [lf_X9_build_40, lok_X9_build_40, lf_X0_hasOffsetFrom_2, hr, hx, if_pos hle]
    refine Or.inl ⟨trivial, by rw [e], fun n h1 h2 => by omega, fun q => ⟨ro_line4 hl, by rw [e]; exact q⟩⟩
  | succ d ih =>
    intro k f1 f2 hk hf1 hf2
    obtain ⟨g1, rfl⟩ : ∃ g, f1 = g + 1 := ⟨f1 - 1, by omega⟩
    obtain ⟨g2, rfl⟩ : ∃ g, f2 = g + 1 := ⟨f2 - 1, by omega⟩
    have hle : ¬ nI (mn l) ≤ nI k := nI_ge (by omega) (by omega)
    have hle6 : ¬ (6 : Int32) ≤ nI k := nI_ge (b := 6) (by omega) (by decide)
    have hk6 : k < 6 := by omega
    obtain ⟨p1, p2⟩ := off_at (Y := Y) h hl (show k < mn l by omega)
    have x5 : X (1 + 15 * l + 2 + 1 + 2 * k) 5 = r (74 + 10 * (6 * l + k) + 0) := h.1.g (LS0 hl hk6)
    simp only [lf_X9_build_40, lok_X9_build_40, lf_X0_hasOffsetFrom_2, hr, hx, if_neg hle, if_neg hle6, x5, p1, if_neg (show ¬ (1 : Int32) = 0 by decide)]
    by_cases hc : r (74 + 10 * (6 * l + k) + 0) < a2
    · have hc' : ¬ a2 ≤ r (74 + 10 * (6 * l + k) + 0) := Int32.not_le.mpr hc
      simp only [if_pos hc, if_neg hc']
      rcases ih (k + 1) g1 g2 (by omega) (by omega) (by omega) with ⟨q1, q2, q3, q4⟩ | ⟨q1, q2, q3⟩
      · refine Or.inl ⟨q1, q2, fun n h1 h2 => ?_, fun q => ⟨ro_line4 hl, p2, q4 q⟩⟩
        by_cases hn : n = k
        · rw [hn]
          exact hc
        · exact q3 n (by omega) h2
      · exact Or.inr ⟨q1, q2, fun q => ⟨ro_line4 hl, p2, q3 q⟩⟩
    · have hc' : a2 ≤ r (74 + 10 * (6 * l + k) + 0) := Int32.not_lt.mp hc
      simp only [if_neg hc, if_pos hc']
      obtain ⟨b1, b2⟩ := build_0 (Y := Y) (K := K) (KO := KO) (a2 := a2) h hl d (k + 1) g2 (by omega) (by omega)
      exact Or.inr ⟨trivial, b1, fun q => ⟨ro_line4 hl, p2, b2 q⟩⟩
theorem s_build (h : Rl X Y) (a1 a2 : Int32) : (p_X8_build X a1 a2).1 = (p_X9_build Y a1 a2).1 ∧ Rl (p_X8_build X a1 a2).2 (p_X9_build Y a1 a2).2 ∧ ok_X9_build Y a1 a2 := by
  obtain ⟨tc, oc, sl, ph, mn, hs⟩ := h.1
  obtain ⟨Y1, e1, h1, R1, o1, -, -⟩ := rec_use h hs
  have h40 := hs.tc4
  unfold p_X8_build p_X9_build ok_X9_build
  rcases line_arg a1 with ⟨w1, w2⟩ | ⟨l, hl, rfl, w1, w2⟩
  · rw [w1, w2, if_pos rfl, if_pos rfl, if_pos rfl]
    exact ⟨rfl, h, trivial⟩
  · rw [w1, w2, if_neg (show ¬ (1 : Int32) = 0 by decide), if_neg (show ¬ (1 : Int32) = 0 by decide), if_neg (show ¬ (1 : Int32) = 0 by decide), lineOf_n hl, in_eq]
    by_cases hw : f_X8_within a2 2 24 = 0
    · rw [if_pos hw, if_pos hw, if_pos hw]
      exact ⟨rfl, h, trivial⟩
    · rw [if_neg hw, if_neg hw, if_neg hw]
      obtain ⟨s', s2, s24, rfl⟩ : ∃ p, 2 ≤ p ∧ p ≤ 24 ∧ a2 = nI p := by
        unfold f_X8_within at hw
        by_cases q1 : a2 < 2
        · rw [if_pos q1] at hw
          exact absurd rfl hw
        · rw [if_neg q1] at hw
          by_cases q2 : 24 < a2
          · rw [if_pos q2] at hw
            exact absurd rfl hw
          · have q0 : ¬ a2 < 0 := by
              rw [Int32.lt_iff_toInt_lt] at q1 ⊢
              have e1 : (2 : Int32).toInt = 2 := by decide
              have e0 : (0 : Int32).toInt = 0 := by decide
              omega
            obtain ⟨p, hp, rfl⟩ := nI_of q0
            have q1' : ¬ nI p < nI 2 := q1
            have q2' : ¬ nI 24 < nI p := q2
            rw [nI_ltI hp (by omega)] at q1'
            rw [nI_ltI (by omega) hp] at q2'
            exact ⟨p, by omega, by omega, rfl⟩
      obtain ⟨n1, n2⟩ := R_on (Y := Y) (nI l) 1 hs.r1 h40
      rw [sR_id] at n1 n2
      have hrl : f_X9_ofLine Y (nI l) 0 = nI (sl l) := by rw [rf_line0 hl]; exact (hs.lin hl).1.1
      have hx4 : vw 0 X (1 + 15 * l) 4 = nI (sl l) := by rw [hs.1.g (LL0 hl)]; exact (hs.lin hl).1.1
      rw [n1, X_riderCount (r := Y 1) l (1 + 15 * l) (fun k hk => hs.1.g (LE hl hk)), ride_cn hs hl, hrl, hx4, e1]
      have cl := cn_le (bOn (Y 1) (nI l) 1) tc
      by_cases hc : cn (bOn (Y 1) (nI l) 1) tc = 0
      · have hc' : nI (cn (bOn (Y 1) (nI l) 1) tc) = 0 := by rw [hc]; rfl
        have hc2 : ¬ 0 < nI (cn (bOn (Y 1) (nI l) 1) tc) := by rw [hc']; decide
        rw [if_neg hc2, if_pos hc', if_pos hc']
        have B := fun K KO => build_1 (Y := Y) (K := K) (KO := KO) (a2 := nI s') hs hl (mn l) 0 7 2147483648 (by omega) (by have := hs.mn6 hl; omega) (by have := hs.mn6 hl; omega)
        simp only [sR_id] at B
        rcases B _ _ with ⟨q1, q2, q3, q4⟩ | ⟨q1, q2, q3⟩
        · rw [q2]
          have q1' : f_X0_hasOffsetFrom (vw 0 X) (1 + 15 * l) (nI s') = 0 := q1
          rw [q1', if_pos rfl]
          dsimp only
          rw [if_neg (show ¬ (1 : Int32) = 0 by decide)]
          by_cases he : nI (sl l) = nI s'
          · rw [if_pos he, if_pos he]
            refine ⟨rfl, h, n2, q4 ?_⟩
            rw [if_neg (show ¬ (1 : Int32) = 0 by decide), if_pos he]
            exact ⟨ro_line0 hl, trivial⟩
          · rw [if_neg he, if_neg he]
            have hS : SS (p_X0_rebuild (vw 0 (p_X8_recordState X)) (1 + 15 * l) (nI s')) (upd (upd (upd (Y 1) (10 + 8 * l + 0) (nI s')) (10 + 8 * l + 1) 0) (10 + 8 * l + 2) 0) tc oc (fun x => if x = l then s' else sl x) (fun x => if x = l then 0 else ph x) mn := by
              obtain ⟨hPS, hOn, hLg, hInv⟩ := h1
              simp only [p_X0_rebuild]
              refine ⟨PS.set (LL2 hl) pk_us (PS.set (LL1 hl) (by rw [pk_un (by omega), pk_us]) (PS.set (LL0 hl) (by rw [pk_un (by omega), pk_un (by omega), pk_us]) (PS.rset (by simp) (PS.rset (by simp) (PS.rset (by simp) hPS.w0))))), fun u hu h1 => ?_, hLg.same (fun j => ?_) (fun j => ?_) (fun i hi => ?_), hInv.build hl ?_ ?_ s2 s24 ?_ (fun u hu => nobody hs hc hu) ?_⟩
              · simp (disch := omega) only [pk_un, updM_n] at h1 ⊢
                exact hOn u hu h1
              · simp (disch := omega) only [updM_n]
              · simp (disch := omega) only [updM_n]
              · simp (disch := omega) only [pk_un]
              · simp (disch := omega) only [pk_un, pk_us]
              · simp (disch := omega) only [pk_un, pk_us]
                rfl
              · intro n hn
                obtain ⟨⟨o, o1, o2⟩, -⟩ := hs.sta hl hn
                have := q3 n (by omega) hn
                rw [o2, nI_ltI (by have := (hs.lin hl).1.2.2; omega) (by omega)] at this
                exact ⟨o, this, o2⟩
              · intro i hi n1 n2
                rw [pk_un (nz hi (yL2 hl)), pk_un n2, pk_un n1]
            refine ⟨rfl, ?_, n2, q4 ?_⟩
            · simp only [ri_line0 hl, ri_line1 hl, ri_line2 hl, sR_u1]
              exact R1.act hS.se
            rw [if_neg (show ¬ (1 : Int32) = 0 by decide), if_neg he]
            exact ⟨ro_line0 hl, o1, fun X1 _ => ⟨rv_line0 hl, fun X2 _ => ⟨rv_line1 hl, fun X3 _ => ⟨rv_line2 hl, trivial⟩⟩⟩⟩
        · rw [q2]
          have q1' : f_X0_hasOffsetFrom (vw 0 X) (1 + 15 * l) (nI s') = 1 := q1
          rw [q1', if_neg (show ¬ (1 : Int32) = 0 by decide)]
          dsimp only
          rw [if_pos rfl]
          refine ⟨rfl, h, n2, q3 ?_⟩
          rw [if_pos rfl]
          trivial
      · have hc' : ¬ nI (cn (bOn (Y 1) (nI l) 1) tc) = 0 := nI_ne0 (by omega) (by omega)
        have hc2 : 0 < nI (cn (bOn (Y 1) (nI l) 1) tc) := nI_lt (a := 0) (by omega) (by omega)
        rw [if_pos hc2, if_neg hc', if_neg hc']
        have B := fun K KO => build_0 (Y := Y) (K := K) (KO := KO) (a2 := nI s') hs hl (mn l) 0 2147483648 (by omega) (by have := hs.mn6 hl; omega)
        simp only [sR_id] at B
        rw [(B _ (fun _ _ => True)).1]
        dsimp only
        rw [if_pos rfl]
        refine ⟨rfl, h, n2, (B (fun _ _ => (0, X)) _).2 ?_⟩
        rw [if_pos rfl]
        trivial
end ACTS4
