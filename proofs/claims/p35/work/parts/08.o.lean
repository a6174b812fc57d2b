/-! the whole object and the whole reference; what is recorded -/
theorem zr_lt : ∀ i, zr i = true → i < 974 := by
  intro i hi
  by_cases h1 : i < 974
  · exact h1
  · unfold zr at hi
    rw [if_neg (by omega), if_neg (by omega), if_neg (by omega), if_neg (by omega), if_neg (by omega), if_neg (by omega), if_neg (by omega), if_neg h1] at hi
    exact absurd hi (by decide)
theorem SS.cg {X X' : gM} {r r' : Nat → Int32} {tc oc : Nat} {sl ph mn : Nat → Nat} (h : SS X r tc oc sl ph mn) (hx : ∀ c j, c < 123 → X' c j = X c j) (hr : ∀ i, i < 974 → r' i = r i) : SS X' r' tc oc sl ph mn := by
  have h40 := h.tc4
  obtain ⟨hPS, hOn, hLg, hInv⟩ := h
  have hq : ∀ k, k < 974 → zc k < 123 := by decide +kernel
  refine ⟨fun i hi he => ?_, fun t ht h1 => ?_, hLg.same (fun j => hx _ _ (by decide)) (fun j => hx _ _ (by decide)) (fun i hi => hr i (by omega)), hInv.same (fun i hi => hr i (zr_lt i hi))⟩
  · rw [hx _ _ (hq i (z_lt hi)), hr i (z_lt hi), hPS i hi he]
  · rw [hx _ _ (by omega), hr _ (by omega), hr _ (by omega)]
    rw [hr _ (by omega)] at h1
    exact hOn t ht h1
theorem SE.cg {X X' : gM} {r r' : Nat → Int32} (h : SE X r) (hx : ∀ c j, c < 123 → X' c j = X c j) (hr : ∀ i, i < 974 → r' i = r i) : SE X' r' := by
  obtain ⟨tc, oc, sl, ph, mn, hs⟩ := h
  exact ⟨tc, oc, sl, ph, mn, hs.cg hx hr⟩
def hp (X : gM) (k : Nat) : Nat := (X 370 k).toNatClampNeg
def Hi (X Y : gM) : Prop := ∃ h, h ≤ 4 ∧ X 0 6 = nI h ∧ Y 0 2 = nI h ∧ ∀ k, k < h → SE (vw (hp X k) X) (fun i => Y 2 (974 * k + i))
def HP (X : gM) : Prop := ∀ j, j < 4 → 3 ≤ hp X j ∧ hp X j < 7 ∧ ∀ j', j' < 4 → hp X j = hp X j' → j = j'
def Ks (X Y : gM) : Prop := (X 0 7 = 0 ∧ Y 0 4 = 0) ∨ (X 0 7 = 1 ∧ Y 0 4 = 1 ∧ SE (vw 1 X) (Y 3))
def Tx (X Y : gM) : Prop := ∃ n, n ≤ 60 ∧ X 371 2 = nI n ∧ Y 0 7 = nI n ∧ ∀ k, k < n → X 372 k = Y 5 k
/-- the object and the reference -/
def Rl (X Y : gM) : Prop := SE (vw 0 X) (Y 1) ∧ Hi X Y ∧ HP X ∧ Ks X Y ∧ Tx X Y
theorem off0 : off 0 = 1 := rfl
theorem off1 : off 1 = 124 := rfl
theorem off2 : off 2 = 247 := rfl
theorem off3 {k : Nat} (h : 3 ≤ k) : off k = 11 + 123 * k := if_neg (by omega)
theorem HP.ok {X : gM} (h : HP X) : HOK X := fun j hj => ⟨(h j hj).1, (h j hj).2.1⟩
/-- nothing but the state of now, the trial, what is asked and the reader's own has changed -/
def FX (X X' : gM) : Prop := (∀ a, (124 ≤ a ∧ a < 247 ∨ a = 370 ∨ a = 372 ∨ 380 ≤ a) → X' a = X a) ∧ X' 0 6 = X 0 6 ∧ X' 0 7 = X 0 7 ∧ X' 371 2 = X 371 2
def FY (Y Y' : gM) : Prop := Y' 2 = Y 2 ∧ Y' 3 = Y 3 ∧ Y' 5 = Y 5 ∧ Y' 0 2 = Y 0 2 ∧ Y' 0 4 = Y 0 4 ∧ Y' 0 7 = Y 0 7
theorem FX.rf {X : gM} : FX X X := ⟨fun _ _ => rfl, rfl, rfl, rfl⟩
theorem FY.rf {Y : gM} : FY Y Y := ⟨rfl, rfl, rfl, rfl, rfl, rfl⟩
theorem FX.tr {X X1 X2 : gM} (h : FX X X1) (g : FX X1 X2) : FX X X2 := ⟨fun a ha => by rw [g.1 a ha, h.1 a ha], by rw [g.2.1, h.2.1], by rw [g.2.2.1, h.2.2.1], by rw [g.2.2.2, h.2.2.2]⟩
theorem FY.tr {X X1 X2 : gM} (h : FY X X1) (g : FY X1 X2) : FY X X2 := ⟨by rw [g.1, h.1], by rw [g.2.1, h.2.1], by rw [g.2.2.1, h.2.2.1], by rw [g.2.2.2.1, h.2.2.2.1], by rw [g.2.2.2.2.1, h.2.2.2.2.1], by rw [g.2.2.2.2.2, h.2.2.2.2.2]⟩
theorem vw_put0 {X Z : gM} {c j : Nat} (hc : c < 123) : vw 0 (putS X 0 Z) c j = Z c j := by
  unfold vw putS
  rw [off0, if_pos (by omega), Nat.add_sub_cancel_left]
theorem vw_put2 {X Z : gM} {c j : Nat} (hc : c < 123) : vw 2 (putS X 2 Z) c j = Z c j := by
  unfold vw putS
  rw [off2, if_pos (by omega), Nat.add_sub_cancel_left]
theorem vw0_put2 {X Z : gM} {c j : Nat} (hc : c < 123) : vw 0 (putS X 2 Z) c j = vw 0 X c j := by
  unfold vw putS
  rw [off2, off0, if_neg (by omega)]
theorem FX.put0 {X Z : gM} : FX X (putS X 0 Z) := by
  refine ⟨fun a ha => ?_, ?_, ?_, ?_⟩
  · unfold putS
    rw [off0, if_neg (by omega)]
  all_goals
    unfold putS
    rw [off0, if_neg (by omega)]
theorem FX.put2 {X Z : gM} : FX X (putS X 2 Z) := by
  refine ⟨fun a ha => ?_, ?_, ?_, ?_⟩
  · unfold putS
    rw [off2, if_neg (by omega)]
  all_goals
    unfold putS
    rw [off2, if_neg (by omega)]
theorem FX.upd0 {X : gM} {c j : Nat} {v : Int32} (hc : c < 123) : FX X (updM X (off 0 + c) j v) := by
  rw [off0]
  refine ⟨fun a ha => ?_, ?_, ?_, ?_⟩
  · exact updM_o (by omega)
  all_goals exact updM_n (by omega)
theorem FY.sR {Y : gM} {r : Nat → Int32} : FY Y (sR Y r) := ⟨rfl, rfl, rfl, rfl, rfl, rfl⟩
theorem FY.a8 {Y : gM} {v : Int32} : FY Y (updM Y 0 8 v) := ⟨updM_o (by decide), updM_o (by decide), updM_o (by decide), updM_sn (by decide), updM_sn (by decide), updM_sn (by decide)⟩
theorem Rl.fr {X Y X' Y' : gM} (h : Rl X Y) (hs : SE (vw 0 X') (Y' 1)) (hX : FX X X') (hY : FY Y Y') : Rl X' Y' := by
  obtain ⟨-, ⟨n, h4, a1, a2, a3⟩, b, c, ⟨m, d1, d2, d3, d4⟩⟩ := h
  obtain ⟨x1, x2, x3, x4⟩ := hX
  obtain ⟨y1, y2, y3, y4, y5, y6⟩ := hY
  have e370 : ∀ k, hp X' k = hp X k := fun k => by unfold hp; rw [x1 370 (by omega)]
  refine ⟨hs, ⟨n, h4, by rw [x2, a1], by rw [y4, a2], fun k hk => ?_⟩, ?_, ?_, m, d1, by rw [x4, d2], by rw [y6, d3], fun k hk => by rw [x1 372 (by omega), y3, d4 k hk]⟩
  · rw [e370, y1]
    refine (a3 k hk).cg (fun q j hq => ?_) (fun _ _ => rfl)
    have := (b k (by omega)).1
    unfold vw
    rw [x1 _ (by rw [off3 this]; omega)]
  · intro j hj
    rw [e370]
    refine ⟨(b j hj).1, (b j hj).2.1, fun j' hj' => ?_⟩
    rw [e370]
    exact (b j hj).2.2 j' hj'
  · rcases c with ⟨c1, c2⟩ | ⟨c1, c2, c3⟩
    · exact Or.inl ⟨by rw [x3, c1], by rw [y5, c2]⟩
    · refine Or.inr ⟨by rw [x3, c1], by rw [y5, c2], ?_⟩
      rw [y2]
      refine c3.cg (fun q j hq => ?_) (fun _ _ => rfl)
      unfold vw
      rw [x1 _ (by rw [off1]; omega)]
/-! what is recorded, the reference -/
theorem i974 {h k : Nat} (hh : h ≤ 4) (hk : k < 974) : ((974 * nI h) + nI k).toNatClampNeg = 974 * h + k := by
  show ((nI 974 * nI h) + nI k).toNatClampNeg = _
  rw [nI_mul, nI_add, c1 (by omega)]
theorem v974 {h k : Nat} (hh : h < 4) (hk : k < 974) : vp_in ((974 * nI h) + nI k) 3896 := by
  show vp_in ((nI 974 * nI h) + nI k) 3896
  rw [nI_mul, nI_add]
  exact vp_in_nI (by omega) (by decide)
def rRec (Y : gM) (h k : Nat) : gM := fun a => if a = 2 then (fun i => if 974 * h + k ≤ i ∧ i < 974 * h + 974 then Y 1 (i - 974 * h) else Y 2 i) else Y a
theorem rec_loop {K : gM → Nat → gM} {h : Nat} (hh : h < 4) : ∀ d k f (Y : gM), k + d = 974 → d < f → Y 0 2 = nI h → lf_X9_records_51 K f Y k = K (rRec Y h k) 974 ∧ lok_X9_records_51 (fun _ _ => True) f Y k := by
  intro d
  induction d with
  | zero =>
    intro k f Y hk hf h2
    obtain ⟨g, rfl⟩ : ∃ g, f = g + 1 := ⟨f - 1, by omega⟩
    have e : k = 974 := by omega
    subst e
    have hle : (974 : Int32) ≤ nI 974 := by decide +kernel
    have e2 : rRec Y h 974 = Y := by
      funext a
      unfold rRec
      by_cases ha : a = 2
      · rw [if_pos ha, ha]
        funext i
        rw [if_neg (by omega)]
      · rw [if_neg ha]
    simp only [lf_X9_records_51, lok_X9_records_51, if_pos hle, e2]
    exact ⟨trivial, trivial⟩
  | succ d ih =>
    intro k f Y hk hf h2
    obtain ⟨g, rfl⟩ : ∃ g, f = g + 1 := ⟨f - 1, by omega⟩
    have hle : ¬ (974 : Int32) ≤ nI k := nI_ge (b := 974) (by omega) (by decide)
    have hk9 : k < 974 := by omega
    obtain ⟨b1, b2⟩ := ih (k + 1) g (updM Y 2 (974 * h + k) (Y 1 k)) (by omega) (by omega) (by rw [updM_n (by decide), h2])
    have e2 : rRec (updM Y 2 (974 * h + k) (Y 1 k)) h (k + 1) = rRec Y h k := by
      funext a
      unfold rRec
      by_cases ha : a = 2
      · rw [if_pos ha, if_pos ha]
        funext i
        by_cases h1 : i = 974 * h + k
        · subst h1
          rw [if_neg (by omega), if_pos (by omega), updM_ss, Nat.add_sub_cancel_left]
        · by_cases h3 : 974 * h + k ≤ i ∧ i < 974 * h + 974
          · rw [if_pos (by omega), if_pos h3, updM_n (by decide)]
          · rw [if_neg (by omega), if_neg h3, updM_sn h1]
      · rw [if_neg ha, if_neg ha, updM_o ha]
    simp only [lf_X9_records_51, lok_X9_records_51, if_neg hle, h2, i974 (show h ≤ 4 by omega) hk9]
    rw [b1, e2]
    refine ⟨rfl, v974 hh hk9, fun X1 e1 => ?_⟩
    subst e1
    exact b2
def rMov (Y : gM) (k : Nat) : gM := fun a => if a = 2 then (fun i => if k ≤ i ∧ i < 2922 then Y 2 (i + 974) else Y 2 i) else Y a
theorem mov_loop {K : gM → Nat → gM} {KO : gM → Nat → Prop} : ∀ d k f (Y : gM), k + d = 2922 → d < f → lf_X9_records_10 K f Y k = K (rMov Y k) 2922 ∧ (KO (rMov Y k) 2922 → lok_X9_records_10 KO f Y k) := by
  intro d
  induction d with
  | zero =>
    intro k f Y hk hf
    obtain ⟨g, rfl⟩ : ∃ g, f = g + 1 := ⟨f - 1, by omega⟩
    have e : k = 2922 := by omega
    subst e
    have hle : (2922 : Int32) ≤ nI 2922 := by decide +kernel
    have e2 : rMov Y 2922 = Y := by
      funext a
      unfold rMov
      by_cases ha : a = 2
      · rw [if_pos ha, ha]
        funext i
        rw [if_neg (by omega)]
      · rw [if_neg ha]
    simp only [lf_X9_records_10, lok_X9_records_10, if_pos hle, e2]
    exact ⟨trivial, fun q => q⟩
  | succ d ih =>
    intro k f Y hk hf
    obtain ⟨g, rfl⟩ : ∃ g, f = g + 1 := ⟨f - 1, by omega⟩
    have hle : ¬ (2922 : Int32) ≤ nI k := nI_ge (b := 2922) (by omega) (by decide)
    have ei : (nI (k + 974)).toNatClampNeg = k + 974 := c1 (by omega)
    obtain ⟨b1, b2⟩ := ih (k + 1) g (updM Y 2 k (Y 2 (k + 974))) (by omega) (by omega)
    have e2 : rMov (updM Y 2 k (Y 2 (k + 974))) (k + 1) = rMov Y k := by
      funext a
      unfold rMov
      by_cases ha : a = 2
      · rw [if_pos ha, if_pos ha]
        funext i
        by_cases h1 : i = k
        · subst h1
          rw [if_neg (by omega), if_pos (by omega), updM_ss]
        · by_cases h3 : k ≤ i ∧ i < 2922
          · rw [if_pos (by omega), if_pos h3, updM_sn (by omega)]
          · rw [if_neg (by omega), if_neg h3, updM_sn h1]
      · rw [if_neg ha, if_neg ha, updM_o ha]
    rw [e2] at b1 b2
    simp only [lf_X9_records_10, lok_X9_records_10, if_neg hle, ei]
    refine ⟨b1, fun q => ⟨vp_in_nI (by omega) (by decide), fun X1 e1 => ?_⟩⟩
    subst e1
    exact b2 q
