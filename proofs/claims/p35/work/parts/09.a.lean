/-! fate: both sides -/
section FATE
variable {oc : Nat} {sl mn : Nat → Nat}
/-- only the trial has changed -/
def FT (Z Z' : gM) : Prop := ∀ a, (a < 247 ∨ 370 ≤ a) → Z' a = Z a
theorem FT.put {Z W : gM} : FT Z (putS Z 2 W) := by
  intro a ha
  unfold putS
  rw [off2]
  funext j
  rw [if_neg (by omega)]
theorem FT.tr {Z Z1 Z2 : gM} (h : FT Z Z1) (g : FT Z1 Z2) : FT Z Z2 := fun a ha => by rw [g a ha, h a ha]
theorem FT.fx {Z Z' : gM} (h : FT Z Z') : FX Z Z' := ⟨fun a ha => h a (by omega), by rw [h 0 (by omega)], by rw [h 0 (by omega)], by rw [h 371 (by omega)]⟩
theorem fate_loop {t : Nat} {a1 a2 : Int32} {d3 : Nat} : ∀ d k f1 f2 (Z Y : gM) (r : Nat → Int32) (tc : Nat) (ph : Nat → Nat), k + d = 301 → d < f1 → d < f2 → SS (vw 2 Z) r tc oc sl ph mn → t < tc → ∃ a Z' r' v, lf_X8_fate_61 a1 a2 d3 (35 + 2 * t) (fun X3 _ => ((-5), X3)) f1 Z k = (a, Z') ∧ lf_X9_fateOf_2 (nI t) a2 (fun X1 _ => ((-5), X1)) f2 (sR Y r) k = (a, sR (updM Y 0 8 v) r') ∧ FT Z Z' ∧ lok_X9_fateOf_2 (nI t) a2 (fun _ _ => True) f2 (sR Y r) k := by
  intro d
  induction d with
  | zero =>
    intro k f1 f2 Z Y r tc ph hk hf1 hf2 h ht
    obtain ⟨g1, rfl⟩ : ∃ g, f1 = g + 1 := ⟨f1 - 1, by omega⟩
    obtain ⟨g2, rfl⟩ : ∃ g, f2 = g + 1 := ⟨f2 - 1, by omega⟩
    have e : k = 301 := by omega
    subst e
    have hlt : (300 : Int32) < nI 301 := by decide +kernel
    simp only [lf_X8_fate_61, lf_X9_fateOf_2, lok_X9_fateOf_2, if_pos hlt]
    exact ⟨(-5), Z, r, Y 0 8, rfl, by rw [updM_id], fun _ _ => rfl, trivial⟩
  | succ d ih =>
    intro k f1 f2 Z Y r tc ph hk hf1 hf2 h ht
    obtain ⟨g1, rfl⟩ : ∃ g, f1 = g + 1 := ⟨f1 - 1, by omega⟩
    obtain ⟨g2, rfl⟩ : ∃ g, f2 = g + 1 := ⟨f2 - 1, by omega⟩
    have hlt : ¬ (300 : Int32) < nI k := nI_nlt (a := 300) (by omega) (by decide)
    obtain ⟨r2, tc2, ph2, v, t1, t2, t3, t4, t5⟩ := tick_sim (Y := Y) h
    have h2 : SS (vw 2 (putS Z 2 (p_X3_passTick (vw 2 Z)))) r2 tc2 oc sl ph2 mn := t2.cg (fun _ _ hc => vw_put2 hc) (fun _ _ => rfl)
    have h40 := h2.tc4
    have ht2 : t < tc2 := by omega
    have ht4 : t < 40 := by omega
    obtain ⟨_, _, _, _, s, s8, es, _, _, _⟩ := h2.tik ht2
    have o6 : f_X9_of (sR (updM Y 0 8 v) r2) (nI t) 6 = nI s := by rw [rf_of6 ht4, sR_1, es]
    have o12 : f_X9_of (sR (updM Y 0 8 v) r2) (nI t) 12 = r2 (294 + 17 * t + 12) := rf_of12 ht4
    have o4 : f_X9_of (sR (updM Y 0 8 v) r2) (nI t) 4 = r2 (294 + 17 * t + 4) := rf_of4 ht4
    have x4 : vw 2 (putS Z 2 (p_X3_passTick (vw 2 Z))) (35 + 2 * t) 4 = nI s := by rw [h2.1.g (LT6 ht4), es]
    have x10 : vw 2 (putS Z 2 (p_X3_passTick (vw 2 Z))) (35 + 2 * t) 10 = r2 (294 + 17 * t + 12) := h2.1.g (LT12 ht4)
    have x2 : vw 2 (putS Z 2 (p_X3_passTick (vw 2 Z))) (35 + 2 * t) 2 = r2 (294 + 17 * t + 4) := h2.1.g (LT4 ht4)
    simp only [lf_X8_fate_61, lf_X9_fateOf_2, lok_X9_fateOf_2, if_neg hlt, t1, f_X5_hasEnded, f_X8_fateTold, x4, x10, x2, o6, o12, o4]
    by_cases hs3 : s < 3
    · have hs3' : nI s < 3 := nI_lt (b := 3) hs3 (by decide)
      simp only [if_pos hs3', if_true]
      obtain ⟨a, Z', r', w, q1, q2, q3, q4⟩ := ih (k + 1) g1 g2 (putS Z 2 (p_X3_passTick (vw 2 Z))) (updM Y 0 8 v) r2 tc2 ph2 (by omega) (by omega) (by omega) h2 ht2
      rw [updM_tw] at q2
      refine ⟨a, Z', r', w, q1, q2, FT.put.tr q3, t5, fun X1 ex => ?_⟩
      subst ex
      rw [o6, if_pos hs3']
      exact ⟨ro_of6 ht4, q4⟩
    · have hs3' : ¬ nI s < 3 := nI_nlt (a := s) (b := 3) (by omega) (by omega)
      simp only [if_neg hs3', if_neg (show ¬ (1 : Int32) = 0 by decide)]
      have ok : ∀ X1 : gM, X1 = sR (updM Y 0 8 v) r2 → (ok_X9_of X1 (nI t) 6) ∧ (if f_X9_of X1 (nI t) 6 < 3 then lok_X9_fateOf_2 (nI t) a2 (fun _ _ => True) g2 X1 (k + 1) else (if a2 = 0 then (ok_X9_of X1 (nI t) 6) ∧ True else (if a2 = 1 then True else (if a2 = 2 then (ok_X9_of X1 (nI t) 12) ∧ True else (ok_X9_of X1 (nI t) 4) ∧ True)))) := by
        intro X1 ex
        subst ex
        rw [o6, if_neg hs3']
        refine ⟨ro_of6 ht4, ?_⟩
        split
        · exact ⟨ro_of6 ht4, trivial⟩
        · split
          · trivial
          · split
            · exact ⟨ro_of12 ht4, trivial⟩
            · exact ⟨ro_of4 ht4, trivial⟩
      refine ⟨_, putS Z 2 (p_X3_passTick (vw 2 Z)), r2, v, rfl, ?_, FT.put, t5, ok⟩
      by_cases z0 : a2 = 0
      · rw [if_pos z0, if_pos z0]
      rw [if_neg z0, if_neg z0]
      by_cases z1 : a2 = 1
      · rw [if_pos z1, if_pos z1]
      rw [if_neg z1, if_neg z1]
      by_cases z2 : a2 = 2
      · rw [if_pos z2, if_pos z2]
      rw [if_neg z2, if_neg z2]
end FATE
def rAs (Y : gM) (k : Nat) : gM := fun a => if a = 4 then (fun i => if k ≤ i ∧ i < 974 then Y 1 i else Y 4 i) else Y a
theorem aside_loop {a1 a2 : Int32} {K : gM → Nat → Int32 × gM} {KO : gM → Nat → Prop} : ∀ d k f (Y : gM), k + d = 974 → d < f → lf_X9_fate_38 a1 a2 K f Y k = K (rAs Y k) 974 ∧ (KO (rAs Y k) 974 → lok_X9_fate_38 a1 a2 KO f Y k) := by
  intro d
  induction d with
  | zero =>
    intro k f Y hk hf
    obtain ⟨g, rfl⟩ : ∃ g, f = g + 1 := ⟨f - 1, by omega⟩
    have e : k = 974 := by omega
    subst e
    have hle : (974 : Int32) ≤ nI 974 := by decide +kernel
    have e2 : rAs Y 974 = Y := by
      funext a
      unfold rAs
      by_cases ha : a = 4
      · rw [if_pos ha, ha]
        funext i
        rw [if_neg (by omega)]
      · rw [if_neg ha]
    simp only [lf_X9_fate_38, lok_X9_fate_38, if_pos hle, e2]
    exact ⟨trivial, fun q => q⟩
  | succ d ih =>
    intro k f Y hk hf
    obtain ⟨g, rfl⟩ : ∃ g, f = g + 1 := ⟨f - 1, by omega⟩
    have hle : ¬ (974 : Int32) ≤ nI k := nI_ge (b := 974) (by omega) (by decide)
    obtain ⟨b1, b2⟩ := ih (k + 1) g (updM Y 4 k (Y 1 k)) (by omega) (by omega)
    have e2 : rAs (updM Y 4 k (Y 1 k)) (k + 1) = rAs Y k := by
      funext a
      unfold rAs
      by_cases ha : a = 4
      · rw [if_pos ha, if_pos ha]
        funext i
        by_cases h1 : i = k
        · subst h1
          rw [if_neg (by omega), if_pos (by omega), updM_ss]
        · by_cases h3 : k ≤ i ∧ i < 974
          · rw [if_pos (by omega), if_pos h3, updM_n (by decide)]
          · rw [if_neg (by omega), if_neg h3, updM_sn h1]
      · rw [if_neg ha, if_neg ha, updM_o ha]
    rw [e2] at b1 b2
    simp only [lf_X9_fate_38, lok_X9_fate_38, if_neg hle]
    refine ⟨b1, fun q X1 e1 => ?_⟩
    subst e1
    exact b2 q
theorem back_loop {Y : gM} {a1 a2 y3 : Int32} {K : gM → Nat → Int32 × gM} : ∀ d k f (r : Nat → Int32), k + d = 974 → d < f → lf_X9_fate_73 a1 a2 y3 K f (sR Y r) k = K (sR Y (fun i => if k ≤ i ∧ i < 974 then Y 4 i else r i)) 974 ∧ lok_X9_fate_73 a1 a2 y3 (fun _ _ => True) f (sR Y r) k := by
  intro d
  induction d with
  | zero =>
    intro k f r hk hf
    obtain ⟨g, rfl⟩ : ∃ g, f = g + 1 := ⟨f - 1, by omega⟩
    have e : k = 974 := by omega
    subst e
    have hle : (974 : Int32) ≤ nI 974 := by decide +kernel
    have e2 : (fun i => if 974 ≤ i ∧ i < 974 then Y 4 i else r i) = r := by
      funext i
      rw [if_neg (by omega)]
    simp only [lf_X9_fate_73, lok_X9_fate_73, if_pos hle]
    rw [e2]
    exact ⟨rfl, trivial⟩
  | succ d ih =>
    intro k f r hk hf
    obtain ⟨g, rfl⟩ : ∃ g, f = g + 1 := ⟨f - 1, by omega⟩
    have hle : ¬ (974 : Int32) ≤ nI k := nI_ge (b := 974) (by omega) (by decide)
    have y4 : sR Y r 4 k = Y 4 k := rfl
    obtain ⟨b1, b2⟩ := ih (k + 1) g (upd r k (Y 4 k)) (by omega) (by omega)
    have e2 : (fun i => if k + 1 ≤ i ∧ i < 974 then Y 4 i else upd r k (Y 4 k) i) = (fun i => if k ≤ i ∧ i < 974 then Y 4 i else r i) := by
      funext i
      by_cases h1 : i = k
      · subst h1
        rw [if_neg (by omega), if_pos (by omega), pk_us]
      · by_cases h3 : k ≤ i ∧ i < 974
        · rw [if_pos (by omega), if_pos h3]
        · rw [if_neg (by omega), if_neg h3, pk_un h1]
    rw [e2] at b1
    simp only [lf_X9_fate_73, lok_X9_fate_73, if_neg hle, y4, sR_u1]
    rw [b1]
    refine ⟨rfl, fun X1 e1 => ?_⟩
    subst e1
    exact b2
theorem s_fate {X Y : gM} (h : Rl X Y) (a1 a2 : Int32) : (p_X8_fate X a1 a2).1 = (p_X9_fate Y a1 a2).1 ∧ Rl (p_X8_fate X a1 a2).2 (p_X9_fate Y a1 a2).2 ∧ ok_X9_fate Y a1 a2 := by
  obtain ⟨tc, oc, sl, ph, mn, hs⟩ := h.1
  have h40 := hs.tc4
  unfold p_X8_fate p_X9_fate ok_X9_fate
  have ar := ticket_arg (Y := Y) hs a1
  rw [sR_id] at ar
  rcases ar with ⟨w1, w2⟩ | ⟨t, ht, rfl, w1, w2⟩
  · rw [w1, w2, if_pos rfl, if_pos rfl]
    exact ⟨rfl, h, trivial⟩
  · have ht4 : t < 40 := by omega
    obtain ⟨_, _, _, _, s, s8, es, _, _, _⟩ := hs.tik ht
    have v6 : f_X9_of Y (nI t) 6 = nI s := by rw [rf_of6 ht4, es]
    have x4 : vw 0 X (35 + 2 * t) 4 = nI s := by rw [hs.1.g (LT6 ht4), es]
    rw [w1, w2, if_neg (show ¬ (1 : Int32) = 0 by decide), if_neg (show ¬ (1 : Int32) = 0 by decide), in_eq, v6]
    simp only [gOpt]
    unfold f_X5_hasEnded
    rw [x4]
    by_cases hw : f_X8_within a2 0 3 = 0
    · rw [if_pos hw, if_pos hw, if_pos hw]
      exact ⟨rfl, h, trivial⟩
    · rw [if_neg hw, if_neg hw, if_neg hw]
      by_cases hs3 : s < 3
      · have hs3' : nI s < 3 := nI_lt (b := 3) hs3 (by decide)
        rw [if_pos hs3', if_pos rfl, if_pos hs3', if_pos hs3']
        have h2 : SS (vw 2 (putS X 2 (vw 0 X))) (Y 1) tc oc sl ph mn := hs.cg (fun _ _ hc => vw_put2 hc) (fun _ _ => rfl)
        have w3 : f_X3_ticketOf (vw 2 (putS X 2 (vw 0 X))) (nI t) = some (35 + 2 * t) := ticketOf_n (by rw [h2.1.g LK1, h2.r1]) h40 ht
        rw [w3]
        dsimp only
        have y1 : rAs Y 0 1 = Y 1 := rfl
        have eY : rAs Y 0 = sR (rAs Y 0) (Y 1) := by
          have := sR_id (Y := rAs Y 0)
          rw [y1] at this
          exact this.symm
        obtain ⟨a, Z', r', v, q1, q2, q3, q4⟩ := fate_loop (t := t) (a1 := nI t) (a2 := a2) (d3 := 35 + 2 * t) 300 1 2147483648 2147483648 (putS X 2 (vw 0 X)) (rAs Y 0) (Y 1) tc ph (by omega) (by omega) (by omega) h2 ht
        have q2' : p_X9_fateOf (rAs Y 0) (nI t) a2 = (a, sR (updM (rAs Y 0) 0 8 v) r') := by
          refine Eq.trans ?_ q2
          rw [← eY]
          rfl
        have q4' : ok_X9_fateOf (rAs Y 0) (nI t) a2 := by
          rw [← eY] at q4
          exact q4
        have A := fun K KO => aside_loop (a1 := nI t) (a2 := a2) (K := K) (KO := KO) 974 0 2147483648 Y rfl (by omega)
        have B := fun K => back_loop (Y := updM (rAs Y 0) 0 8 v) (a1 := nI t) (a2 := a2) (y3 := a) (K := K) 974 0 2147483648 r' rfl (by omega)
        have eP : lf_X9_fate_38 (nI t) a2 (fun X1 _ => lf_X9_fate_73 (nI t) a2 ((p_X9_fateOf X1 (nI t) a2).1) (fun X3 _ => ((p_X9_fateOf X1 (nI t) a2).1, X3)) 2147483648 (p_X9_fateOf X1 (nI t) a2).2 0) 2147483648 Y 0 = (a, sR (updM (rAs Y 0) 0 8 v) (fun i => if 0 ≤ i ∧ i < 974 then updM (rAs Y 0) 0 8 v 4 i else r' i)) := by
          rw [(A _ (fun _ _ => True)).1, q2']
          exact (B _).1
        have hR : Rl Z' (sR (updM (rAs Y 0) 0 8 v) (fun i => if 0 ≤ i ∧ i < 974 then updM (rAs Y 0) 0 8 v 4 i else r' i)) := by
          have fx : FX X Z' := (FT.put.tr q3).fx
          refine h.fr (hs.se.cg (fun q j hq => ?_) (fun i hi => ?_)) fx ?_
          · exact congrFun ((FT.put.tr q3) (off 0 + q) (by rw [off0]; omega)) j
          · rw [sR_1, if_pos (by omega), updM_n (by decide)]
            unfold rAs
            rw [if_pos rfl, if_pos (by omega)]
          · refine ⟨?_, ?_, ?_, ?_, ?_, ?_⟩
            · show updM (rAs Y 0) 0 8 v 2 = Y 2
              exact updM_o (by decide)
            · show updM (rAs Y 0) 0 8 v 3 = Y 3
              exact updM_o (by decide)
            · show updM (rAs Y 0) 0 8 v 5 = Y 5
              exact updM_o (by decide)
            · show updM (rAs Y 0) 0 8 v 0 2 = Y 0 2
              exact updM_sn (by decide)
            · show updM (rAs Y 0) 0 8 v 0 4 = Y 0 4
              exact updM_sn (by decide)
            · show updM (rAs Y 0) 0 8 v 0 7 = Y 0 7
              exact updM_sn (by decide)
        refine ⟨?_, ?_, ro_of6 ht4, ?_⟩
        · have e1 := congrArg Prod.fst eP
          have e2 := congrArg Prod.fst q1
          dsimp only at e1 e2
          exact e2.trans e1.symm
        · have e1 := congrArg Prod.snd eP
          have e2 := congrArg Prod.snd q1
          refine cast ?_ hR
          exact congr (congrArg Rl e2.symm) e1.symm
        · refine (A (fun X _ => (0, X)) _).2 ⟨q4', fun X2 ex => ?_⟩
          rw [q2'] at ex ⊢
          subst ex
          exact (B (fun X _ => (0, X))).2
      · have hs3' : ¬ nI s < 3 := nI_nlt (a := s) (b := 3) (by omega) (by omega)
        rw [if_neg hs3', if_neg (show ¬ (1 : Int32) = 0 by decide), if_neg hs3', if_neg hs3']
        exact ⟨rfl, h, ro_of6 ht4, trivial⟩
