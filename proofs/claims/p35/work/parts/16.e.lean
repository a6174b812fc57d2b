/-! what change and lays do to an object -/
section CHL
variable {X : gM}
def AKI (X : gM) (r : Int32 × gM) : Prop := Ac X r ∧ KA r.2 ∧ Iv r.2
theorem aki_build (hI : Iv X) (h : KA X) (a1 a2 : Int32) : AKI X (p_X8_build X a1 a2) := ⟨act_build hI a1 a2, kA_build hI h a1 a2, I_build hI a1 a2⟩
theorem aki_setHeat (hI : Iv X) (h : KA X) (a1 a2 : Int32) : AKI X (p_X8_setHeat X a1 a2) := ⟨act_setHeat hI h.now a1 a2, kA_setHeat hI h a1 a2, I_setHeat hI a1 a2⟩
theorem aki_setFare (hI : Iv X) (h : KA X) (a1 : Int32) : AKI X (p_X8_setFare X a1) := ⟨act_setFare hI h.now a1, kA_setFare hI h a1, I_setFare hI a1⟩
theorem aki_setPatience (hI : Iv X) (h : KA X) (a1 : Int32) : AKI X (p_X8_setPatience X a1) := ⟨act_setPatience hI h.now a1, kA_setPatience hI h a1, I_setPatience hI a1⟩
theorem aki_drain (hI : Iv X) (h : KA X) (a1 : Int32) : AKI X (p_X8_drain X a1) := ⟨act_drain hI a1, kA_drain hI h a1, I_drain hI a1⟩
theorem aki_cancel (hI : Iv X) (h : KA X) (a1 : Int32) : AKI X (p_X8_cancel X a1) := ⟨act_cancel hI h.now a1, kA_cancel hI h a1, I_cancel hI a1⟩
theorem aki_call (hI : Iv X) (h : KA X) (a1 a2 : Int32) : AKI X (p_X8_call X a1 a2) := ⟨act_call hI a1 a2, kA_call hI h a1 a2, I_call hI a1 a2⟩
theorem aki_callBack (hI : Iv X) (h : KA X) (a1 : Int32) : AKI X (p_X8_callBack X a1) := ⟨act_callBack hI h.now a1, kA_callBack hI h a1, I_callBack hI a1⟩
theorem aki_order (hI : Iv X) (h : KA X) (a1 a2 : Int32) : AKI X (p_X8_order X a1 a2) := ⟨act_order hI a1 a2, kA_order hI h a1 a2, I_order hI a1 a2⟩
theorem aki_endOrder (hI : Iv X) (h : KA X) (a1 : Int32) : AKI X (p_X8_endOrder X a1) := ⟨act_endOrder hI h.now a1, kA_endOrder hI h a1, I_endOrder hI a1⟩
theorem aki_tick (hI : Iv X) (h : KA X) (a1 : Int32) : AKI X (p_X8_tick X a1) := ⟨act_tick hI a1, kA_tick hI h a1, I_tick hI a1⟩
theorem aki_book (hI : Iv X) (h : KA X) (a1 a2 a3 a4 a5 : Int32) : AKI X (p_X8_book X a1 a2 a3 a4 a5) := ⟨act_book hI a1 a2 a3 a4 a5, kA_book hI h a1 a2 a3 a4 a5, I_book hI a1 a2 a3 a4 a5⟩
theorem aki_ite {c : Prop} [Decidable c] {a b : Int32 × gM} (ha : AKI X a) (hb : AKI X b) : AKI X (if c then a else b) := by
  split
  · exact ha
  · exact hb
theorem aki_eta {r : Int32 × gM} (h : AKI X r) : AKI X (r.1, r.2) := h
set_option maxHeartbeats 8000000 in
set_option maxRecDepth 100000 in
theorem aki_change (hI : Iv X) (h : KA X) (x : Int32) : AKI X (p_L_change X x) := by
  unfold p_L_change
  dsimp only
  repeat' (with_reducible refine aki_ite ?_ ?_)
  all_goals with_reducible refine aki_eta ?_
  all_goals first
    | with_reducible exact aki_build hI h _ _
    | with_reducible exact aki_setHeat hI h _ _
    | with_reducible exact aki_setFare hI h _
    | with_reducible exact aki_setPatience hI h _
    | with_reducible exact aki_drain hI h _
    | with_reducible exact aki_cancel hI h _
    | with_reducible exact aki_call hI h _ _
    | with_reducible exact aki_callBack hI h _
    | with_reducible exact aki_order hI h _ _
    | with_reducible exact aki_endOrder hI h _
    | with_reducible exact aki_tick hI h _
    | with_reducible exact aki_book hI h _ _ _ _ _
theorem bd_c {v : Int32} {Z : gM} (h : -5 ≤ v.toInt ∧ v.toInt ≤ 24) : -5 ≤ ((v, Z) : Int32 × gM).1.toInt ∧ ((v, Z) : Int32 × gM).1.toInt ≤ 24 := h
theorem bd_build (hI : Iv X) (a1 a2 : Int32) : -5 ≤ (p_X8_build X a1 a2).1.toInt ∧ (p_X8_build X a1 a2).1.toInt ≤ 24 := by
  obtain ⟨Y, hR⟩ := id hI
  obtain ⟨tc, oc, sl, ph, mn, hs⟩ := hR.1
  unfold p_X8_build
  rcases line_arg a1 with ⟨e1, -⟩ | ⟨l, hl, rfl, e1, -⟩
  · rw [e1, if_pos rfl]
    exact bd_c (by decide)
  · rw [e1, if_neg (show ¬ (1 : Int32) = 0 by decide), lineOf_n hl]
    split
    · exact bd_c (by decide)
    · split
      · exact bd_c (by decide)
      · split
        · split
          · exact bd_c (by decide)
          · dsimp only
            have hL := (hs.lin hl).1
            rw [hs.1.g (LL0 hl), hL.1, nI_toInt (by omega)]
            omega
        · exact bd_c (by decide)
theorem bd_addStation (hI : Iv X) (a1 a2 : Int32) : -5 ≤ (p_X8_addStation X a1 a2).1.toInt ∧ (p_X8_addStation X a1 a2).1.toInt ≤ 24 := by
  obtain ⟨Y, hR⟩ := id hI
  obtain ⟨tc, oc, sl, ph, mn, hs⟩ := hR.1
  obtain ⟨Y1, -, h1, -, -, -, -⟩ := rec_use hR hs
  unfold p_X8_addStation
  rcases line_arg a1 with ⟨e1, -⟩ | ⟨l, hl, rfl, e1, -⟩
  · rw [e1, if_pos rfl]
    exact bd_c (by decide)
  · rw [e1, if_neg (show ¬ (1 : Int32) = 0 by decide), lineOf_n hl]
    split
    · exact bd_c (by decide)
    · split
      · split
        · dsimp only
          have hM := (h1.lin hl).2.2
          have hm6 := hM.2
          unfold p_X0_openStation
          split
          · rw [h1.1.g (LL4 hl), hM.1, nI_toInt (by omega)]
            omega
          · dsimp only
            rw [h1.1.g (LL4 hl), hM.1, nI_toInt (by omega)]
            omega
        · exact bd_c (by decide)
      · exact bd_c (by decide)
theorem part_3 (a : Int32) : -3 < (f_L_part a 3).toInt ∧ (f_L_part a 3).toInt < 3 := by
  obtain ⟨n, hn, e⟩ : ∃ n, n < 2147483648 ∧ a &&& 2147483647 = nI n := ⟨_, Nat.mod_lt _ (by decide), pk_and a 31 (by decide +kernel)⟩
  unfold f_L_part
  rw [e, show (nI n - nI n / 3 * 3 : Int32) = nI (n % 3) from pk_rem (d := 3) hn (by decide) (by decide), nI_toInt (by omega)]
  omega
theorem part_32 (a : Int32) : ((2 : Int32) + f_L_part a 3).toInt ≤ 4 := by
  have h := part_3 a
  rw [Int32.toInt_add, show (2 : Int32).toInt = 2 from by decide, Int.bmod_eq_of_le (by omega) (by omega)]
  omega
/-- so many acts are done, and their answers summed -/
def LB (Z : gM) (x : Int32) (c : Int) : Prop := Iv Z ∧ KA Z ∧ 0 ≤ c ∧ c ≤ 1000 ∧ -5 * c ≤ x.toInt ∧ x.toInt ≤ 24 * c
def LG (r : Int32 × gM) : Prop := Iv r.2 ∧ KA r.2 ∧ -60 ≤ r.1.toInt
theorem LB.mono {Z : gM} {x : Int32} {c d : Int} (h : LB Z x c) (h1 : c ≤ d) (h2 : d ≤ 1000) : LB Z x d := by
  obtain ⟨a, b, c1, c2, c3, c4⟩ := h
  exact ⟨a, b, by omega, h2, by omega, by omega⟩
theorem LB.add {Z Z' : gM} {x v : Int32} {c : Int} (h : LB Z x c) (hI : Iv Z') (hA : KA Z') (hv : -5 ≤ v.toInt ∧ v.toInt ≤ 24) (hc : c < 1000) : LB Z' (x + v) (c + 1) := by
  obtain ⟨a, b, c1, c2, c3, c4⟩ := h
  have e : (x + v).toInt = x.toInt + v.toInt := by
    rw [Int32.toInt_add, Int.bmod_eq_of_le (by omega) (by omega)]
  exact ⟨hI, hA, by omega, by omega, by omega, by omega⟩
theorem LB.as {Z : gM} {x : Int32} {c : Int} (h : LB Z x c) (a1 a2 : Int32) (hc : c < 1000) : LB (p_X8_addStation Z a1 a2).2 (x + (p_X8_addStation Z a1 a2).1) (c + 1) := h.add (I_addStation h.1 a1 a2) (kA_addStation h.1 h.2.1 a1 a2) (bd_addStation h.1 a1 a2) hc
theorem LB.bu {Z : gM} {x : Int32} {c : Int} (h : LB Z x c) (a1 a2 : Int32) (hc : c < 1000) : LB (p_X8_build Z a1 a2).2 (x + (p_X8_build Z a1 a2).1) (c + 1) := h.add (I_build h.1 a1 a2) (kA_build h.1 h.2.1 a1 a2) (bd_build h.1 a1 a2) hc
theorem lays_52 {a2 y4 y5 y6 : Int32} {k3 : Nat} {K : gM → Int32 → Nat → Int32 × gM} {b : Int} (hb : b ≤ 900) (h6 : y6.toInt ≤ 4) (hK : ∀ Z x k, LB Z x (b + 4) → LG (K Z x k)) : ∀ (n : Nat) (Z : gM) (x : Int32) (k : Nat), k ≤ 4 → LB Z x (b + k) → LG (lf_L_lays_52 a2 k3 y4 y5 y6 K n Z x k) := by
  intro n
  induction n with
  | zero =>
    intro Z x k hk h
    exact hK _ _ _ (h.mono (by omega) (by omega))
  | succ n ih =>
    intro Z x k hk h
    simp only [lf_L_lays_52]
    split
    · exact hK _ _ _ (h.mono (by omega) (by omega))
    · rename_i c
      have hk4 : k < 4 := by
        rw [Int32.le_iff_toInt_le, nI_toInt (by omega)] at c
        omega
      exact ih _ _ _ (by omega) (by rw [show b + ((k + 1 : Nat) : Int) = b + k + 1 by omega]; exact h.as _ _ (by omega))
theorem lays_4 {a2 : Int32} {K : gM → Int32 → Nat → Int32 × gM} (hK : ∀ Z x k, LB Z x 12 → LG (K Z x k)) : ∀ (n : Nat) (Z : gM) (x : Int32) (k : Nat), k ≤ 2 → LB Z x (6 * k) → LG (lf_L_lays_4 a2 K n Z x k) := by
  intro n
  induction n with
  | zero =>
    intro Z x k hk h
    exact hK _ _ _ (h.mono (by omega) (by omega))
  | succ n ih =>
    intro Z x k hk h
    simp only [lf_L_lays_4]
    split
    · exact hK _ _ _ (h.mono (by omega) (by omega))
    · rename_i c
      have hk2 : k < 2 := by
        rw [Int32.le_iff_toInt_le, nI_toInt (by omega), show (2 : Int32).toInt = 2 from by decide] at c
        omega
      refine lays_52 (b := 6 * k + 1) (by omega) (part_32 _) (fun Z' x' k' h' => ?_) _ _ _ _ (Nat.zero_le 4) (by rw [show (6 * (k : Int) + 1 + ((0 : Nat) : Int)) = 6 * k + 1 by omega]; exact h.bu _ _ (by omega))
      have fin : ∀ (Z : gM) (x : Int32), LB Z x (6 * (k : Int) + 6) → LG (lf_L_lays_4 a2 K n Z x (k + 1)) := fun Z x h => ih Z x (k + 1) (by omega) (by rw [show (6 * ((k + 1 : Nat) : Int)) = 6 * k + 6 by omega]; exact h)
      have st : ∀ a : Int32, LB (p_X8_addStation Z' (nI k) a).2 (x' + (p_X8_addStation Z' (nI k) a).1) (6 * (k : Int) + 6) := fun a => by
        have q := h'.as (nI k) a (by omega)
        rw [show (6 * (k : Int) + 6) = 6 * k + 1 + 4 + 1 by omega]
        exact q
      try dsimp only
      split
      · split
        · exact fin _ _ (st 1)
        · exact fin _ _ (st 0)
      · exact fin _ _ (h'.mono (by omega) (by omega))
theorem lays_all (hI : Iv X) (h : KA X) (x : Int32) : LG (p_L_lays X x) := by
  unfold p_L_lays
  refine lays_4 (fun Z x k h => ?_) _ _ _ _ (Nat.zero_le 2) ⟨hI, h, by omega, by omega, by decide, by decide⟩
  obtain ⟨a, b, c1, c2, c3, c4⟩ := h
  exact ⟨a, b, by
    show -60 ≤ x.toInt
    omega⟩
theorem KA.sm {X' : gM} (h : KA X) (g : Sm X X') : KA X' := by
  intro k hk hk2
  by_cases e0 : k = 0
  · subst e0
    exact h.now.cg g.1
  · by_cases e1 : k = 1
    · subst e1
      exact (h 1 (by decide) (by decide)).cg (fun c j hc => g.2.kp hc)
    · refine (h k hk hk2).cg (fun c j hc => ?_)
      show X' (off k + c) j = X (off k + c) j
      rw [g.2.1 _ (by rw [off3 (by omega)]; omega)]
end CHL
