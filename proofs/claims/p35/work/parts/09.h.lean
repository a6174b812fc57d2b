/-! readTickets: both sides -/
section READT
variable {X Y : gM}
def kRT (f : Nat) (Z : gM) : Int32 → Int32 × gM := fun _ => if (Z 1 1) + (Z 0 12) ≤ 40 then lf_X9_readTickets_113 (fun X3 x_1 _ => (x_1, X3)) f (p_X9_records Z) 0 0 else ((-3), Z)
def kOK (f : Nat) (Z : gM) : Int32 → Prop := fun _ => if (Z 1 1) + (Z 0 12) ≤ 40 then (ok_X9_records Z) ∧ ∀ X2 : gM, X2 = p_X9_records Z → lok_X9_readTickets_113 (fun _ _ _ => True) f X2 0 0 else True
def RTf (f : Nat) (Z : gM) : Int32 × gM := if Z 0 10 = 0 then lf_X9_readTickets_21 Z (kRT f Z) f 0 else ((-100) - (Z 0 9), Z)
def RTo (f : Nat) (Z : gM) : Prop := if Z 0 10 = 0 then lok_X9_readTickets_21 Z (kOK f Z) f 0 else True
theorem RT_eq : p_X9_readTickets X = RTf 4294967296 (p_X9_readAll X) := rfl
theorem RT_ok0 : ok_X9_readTickets X = (ok_X9_readAll X ∧ ∀ X1 : gM, X1 = p_X9_readAll X → RTo 4294967296 X1) := rfl
theorem RT_ok {f : Nat} (hf : f = 4294967296) (h : ok_X9_readAll X) (g : ∀ X1 : gM, X1 = p_X9_readAll X → RTo f X1) : ok_X9_readTickets X := by
  rw [RT_ok0, ← hf]
  exact ⟨h, g⟩
theorem has40 : ∀ k, k < 46 → (if (40 : Int32) < nI k then (0 : Int32) else 1) = if k ≤ 40 then 1 else 0 := by decide +kernel
theorem leT : ∀ k, k < 46 → (nI k ≤ 40 ↔ k ≤ 40) := by decide +kernel
theorem readT_sim {V Zf : gM} {m : Nat} (hR : Rl V Zf) (h3 : vx V 0 3 = nI m) (h12 : Zf 0 12 = nI m) (h10 : Zf 0 10 = 0) (m5 : m ≤ 5) (hT : TRs m (vx V) Zf) (y1 : Int32) (f : Nat) (hf : 5 < f) : ∀ R : Int32 × gM, R = (if f_X8_firstRefusal V = 0 then if f_X3_hasTickets (vw 0 V) (vx V 0 3) = 0 then ((-3), V) else lf_X8_readTickets_63 y1 (f_X8_firstRefusal V) (vw 0 (p_X8_recordState V) 0 10) (fun X3 _ => ((vw 0 X3 0 10) - (vw 0 (p_X8_recordState V) 0 10), X3)) 6 (p_X8_recordState V) 0 else (f_X8_firstRefusal V, V)) → R.1 = (RTf f Zf).1 ∧ Rl R.2 (RTf f Zf).2 ∧ RTo f Zf := by
  intro R hRR
  obtain ⟨tc, oc, sl, ph, mn, hs⟩ := hR.1
  have z0 : nI (5 * 0) = 0 := by decide +kernel
  have tc4 := hs.tc4
  have v5 : vw 0 V 0 5 = nI tc := by rw [hs.1.g LK1, hs.r1]
  have z1 : Zf 1 1 = nI tc := hs.r1
  have eH : f_X3_hasTickets (vw 0 V) (vx V 0 3) = if tc + m ≤ 40 then 1 else 0 := by
    unfold f_X3_hasTickets
    rw [v5, h3, nI_add, has40 _ (by omega)]
  have eL : ((Zf 1 1) + (Zf 0 12) ≤ 40) = (tc + m ≤ 40) := by
    rw [z1, h12, nI_add]
    exact propext (leT _ (by omega))
  rw [eH] at hRR
  unfold RTf RTo
  rw [if_pos h10, if_pos h10]
  have big := fr_loop (K := kRT f Zf) (KO := kOK f Zf) hs rfl h3 h12 m5 hT m 0 6 f (by omega) (by omega) (by omega)
  rw [z0] at big
  rcases big with ⟨b1, b2, b3, b4⟩ | ⟨e, he, b1, b2, b3⟩
  · have eF : f_X8_firstRefusal V = 0 := b1
    rw [b2]
    rw [eF, if_pos rfl] at hRR
    by_cases h40 : tc + m ≤ 40
    · rw [if_pos h40, if_neg (show ¬ (1 : Int32) = 0 by decide)] at hRR
      obtain ⟨Y1, u1, u2, u3, u4, u5, u6⟩ := rec_use hR hs
      have k12 : Y1 0 12 = nI m := (u6.2 12 (by decide)).trans h12
      have k6 : Y1 6 = Zf 6 := u6.1 6 (by decide) (by decide)
      have kx : ∀ c, c < 9 → vx (p_X8_recordState V) c = vx V c := fun c hc => u5.1 (371 + c) (by omega) (by omega) (by omega)
      have kP : vw 0 (p_X8_recordState V) 0 10 = Zf 1 3 := u2.1.g LK3
      obtain ⟨V', r', sum', i1, i2, i3, i4, i5⟩ := adm_loop (y1 := y1) (y2 := 0) (y3 := vw 0 (p_X8_recordState V) 0 10) (K := fun X3 _ => ((vw 0 X3 0 10) - (vw 0 (p_X8_recordState V) 0 10), X3)) (K' := fun X3 x_1 _ => (x_1, X3)) (U := Y1) (P := Zf 1 3) k12 m5 m 0 6 f (p_X8_recordState V) (Zf 1) tc 0 (by omega) (by omega) (by omega) u2 u3 (by omega) (by rw [kx 0 (by decide)]; exact h3) (fun j hj i hi => by rw [kx _ (by omega), k6]; exact hT j hj i hi) (fun j hj => by rw [kx _ (by omega)]; exact b3 j (by omega) hj) (by rw [Int32.add_zero])
      rw [z0] at i2 i5
      rw [i1] at hRR
      have eK : kRT f Zf (nI (5 * m)) = (sum', sR Y1 r') := by
        unfold kRT
        rw [if_pos (by rw [eL]; exact h40), u1, i2]
      rw [eK, hRR]
      refine ⟨?_, i3, b4 ?_⟩
      · show vw 0 V' 0 10 - vw 0 (p_X8_recordState V) 0 10 = sum'
        rw [i4, kP, Int32.add_comm, Int32.add_sub_cancel]
      · unfold kOK
        rw [if_pos (by rw [eL]; exact h40)]
        refine ⟨u4, fun X2 e2 => ?_⟩
        rw [e2, u1]
        exact i5
    · rw [if_neg h40, if_pos rfl] at hRR
      have eK : kRT f Zf (nI (5 * m)) = ((-3), Zf) := by
        unfold kRT
        rw [if_neg (by rw [eL]; exact h40)]
      rw [eK, hRR]
      refine ⟨rfl, hR, b4 ?_⟩
      unfold kOK
      rw [if_neg (by rw [eL]; exact h40)]
      exact trivial
  · have eF : f_X8_firstRefusal V = e := b1
    rw [b2]
    rw [eF, if_neg (by rcases he with z | z <;> rw [z] <;> decide)] at hRR
    rw [hRR]
    exact ⟨rfl, hR, b3⟩
theorem s_readTickets (h : Rl X Y) : (p_X8_readTickets X).1 = (p_X9_readTickets Y).1 ∧ Rl (p_X8_readTickets X).2 (p_X9_readTickets Y).2 ∧ ok_X9_readTickets Y := by
  obtain ⟨n, n60, x2, y7, hc⟩ := h.2.2.2.2
  obtain ⟨Zf, hZ⟩ : ∃ Z : gM, Z = p_X9_readAll Y := ⟨_, rfl⟩
  have rs := read_sim h.2.2.2.2
  rw [← hZ] at rs
  obtain ⟨n', n60', ⟨hcase, w1, w2, fa⟩, okA⟩ := rs
  have hR : Rl (putX X (p_X6_findFault (vx X)).2) Zf := by
    refine h.txt (fun a ha => putX_o ha) (fa.1 1 (by decide) (by decide)) (fa.1 2 (by decide) (by decide)) (fa.1 3 (by decide) (by decide)) (fa.2 2 (by decide) (by decide) (by decide)) (fa.2 4 (by decide) (by decide) (by decide)) ⟨n, n60, ?_, ?_, fun k hk => ?_⟩
    · refine (congrFun (putX_i (c := 0) (by decide)) 2).trans ?_
      rw [w2]
      exact x2
    · rw [fa.2 7 (by decide) (by decide) (by decide), y7]
    · refine (congrFun (putX_i (c := 1) (by decide)) k).trans ?_
      rw [w1, fa.1 5 (by decide) (by decide)]
      exact hc k hk
  obtain ⟨f, hf⟩ : ∃ f : Nat, f = 4294967296 := ⟨_, rfl⟩
  rw [RT_eq, ← hf, ← hZ]
  unfold p_X8_readTickets
  dsimp only
  rcases hcase with ⟨m, m1, m5, q1, q2, q3, q4, q5⟩ | ⟨p, hp, q1, q2, q3⟩
  · rw [q1, if_pos (show (-5 : Int32) < 0 by decide)]
    obtain ⟨a, b, c⟩ := readT_sim hR ((congrFun (putX_i (c := 0) (by decide)) 3).trans q2) q3 q4 m5 (fun j hj i hi => (congrFun (putX_i (c := 3 + j) (by omega)) i).trans (q5 j hj i hi)) (-5) f (by omega) _ rfl
    exact ⟨a, b, RT_ok hf okA (fun Z' e => by rw [e.trans hZ.symm]; exact c)⟩
  · have hn : ¬ nI p < 0 := nI_pos (by omega)
    rw [q1, if_neg hn]
    unfold RTf
    have h1 : ¬ Zf 0 10 = 0 := by rw [q2]; decide
    rw [if_neg h1, q3]
    refine ⟨rfl, hR, RT_ok hf okA (fun Z' e => ?_)⟩
    rw [e.trans hZ.symm]
    unfold RTo
    rw [if_neg h1]
    exact trivial
end READT
