def lf_X8_readTickets_63 (y_1 : Int32) (y_2 : Int32) (y_3 : Int32) (K : (gM) → (Nat) → (Int32 × gM)) : Nat → (gM) → (Nat) → (Int32 × gM)
  | 0, Z, k_4 => K Z k_4
  | n + 1, Z, k_4 =>
    if vx Z 0 3 ≤ nI k_4 then
      K Z k_4
    else
      if 5 ≤ nI k_4 then
        K Z k_4
      else
        let X1 := putS Z 0 ((p_X3_admit (vw 0 Z) (vx Z (3 + k_4))).2)
        lf_X8_readTickets_63 y_1 y_2 y_3 K n X1 (k_4 + 1)
def p_X8_readTickets (X : gM) : Int32 × gM :=
  let X1 := putX X ((p_X6_findFault (vx X)).2)
  if (p_X6_findFault (vx X)).1 < 0 then
    if f_X8_firstRefusal X1 = 0 then
      if f_X3_hasTickets (vw 0 X1) (vx X1 0 3) = 0 then
        ((-3), X1)
      else
        let X2 := p_X8_recordState X1
        lf_X8_readTickets_63 ((p_X6_findFault (vx X)).1) (f_X8_firstRefusal X1) (vw 0 X2 0 10) (fun X3 k_4w4 =>
              ((vw 0 X3 0 10) - (vw 0 X2 0 10), X3)) 6 X2 0
    else
      (f_X8_firstRefusal X1, X1)
  else
    ((-100) - ((p_X6_findFault (vx X)).1), X1)
set_option maxHeartbeats 4000000 in
set_option maxRecDepth 100000 in
theorem lp_X8_readTickets_63 {p : Program} {l : Launch} {e : Env} {s : State} {m : MethodId} {args : Array Value} {below : List Frame} {meth : Method} {c0 : Code} {D : va_G} {cy : Nat → ClassId} (C : gCtx cX8_readTickets 5 (some .int) RX8 wsX8_readTickets D cy p s m args meth c0) (β : Nat) (y_1 : Int32) (y_2 : Int32) (y_3 : Int32) 
    (K : (gM) → (Nat) → (Int32 × gM)) (hexit : ∀ (Z : gM) (k_4 : Nat), k_4 ≤ 5 → ∀ (H : Heap) (locs : List Loc) (ls : Array Slot), TR D cy β Z H → va_S (TA β) s.heap H locs → lv_has ls 5 [(0, .ref β), (1, .int y_1), (2, .int y_2), (3, .int y_3), (4, .int (nI k_4))] → W p l e { frames := 6, cells := 0, slots := 0, locals := 130 } s m args below meth c0 H locs 0 0 (MQ below (gQi (K Z k_4).1 (TR D cy β (K Z k_4).2) (TA β)) args s 0 0 (TA β)) (F0 m 112 ls [])) :
    ∀ (n : Nat) (Z : gM) (k_4 : Nat), k_4 ≤ 5 → 5 < k_4 + n → ∀ (H : Heap) (locs : List Loc) (ls : Array Slot), TR D cy β Z H → va_S (TA β) s.heap H locs → lv_has ls 5 [(0, .ref β), (1, .int y_1), (2, .int y_2), (3, .int y_3), (4, .int (nI k_4))] → W p l e { frames := 6, cells := 0, slots := 0, locals := 130 } s m args below meth c0 H locs 0 0 (MQ below (gQi (lf_X8_readTickets_63 y_1 y_2 y_3 K n Z k_4).1 (TR D cy β (lf_X8_readTickets_63 y_1 y_2 y_3 K n Z k_4).2) (TA β)) args s 0 0 (TA β)) (F0 m 63 ls []) := by
  obtain ⟨hx, hb, hr, hts, hown, hlocks, hml, hK⟩ := C
  have lk29 := hts (.fieldLink RX8 29 "MercuryLine" "text" "LMercuryLine$TicketText;") (by decide +kernel)
  have inX8 : ∀ w ∈ u_ws RX8 TX8 8, w ∈ wsX8_readTickets := by decide +kernel
  have lk200 := hts (.fieldLink RX8 200 "MercuryLine$TicketText" "tripCount" "I") (by decide +kernel)
  have inX6 : ∀ w ∈ u_ws RX6 TX6 5, w ∈ wsX8_readTickets := by decide +kernel
  have lk206 := hts (.fieldLink RX8 206 "MercuryLine$TicketText" "trips" "[LMercuryLine$Trip;") (by decide +kernel)
  have lk10 := hts (.fieldLink RX8 10 "MercuryLine" "now" "LMercuryLine$State;") (by decide +kernel)
  intro n
  induction n with
  | zero =>
    intro Z k_4 hb_4 hme
    exact absurd hme (by omega)
  | succ n ih =>
    intro Z k_4 hb_4 hme H locs ls hR hS hl
    refine lv_iload hx hb dX8_readTickets_63 (lv_at hl 4 rfl) ?_
    refine lv_aload_n hx hb dX8_readTickets_65 rfl (lv_at hl 0 rfl) ?_
    refine va_get (D := D) (ci := 8) (v := .ref (β + 371)) (C := RX8) (T := TX8) (N := 8) hx hb hts inX8 hown hK.1 (TR.mk0 hR) 0 rfl rfl 4 (by decide) lk29 (fun _ h9 => h9) rfl dX8_readTickets_66 ?_
    refine va_get (D := D) (ci := 6) (v := .int (vx Z 0 3)) (C := RX6) (T := TX6) (N := 5) hx hb hts inX6 hown hK.1 (XR.mk0 (TR.tx hR)) 0 rfl rfl 3 (by decide) lk200 (fun _ h9 => h9) rfl dX8_readTickets_69 ?_
    refine lv_icmp_ge (tgt := 112) hx hb dX8_readTickets_72 (by decide) (fun c_1 => ?_) (fun c_1 => ?_)
    · refine gm_q (Q2 := MQ below (gQi (K Z k_4).1 (TR D cy β (K Z k_4).2) (TA β)) args s 0 0 (TA β)) (by simp only [lf_X8_readTickets_63, ↓if_pos c_1]) ?_
      exact hexit Z k_4 hb_4  _ _ _ hR hS (lv_sub hl [0, 1, 2, 3, 4] rfl)
    · have lt_2 : k_4 < 2147483647 := g_big (Nat.lt_of_le_of_lt hb_4 (by decide)) c_1
      refine lv_iload hx hb dX8_readTickets_75 (lv_at hl 4 rfl) ?_
      refine lv_aload_n hx hb dX8_readTickets_77 rfl (lv_at hl 0 rfl) ?_
      refine va_get (D := D) (ci := 8) (v := .ref (β + 371)) (C := RX8) (T := TX8) (N := 8) hx hb hts inX8 hown hK.1 (TR.mk0 hR) 0 rfl rfl 4 (by decide) lk29 (fun _ h9 => h9) rfl dX8_readTickets_78 ?_
      refine va_get (D := D) (ci := 6) (v := .ref (β + 371 + 2)) (C := RX6) (T := TX6) (N := 5) hx hb hts inX6 hown hK.1 (XR.mk0 (TR.tx hR)) 0 rfl rfl 1 (by decide) lk206 (fun _ h9 => h9) rfl dX8_readTickets_81 ?_
      refine va_alen (v := 5) hx hb hK.1 (XR.mk1 (TR.tx hR) (c := 2) (by decide) (bX_32 (by decide))) 0 6 rfl rfl rfl dX8_readTickets_84 ?_
      refine lv_icmp_ge (tgt := 112) hx hb dX8_readTickets_85 (by decide) (fun c_3 => ?_) (fun c_3 => ?_)
      · have ge_4 : 5 ≤ k_4 := g_ge2 (Nat.lt_of_le_of_lt hb_4 (by decide)) (by decide) c_3
        refine gm_q (Q2 := MQ below (gQi (K Z k_4).1 (TR D cy β (K Z k_4).2) (TA β)) args s 0 0 (TA β)) (by simp only [lf_X8_readTickets_63, ↓if_neg c_1, ↓if_pos c_3]) ?_
        exact hexit Z k_4 hb_4  _ _ _ hR hS (lv_sub hl [0, 1, 2, 3, 4] rfl)
      · have lt_5 : k_4 < 5 := g_lt (Nat.lt_of_le_of_lt hb_4 (by decide)) (by decide) c_3
        refine lv_aload_n hx hb dX8_readTickets_88 rfl (lv_at hl 0 rfl) ?_
        refine va_get (D := D) (ci := 8) (v := .ref (β + off 0)) (C := RX8) (T := TX8) (N := 8) hx hb hts inX8 hown hK.1 (TR.mk0 hR) 0 rfl rfl 0 (by decide) lk10 (fun _ h9 => h9) rfl dX8_readTickets_89 ?_
        refine lv_aload_n hx hb dX8_readTickets_92 rfl (lv_at hl 0 rfl) ?_
        refine va_get (D := D) (ci := 8) (v := .ref (β + 371)) (C := RX8) (T := TX8) (N := 8) hx hb hts inX8 hown hK.1 (TR.mk0 hR) 0 rfl rfl 4 (by decide) lk29 (fun _ h9 => h9) rfl dX8_readTickets_93 ?_
        refine va_get (D := D) (ci := 6) (v := .ref (β + 371 + 2)) (C := RX6) (T := TX6) (N := 5) hx hb hts inX6 hown hK.1 (XR.mk0 (TR.tx hR)) 0 rfl rfl 1 (by decide) lk206 (fun _ h9 => h9) rfl dX8_readTickets_96 ?_
        refine lv_iload hx hb dX8_readTickets_99 (lv_at hl 4 rfl) ?_
        refine gm_aald (b := (β + 371 + (3 + k_4))) hx hb hK.1 (XR.mk1 (TR.tx hR) (c := 2) (by decide) (bX_32 (by decide))) 6 rfl (vp_in_nI lt_5 (by decide)) (by rw [nI_clamp (n := k_4) (by omega)]) dX8_readTickets_101 ?_
        refine gm_ci (gm_call (As := [.ref (β + 371 + (3 + k_4))]) (rest := []) (ci := 3) (q := (RX3, TX3, 14)) ⟨hx, hb, hml, hown, hts⟩ hK (c_X3_admit l D cy (β + off 0) (vw 0 Z) (β + 371 + (3 + k_4)) (vx Z (3 + k_4)) (fun n hn => by simp only [show off 0 = 1 from rfl]; omega)) (cwV 1 hts gX8_readTickets_X3_admit rfl rfl rfl (by decide +kernel) ⟨Nat.le_of_ble_eq_true rfl, Nat.le_of_ble_eq_true rfl⟩) (SR.mk0 (TR.st hR (by decide))) rfl ⟨(TR.st hR (by decide)), TR.srcX hR _ (kd_X k_4 lt_5).1 (kd_X k_4 lt_5).2⟩ rfl hl.1 rfl (Nat.le_of_ble_eq_true rfl) dX8_readTickets_102 (Nat.zero_le _) (Nat.zero_le _)) hS (TA_S (by decide)) (fun H locs hRR _ hfr hS => ?_)
        have hR := TR.mrgS hR (by decide) hRR hfr
        obtain ⟨X1, eX1⟩ : ∃ Y : gM, Y = putS Z 0 ((p_X3_admit (vw 0 Z) (vx Z (3 + k_4))).2) := ⟨_, rfl⟩
        rw [← eX1] at hR
        refine lv_pop hx hb dX8_readTickets_105 rfl ?_
        refine lv_iinc (v := nI (k_4 + 1)) (lv' := [(4, .int (nI (k_4 + 1))), (0, .ref β), (1, .int y_1), (2, .int y_2), (3, .int y_3)]) hx hb dX8_readTickets_106 hl (k := 4) rfl (nI_1 _) (by decide) rfl (fun ls hl => ?_)
        refine lv_goto (tgt := 63) hx hb dX8_readTickets_109 (by decide) ?_
        refine gm_q (Q2 := MQ below (gQi (lf_X8_readTickets_63 y_1 y_2 y_3 K n X1 (k_4 + 1)).1 (TR D cy β (lf_X8_readTickets_63 y_1 y_2 y_3 K n X1 (k_4 + 1)).2) (TA β)) args s 0 0 (TA β)) (by simp only [lf_X8_readTickets_63, ↓if_neg c_1, ↓if_neg c_3, ← eX1]) ?_
        exact ih X1 (k_4 + 1) lt_5 (by omega) _ _ _ hR hS (lv_sub hl [1, 2, 3, 4, 0] rfl)
set_option maxHeartbeats 4000000 in
set_option maxRecDepth 100000 in
theorem c_X8_readTickets (l : Launch) (D : va_G) (cy : Nat → ClassId) (β : Nat) (X : gM) (hh : HOK X) : Met l yX8_readTickets wsX8_readTickets ({ frames := 6, cells := 0, slots := 0, locals := 130 }) (gP [.ref β] D cy (TR D cy β X)) (gQi (p_X8_readTickets X).1 (TR D cy β (p_X8_readTickets X).2) (TA β)) 0 0 (TA β) := by
  refine gm_met (cc := cX8_readTickets) (maxL := 5) (ret := (some .int)) [.ref β] (by decide) rfl (Nat.le_of_ble_eq_true rfl) ?_
  intro p e s m args below meth c0 ls C hR hl
  obtain ⟨hx, hb, hr, hts, hown, hlocks, hml, hK⟩ := C
  have hl : lv_has ls 5 [(0, .ref β)] := hl
  have hS : va_S (TA β) s.heap s.heap [] := va_S.rf
  have lk29 := hts (.fieldLink RX8 29 "MercuryLine" "text" "LMercuryLine$TicketText;") (by decide +kernel)
  have inX8 : ∀ w ∈ u_ws RX8 TX8 8, w ∈ wsX8_readTickets := by decide +kernel
  have lk10 := hts (.fieldLink RX8 10 "MercuryLine" "now" "LMercuryLine$State;") (by decide +kernel)
  have lk200 := hts (.fieldLink RX8 200 "MercuryLine$TicketText" "tripCount" "I") (by decide +kernel)
  have inX6 : ∀ w ∈ u_ws RX6 TX6 5, w ∈ wsX8_readTickets := by decide +kernel
  have lk203 := hts (.fieldLink RX8 203 "MercuryLine$State" "paid" "I") (by decide +kernel)
  have inX3 : ∀ w ∈ u_ws RX3 TX3 14, w ∈ wsX8_readTickets := by decide +kernel
  refine lv_aload_n hx hb dX8_readTickets_0 rfl (lv_at hl 0 rfl) ?_
  refine va_get (D := D) (ci := 8) (v := .ref (β + 371)) (C := RX8) (T := TX8) (N := 8) hx hb hts inX8 hown hK.1 (TR.mk0 hR) 0 rfl rfl 4 (by decide) lk29 (fun _ h9 => h9) rfl dX8_readTickets_1 ?_
  refine gm_ci (gm_call (As := []) (rest := []) (ci := 6) (q := (RX6, TX6, 5)) ⟨hx, hb, hml, hown, hts⟩ hK (c_X6_findFault l D cy (β + 371) (vx X)) (cwV 0 hts gX8_readTickets_X6_findFault rfl rfl rfl (by decide +kernel) ⟨Nat.le_of_ble_eq_true rfl, Nat.le_of_ble_eq_true rfl⟩) (XR.mk0 (TR.tx hR)) rfl (TR.tx hR) rfl hl.1 rfl (Nat.le_of_ble_eq_true rfl) dX8_readTickets_4 (Nat.zero_le _) (Nat.zero_le _)) hS TA_X (fun H locs hRR _ hfr hS => ?_)
  have hR := TR.mrgX hR hRR hfr
  obtain ⟨X1, eX1⟩ : ∃ Y : gM, Y = putX X ((p_X6_findFault (vx X)).2) := ⟨_, rfl⟩
  rw [← eX1] at hR
  refine lv_istore_n (lv' := [(1, .int ((p_X6_findFault (vx X)).1)), (0, .ref β)]) hx hb dX8_readTickets_7 rfl hl (by decide) rfl (fun ls hl => ?_)
  refine lv_iload_n hx hb dX8_readTickets_8 rfl (lv_at hl 0 rfl) ?_
  refine lv_if_lt (tgt := 17) hx hb dX8_readTickets_9 (by decide) (fun c_1 => ?_) (fun c_1 => ?_)
  · refine lv_aload_n hx hb dX8_readTickets_17 rfl (lv_at hl 1 rfl) ?_
    refine gm_ci (gm_call (As := []) (rest := []) (ci := 8) (q := (RX8, TX8, 8)) ⟨hx, hb, hml, hown, hts⟩ hK (c_X8_firstRefusal l D cy β X1) (cwV 0 hts gX8_readTickets_X8_firstRefusal rfl rfl rfl (by decide +kernel) ⟨Nat.le_of_ble_eq_true rfl, Nat.le_of_ble_eq_true rfl⟩) (TR.mk0 hR) rfl hR rfl hl.1 rfl (Nat.le_of_ble_eq_true rfl) dX8_readTickets_18 (Nat.zero_le _) (Nat.zero_le _)) hS (fun _ h => h.elim) (fun H locs _ _ hfr hS => ?_)
    have hR := gRep.keep hR hfr (fun _ _ h => h)
    refine lv_istore_n (lv' := [(2, .int (f_X8_firstRefusal X1)), (1, .int ((p_X6_findFault (vx X)).1)), (0, .ref β)]) hx hb dX8_readTickets_21 rfl hl (by decide) rfl (fun ls hl => ?_)
    refine lv_iload_n hx hb dX8_readTickets_22 rfl (lv_at hl 0 rfl) ?_
    refine lv_if_eq (tgt := 28) hx hb dX8_readTickets_23 (by decide) (fun c_2 => ?_) (fun c_2 => ?_)
    · refine lv_aload_n hx hb dX8_readTickets_28 rfl (lv_at hl 2 rfl) ?_
      refine va_get (D := D) (ci := 8) (v := .ref (β + off 0)) (C := RX8) (T := TX8) (N := 8) hx hb hts inX8 hown hK.1 (TR.mk0 hR) 0 rfl rfl 0 (by decide) lk10 (fun _ h9 => h9) rfl dX8_readTickets_29 ?_
      refine lv_aload_n hx hb dX8_readTickets_32 rfl (lv_at hl 2 rfl) ?_
      refine va_get (D := D) (ci := 8) (v := .ref (β + 371)) (C := RX8) (T := TX8) (N := 8) hx hb hts inX8 hown hK.1 (TR.mk0 hR) 0 rfl rfl 4 (by decide) lk29 (fun _ h9 => h9) rfl dX8_readTickets_33 ?_
      refine va_get (D := D) (ci := 6) (v := .int (vx X1 0 3)) (C := RX6) (T := TX6) (N := 5) hx hb hts inX6 hown hK.1 (XR.mk0 (TR.tx hR)) 0 rfl rfl 3 (by decide) lk200 (fun _ h9 => h9) rfl dX8_readTickets_36 ?_
      refine gm_ci (gm_call (As := [.int (vx X1 0 3)]) (rest := []) (ci := 3) (q := (RX3, TX3, 14)) ⟨hx, hb, hml, hown, hts⟩ hK (c_X3_hasTickets l D cy (β + off 0) (vw 0 X1) (vx X1 0 3)) (cwV 1 hts gX8_readTickets_X3_hasTickets rfl rfl rfl (by decide +kernel) ⟨Nat.le_of_ble_eq_true rfl, Nat.le_of_ble_eq_true rfl⟩) (SR.mk0 (TR.st hR (by decide))) rfl (TR.st hR (by decide)) rfl hl.1 rfl (Nat.le_of_ble_eq_true rfl) dX8_readTickets_39 (Nat.zero_le _) (Nat.zero_le _)) hS (fun _ h => h.elim) (fun H locs _ _ hfr hS => ?_)
      have hR := gRep.keep hR hfr (fun _ _ h => h)
      refine lv_if_ne (tgt := 48) hx hb dX8_readTickets_42 (by decide) (fun c_3 => ?_) (fun c_3 => ?_)
      · refine lv_aload_n hx hb dX8_readTickets_48 rfl (lv_at hl 2 rfl) ?_
        refine gm_cv (gm_call (As := []) (rest := []) (ci := 8) (q := (RX8, TX8, 8)) ⟨hx, hb, hml, hown, hts⟩ hK (c_X8_recordState l D cy β X1 (HOK_row hh (by simp [eX1, updM, putX]))) (cwV 0 hts gX8_readTickets_X8_recordState rfl rfl rfl (by decide +kernel) ⟨Nat.le_of_ble_eq_true rfl, Nat.le_of_ble_eq_true rfl⟩) (TR.mk0 hR) rfl hR rfl hl.1 rfl (Nat.le_of_ble_eq_true rfl) dX8_readTickets_49 (Nat.zero_le _) (Nat.zero_le _)) hS (fun _ h => h) (fun H locs hR _ _ hS => ?_)
        obtain ⟨X2, eX2⟩ : ∃ Y : gM, Y = p_X8_recordState X1 := ⟨_, rfl⟩
        rw [← eX2] at hR
        refine lv_aload_n hx hb dX8_readTickets_52 rfl (lv_at hl 2 rfl) ?_
        refine va_get (D := D) (ci := 8) (v := .ref (β + off 0)) (C := RX8) (T := TX8) (N := 8) hx hb hts inX8 hown hK.1 (TR.mk0 hR) 0 rfl rfl 0 (by decide) lk10 (fun _ h9 => h9) rfl dX8_readTickets_53 ?_
        refine va_get (D := D) (ci := 3) (v := .int (vw 0 X2 0 10)) (C := RX3) (T := TX3) (N := 14) hx hb hts inX3 hown hK.1 (SR.mk0 (TR.st hR (by decide))) 0 rfl rfl 10 (by decide) lk203 (fun _ h9 => h9) rfl dX8_readTickets_56 ?_
        refine lv_istore_n (lv' := [(3, .int (vw 0 X2 0 10)), (2, .int (f_X8_firstRefusal X1)), (1, .int ((p_X6_findFault (vx X)).1)), (0, .ref β)]) hx hb dX8_readTickets_59 rfl hl (by decide) rfl (fun ls hl => ?_)
        refine lv_iconst (v := 0) hx hb dX8_readTickets_60 (by decide) ?_
        refine lv_istore (lv' := [(4, .int 0), (3, .int (vw 0 X2 0 10)), (2, .int (f_X8_firstRefusal X1)), (1, .int ((p_X6_findFault (vx X)).1)), (0, .ref β)]) hx hb dX8_readTickets_61 hl (by decide) rfl (fun ls hl => ?_)
        refine gm_q (Q2 := MQ below (gQi (lf_X8_readTickets_63 ((p_X6_findFault (vx X)).1) (f_X8_firstRefusal X1) (vw 0 X2 0 10) (fun X3 k_4w4 =>
              ((vw 0 X3 0 10) - (vw 0 X2 0 10), X3)) 6 X2 0).1 (TR D cy β (lf_X8_readTickets_63 ((p_X6_findFault (vx X)).1) (f_X8_firstRefusal X1) (vw 0 X2 0 10) (fun X3 k_4w4 =>
              ((vw 0 X3 0 10) - (vw 0 X2 0 10), X3)) 6 X2 0).2) (TA β)) args s 0 0 (TA β)) (by simp only [p_X8_readTickets, ↓if_pos c_1, ↓if_pos c_2, ↓if_neg c_3, ← eX1, ← eX2]) ?_
        refine lp_X8_readTickets_63 ⟨hx, hb, hr, hts, hown, hlocks, hml, hK⟩ β ((p_X6_findFault (vx X)).1) (f_X8_firstRefusal X1) (vw 0 X2 0 10)  _ (fun X3 k_4w4 hbk_4w4 H locs ls hR hS hl => ?_) 6 X2 0 (by decide) (by omega) _ _ _ hR hS (lv_sub hl [4, 3, 2, 1, 0] rfl)
        refine lv_aload_n hx hb dX8_readTickets_112 rfl (lv_at hl 0 rfl) ?_
        refine va_get (D := D) (ci := 8) (v := .ref (β + off 0)) (C := RX8) (T := TX8) (N := 8) hx hb hts inX8 hown hK.1 (TR.mk0 hR) 0 rfl rfl 0 (by decide) lk10 (fun _ h9 => h9) rfl dX8_readTickets_113 ?_
        refine va_get (D := D) (ci := 3) (v := .int (vw 0 X3 0 10)) (C := RX3) (T := TX3) (N := 14) hx hb hts inX3 hown hK.1 (SR.mk0 (TR.st hR (by decide))) 0 rfl rfl 10 (by decide) lk203 (fun _ h9 => h9) rfl dX8_readTickets_116 ?_
        refine lv_iload_n hx hb dX8_readTickets_119 rfl (lv_at hl 3 rfl) ?_
        refine lv_isub hx hb dX8_readTickets_120 ?_
        exact gm_iret hx hb hr hlocks hS (by (try simp only [p_X8_readTickets, ↓if_pos c_1, ↓if_pos c_2, ↓if_neg c_3, ← eX1, ← eX2]); (try rfl)) (by (try simp only [p_X8_readTickets, ↓if_pos c_1, ↓if_pos c_2, ↓if_neg c_3, ← eX1, ← eX2]); exact hR) dX8_readTickets_121
      · refine lv_bipush (v := (-3)) hx hb dX8_readTickets_45 (by decide) ?_
        exact gm_iret hx hb hr hlocks hS (by (try simp only [p_X8_readTickets, ↓if_pos c_1, ↓if_pos c_2, ↓if_pos c_3, ← eX1]); (try rfl)) (by (try simp only [p_X8_readTickets, ↓if_pos c_1, ↓if_pos c_2, ↓if_pos c_3, ← eX1]); exact hR) dX8_readTickets_47
    · refine lv_iload_n hx hb dX8_readTickets_26 rfl (lv_at hl 0 rfl) ?_
      exact gm_iret hx hb hr hlocks hS (by (try simp only [p_X8_readTickets, ↓if_pos c_1, ↓if_neg c_2, ← eX1]); (try rfl)) (by (try simp only [p_X8_readTickets, ↓if_pos c_1, ↓if_neg c_2, ← eX1]); exact hR) dX8_readTickets_27
  · refine lv_bipush (v := (-100)) hx hb dX8_readTickets_12 (by decide) ?_
    refine lv_iload_n hx hb dX8_readTickets_14 rfl (lv_at hl 0 rfl) ?_
    refine lv_isub hx hb dX8_readTickets_15 ?_
    exact gm_iret hx hb hr hlocks hS (by (try simp only [p_X8_readTickets, ↓if_neg c_1, ← eX1]); (try rfl)) (by (try simp only [p_X8_readTickets, ↓if_neg c_1, ← eX1]); exact hR) dX8_readTickets_16
