def lf_X3_firstIn_4 (X : gM) (a1 : Int32) (K : (Option Nat) → (Nat) → (Option Nat)) : Nat → (Option Nat) → (Nat) → (Option Nat)
  | 0, o_2, k_3 => K o_2 k_3
  | n + 1, o_2, k_3 =>
    gOpt (o_2) (
      if X 0 5 ≤ nI k_3 then
        K none k_3
      else
        if 40 ≤ nI k_3 then
          K none k_3
        else
          if f_X5_queue X (35 + 2 * k_3) = a1 then
            lf_X3_firstIn_4 X a1 K n (some (35 + 2 * k_3)) (k_3 + 1)
          else
            lf_X3_firstIn_4 X a1 K n none (k_3 + 1)) (fun q1 =>
      if X 0 5 ≤ nI k_3 then
        K (some q1) k_3
      else
        if 40 ≤ nI k_3 then
          K (some q1) k_3
        else
          if f_X5_queue X (35 + 2 * k_3) = a1 then
            if X (35 + 2 * k_3 + 1) 1 ≤ X (q1 + 1) 1 then
              lf_X3_firstIn_4 X a1 K n (some q1) (k_3 + 1)
            else
              lf_X3_firstIn_4 X a1 K n (some (35 + 2 * k_3)) (k_3 + 1)
          else
            lf_X3_firstIn_4 X a1 K n (some q1) (k_3 + 1))
def f_X3_firstIn (X : gM) (a1 : Int32) : Option Nat :=
  lf_X3_firstIn_4 X a1 (fun o_2w1 k_3w1 =>
        gOpt (o_2w1) (
          none) (fun q2 =>
          some q2)) 41 none 0
set_option maxHeartbeats 4000000 in
set_option maxRecDepth 100000 in
theorem lp_X3_firstIn_4 {p : Program} {l : Launch} {e : Env} {s : State} {m : MethodId} {args : Array Value} {below : List Frame} {meth : Method} {c0 : Code} {D : va_G} {cy : Nat → ClassId} (C : gCtx cX3_firstIn 5 (some (.object "MercuryLine$Ticket")) RX3 wsX3_firstIn D cy p s m args meth c0) (σ : Nat) (X : gM) (a1 : Int32) 
    (K : (Option Nat) → (Nat) → (Option Nat)) (hexit : ∀ (o_2 : Option Nat) (k_3 : Nat), (∀ c9, o_2 = some c9 → c9 < 123 ∧ kdS c9 = 5) → k_3 ≤ 40 → ∀ (H : Heap) (locs : List Loc) (ls : Array Slot), SR D cy σ X H → va_S gNo s.heap H locs → lv_has ls 5 [(0, .ref σ), (1, .int a1), (2, va_rf (Option.map (fun c => σ + c) o_2)), (3, .int (nI k_3))] → W p l e { frames := 1, cells := 0, slots := 0, locals := 20 } s m args below meth c0 H locs 0 0 (MQ below (gQq (Option.map (fun c => σ + c) (K o_2 k_3)) (fun _ => True) gNo) args s 0 0 gNo) (F0 m 69 ls [])) :
    ∀ (n : Nat) (o_2 : Option Nat) (k_3 : Nat), (∀ c9, o_2 = some c9 → c9 < 123 ∧ kdS c9 = 5) → k_3 ≤ 40 → 40 < k_3 + n → ∀ (H : Heap) (locs : List Loc) (ls : Array Slot), SR D cy σ X H → va_S gNo s.heap H locs → lv_has ls 5 [(0, .ref σ), (1, .int a1), (2, va_rf (Option.map (fun c => σ + c) o_2)), (3, .int (nI k_3))] → W p l e { frames := 1, cells := 0, slots := 0, locals := 20 } s m args below meth c0 H locs 0 0 (MQ below (gQq (Option.map (fun c => σ + c) (lf_X3_firstIn_4 X a1 K n o_2 k_3)) (fun _ => True) gNo) args s 0 0 gNo) (F0 m 4 ls []) := by
  obtain ⟨hx, hb, hr, hts, hown, hlocks, hml, hK⟩ := C
  have lk64 := hts (.fieldLink RX3 64 "MercuryLine$State" "ticketCount" "I") (by decide +kernel)
  have inX3 : ∀ w ∈ u_ws RX3 TX3 14, w ∈ wsX3_firstIn := by decide +kernel
  have lk25 := hts (.fieldLink RX3 25 "MercuryLine$State" "tickets" "[LMercuryLine$Ticket;") (by decide +kernel)
  have lk125 := hts (.fieldLink RX3 125 "MercuryLine$Ticket" "trip" "LMercuryLine$Trip;") (by decide +kernel)
  have inX5 : ∀ w ∈ u_ws RX5 TX5 14, w ∈ wsX3_firstIn := by decide +kernel
  have lk129 := hts (.fieldLink RX3 129 "MercuryLine$Trip" "kind" "I") (by decide +kernel)
  have inX7 : ∀ w ∈ u_ws RX7 TX7 5, w ∈ wsX3_firstIn := by decide +kernel
  intro n
  induction n with
  | zero =>
    intro o_2 k_3 ho_2 hb_3 hme
    exact absurd hme (by omega)
  | succ n ih =>
    intro o_2 k_3 ho_2 hb_3 hme H locs ls hR hS hl
    rcases hq1 : o_2 with _ | q1
    · have hl : lv_has ls 5 [(0, .ref σ), (1, .int a1), (2, .null), (3, .int (nI k_3))] := by rw [hq1] at hl; exact hl
      refine lv_iload_n hx hb dX3_firstIn_4 rfl (lv_at hl 3 rfl) ?_
      refine lv_aload_n hx hb dX3_firstIn_5 rfl (lv_at hl 0 rfl) ?_
      refine va_get (D := D) (ci := 3) (v := .int (X 0 5)) (C := RX3) (T := TX3) (N := 14) hx hb hts inX3 hown hK.1 (SR.mk0 hR) 0 rfl rfl 5 (by decide) lk64 (fun _ h9 => h9) rfl dX3_firstIn_6 ?_
      refine lv_icmp_ge (tgt := 69) hx hb dX3_firstIn_9 (by decide) (fun c_2 => ?_) (fun c_2 => ?_)
      · refine gm_q (Q2 := MQ below (gQq (Option.map (fun c => σ + c) (K none k_3)) (fun _ => True) gNo) args s 0 0 gNo) (by simp only [lf_X3_firstIn_4, ↓if_pos c_2, ↓gOpt_none, ↓gOpt_some]) ?_
        exact hexit none k_3 (fun _ h => by cases h) hb_3  _ _ _ hR hS (lv_sub hl [0, 1, 2, 3] rfl)
      · have lt_3 : k_3 < 2147483647 := g_big (Nat.lt_of_le_of_lt hb_3 (by decide)) c_2
        refine lv_iload_n hx hb dX3_firstIn_12 rfl (lv_at hl 3 rfl) ?_
        refine lv_aload_n hx hb dX3_firstIn_13 rfl (lv_at hl 0 rfl) ?_
        refine va_get (D := D) (ci := 3) (v := .ref (σ + 31)) (C := RX3) (T := TX3) (N := 14) hx hb hts inX3 hown hK.1 (SR.mk0 hR) 0 rfl rfl 2 (by decide) lk25 (fun _ h9 => h9) rfl dX3_firstIn_14 ?_
        refine va_alen (v := 40) hx hb hK.1 (SR.mk1 hR (c := 31) (by decide) (bS_25 (by decide))) 0 5 rfl rfl rfl dX3_firstIn_17 ?_
        refine lv_icmp_ge (tgt := 69) hx hb dX3_firstIn_18 (by decide) (fun c_4 => ?_) (fun c_4 => ?_)
        · have ge_5 : 40 ≤ k_3 := g_ge2 (Nat.lt_of_le_of_lt hb_3 (by decide)) (by decide) c_4
          refine gm_q (Q2 := MQ below (gQq (Option.map (fun c => σ + c) (K none k_3)) (fun _ => True) gNo) args s 0 0 gNo) (by simp only [lf_X3_firstIn_4, ↓if_neg c_2, ↓if_pos c_4, ↓gOpt_none, ↓gOpt_some]) ?_
          exact hexit none k_3 (fun _ h => by cases h) hb_3  _ _ _ hR hS (lv_sub hl [0, 1, 2, 3] rfl)
        · have lt_6 : k_3 < 40 := g_lt (Nat.lt_of_le_of_lt hb_3 (by decide)) (by decide) c_4
          refine lv_aload_n hx hb dX3_firstIn_21 rfl (lv_at hl 0 rfl) ?_
          refine va_get (D := D) (ci := 3) (v := .ref (σ + 31)) (C := RX3) (T := TX3) (N := 14) hx hb hts inX3 hown hK.1 (SR.mk0 hR) 0 rfl rfl 2 (by decide) lk25 (fun _ h9 => h9) rfl dX3_firstIn_22 ?_
          refine lv_iload_n hx hb dX3_firstIn_25 rfl (lv_at hl 3 rfl) ?_
          refine gm_aald (b := (σ + (35 + 2 * k_3))) hx hb hK.1 (SR.mk1 hR (c := 31) (by decide) (bS_25 (by decide))) 5 rfl (vp_in_nI lt_6 (by decide)) (by rw [nI_clamp (n := k_3) (by omega)]) dX3_firstIn_26 ?_
          refine lv_astore (lv' := [(4, .ref (σ + (35 + 2 * k_3))), (0, .ref σ), (1, .int a1), (2, .null), (3, .int (nI k_3))]) hx hb dX3_firstIn_27 hl (by decide) rfl (fun ls hl => ?_)
          refine lv_aload hx hb dX3_firstIn_29 (lv_at hl 0 rfl) ?_
          refine gm_ci (gm_call (As := []) (rest := []) (ci := 5) (q := (RX5, TX5, 14)) ⟨hx, hb, hml, hown, hts⟩ hK (c_X5_queue l D cy σ X (35 + 2 * k_3) (kd_T k_3 lt_6).1 (kd_T k_3 lt_6).2.1) (cwV 0 hts gX3_firstIn_X5_queue rfl rfl rfl (by decide +kernel) ⟨Nat.le_of_ble_eq_true rfl, Nat.le_of_ble_eq_true rfl⟩) (SR.mk1 hR (c := 35 + 2 * k_3) (kd_T k_3 lt_6).1 (bS_5 (kd_T k_3 lt_6).2.1)) rfl hR rfl hl.1 rfl (Nat.le_of_ble_eq_true rfl) dX3_firstIn_31 (Nat.zero_le _) (Nat.zero_le _)) hS (fun _ h => h.elim) (fun H locs _ _ hfr hS => ?_)
          have hR := gRep.keep hR hfr (fun _ _ h => h)
          refine lv_iload_n hx hb dX3_firstIn_34 rfl (lv_at hl 2 rfl) ?_
          refine lv_icmp_ne (tgt := 63) hx hb dX3_firstIn_35 (by decide) (fun c_7 => ?_) (fun c_7 => ?_)
          · refine lv_iinc (v := nI (k_3 + 1)) (lv' := [(3, .int (nI (k_3 + 1))), (4, .ref (σ + (35 + 2 * k_3))), (0, .ref σ), (1, .int a1), (2, .null)]) hx hb dX3_firstIn_63 hl (k := 4) rfl (nI_1 _) (by decide) rfl (fun ls hl => ?_)
            refine lv_goto (tgt := 4) hx hb dX3_firstIn_66 (by decide) ?_
            refine gm_q (Q2 := MQ below (gQq (Option.map (fun c => σ + c) (lf_X3_firstIn_4 X a1 K n none (k_3 + 1))) (fun _ => True) gNo) args s 0 0 gNo) (by simp only [lf_X3_firstIn_4, ↓if_neg c_2, ↓if_neg c_4, ↓if_neg c_7, ↓gOpt_none, ↓gOpt_some]) ?_
            exact ih none (k_3 + 1) (fun _ h => by cases h) lt_6 (by omega) _ _ _ hR hS (lv_sub hl [2, 3, 4, 0] rfl)
          · refine lv_aload_nN hx hb dX3_firstIn_38 rfl (lv_at hl 3 rfl) ?_
            refine lv_ifnullN (tgt := 60) hx hb dX3_firstIn_39 (by decide) ?_
            refine lv_aload hx hb dX3_firstIn_60 (lv_at hl 0 rfl) ?_
            refine lv_astore_n (lv' := [(2, .ref (σ + (35 + 2 * k_3))), (4, .ref (σ + (35 + 2 * k_3))), (0, .ref σ), (1, .int a1), (3, .int (nI k_3))]) hx hb dX3_firstIn_62 rfl hl (by decide) rfl (fun ls hl => ?_)
            refine lv_iinc (v := nI (k_3 + 1)) (lv' := [(3, .int (nI (k_3 + 1))), (2, .ref (σ + (35 + 2 * k_3))), (4, .ref (σ + (35 + 2 * k_3))), (0, .ref σ), (1, .int a1)]) hx hb dX3_firstIn_63 hl (k := 4) rfl (nI_1 _) (by decide) rfl (fun ls hl => ?_)
            refine lv_goto (tgt := 4) hx hb dX3_firstIn_66 (by decide) ?_
            refine gm_q (Q2 := MQ below (gQq (Option.map (fun c => σ + c) (lf_X3_firstIn_4 X a1 K n (some (35 + 2 * k_3)) (k_3 + 1))) (fun _ => True) gNo) args s 0 0 gNo) (by simp only [lf_X3_firstIn_4, ↓if_neg c_2, ↓if_neg c_4, ↓if_pos c_7, ↓gOpt_none, ↓gOpt_some]) ?_
            exact ih (some (35 + 2 * k_3)) (k_3 + 1) (fun _ h => by cases h; exact ⟨(kd_T k_3 lt_6).1, (kd_T k_3 lt_6).2.1⟩) lt_6 (by omega) _ _ _ hR hS (lv_sub hl [3, 4, 1, 0] rfl)
    · have hl : lv_has ls 5 [(0, .ref σ), (1, .int a1), (2, .ref (σ + q1)), (3, .int (nI k_3))] := by rw [hq1] at hl; exact hl
      refine lv_iload_n hx hb dX3_firstIn_4 rfl (lv_at hl 3 rfl) ?_
      refine lv_aload_n hx hb dX3_firstIn_5 rfl (lv_at hl 0 rfl) ?_
      refine va_get (D := D) (ci := 3) (v := .int (X 0 5)) (C := RX3) (T := TX3) (N := 14) hx hb hts inX3 hown hK.1 (SR.mk0 hR) 0 rfl rfl 5 (by decide) lk64 (fun _ h9 => h9) rfl dX3_firstIn_6 ?_
      refine lv_icmp_ge (tgt := 69) hx hb dX3_firstIn_9 (by decide) (fun c_8 => ?_) (fun c_8 => ?_)
      · refine gm_q (Q2 := MQ below (gQq (Option.map (fun c => σ + c) (K (some q1) k_3)) (fun _ => True) gNo) args s 0 0 gNo) (by simp only [lf_X3_firstIn_4, ↓if_pos c_8, ↓gOpt_none, ↓gOpt_some]) ?_
        exact hexit (some q1) k_3 (fun _ h => by cases h; exact ⟨(ho_2 _ hq1).1, (ho_2 _ hq1).2⟩) hb_3  _ _ _ hR hS (lv_sub hl [0, 1, 2, 3] rfl)
      · have lt_9 : k_3 < 2147483647 := g_big (Nat.lt_of_le_of_lt hb_3 (by decide)) c_8
        refine lv_iload_n hx hb dX3_firstIn_12 rfl (lv_at hl 3 rfl) ?_
        refine lv_aload_n hx hb dX3_firstIn_13 rfl (lv_at hl 0 rfl) ?_
        refine va_get (D := D) (ci := 3) (v := .ref (σ + 31)) (C := RX3) (T := TX3) (N := 14) hx hb hts inX3 hown hK.1 (SR.mk0 hR) 0 rfl rfl 2 (by decide) lk25 (fun _ h9 => h9) rfl dX3_firstIn_14 ?_
        refine va_alen (v := 40) hx hb hK.1 (SR.mk1 hR (c := 31) (by decide) (bS_25 (by decide))) 0 5 rfl rfl rfl dX3_firstIn_17 ?_
        refine lv_icmp_ge (tgt := 69) hx hb dX3_firstIn_18 (by decide) (fun c_10 => ?_) (fun c_10 => ?_)
        · have ge_11 : 40 ≤ k_3 := g_ge2 (Nat.lt_of_le_of_lt hb_3 (by decide)) (by decide) c_10
          refine gm_q (Q2 := MQ below (gQq (Option.map (fun c => σ + c) (K (some q1) k_3)) (fun _ => True) gNo) args s 0 0 gNo) (by simp only [lf_X3_firstIn_4, ↓if_neg c_8, ↓if_pos c_10, ↓gOpt_none, ↓gOpt_some]) ?_
          exact hexit (some q1) k_3 (fun _ h => by cases h; exact ⟨(ho_2 _ hq1).1, (ho_2 _ hq1).2⟩) hb_3  _ _ _ hR hS (lv_sub hl [0, 1, 2, 3] rfl)
        · have lt_12 : k_3 < 40 := g_lt (Nat.lt_of_le_of_lt hb_3 (by decide)) (by decide) c_10
          refine lv_aload_n hx hb dX3_firstIn_21 rfl (lv_at hl 0 rfl) ?_
          refine va_get (D := D) (ci := 3) (v := .ref (σ + 31)) (C := RX3) (T := TX3) (N := 14) hx hb hts inX3 hown hK.1 (SR.mk0 hR) 0 rfl rfl 2 (by decide) lk25 (fun _ h9 => h9) rfl dX3_firstIn_22 ?_
          refine lv_iload_n hx hb dX3_firstIn_25 rfl (lv_at hl 3 rfl) ?_
          refine gm_aald (b := (σ + (35 + 2 * k_3))) hx hb hK.1 (SR.mk1 hR (c := 31) (by decide) (bS_25 (by decide))) 5 rfl (vp_in_nI lt_12 (by decide)) (by rw [nI_clamp (n := k_3) (by omega)]) dX3_firstIn_26 ?_
          refine lv_astore (lv' := [(4, .ref (σ + (35 + 2 * k_3))), (0, .ref σ), (1, .int a1), (2, .ref (σ + q1)), (3, .int (nI k_3))]) hx hb dX3_firstIn_27 hl (by decide) rfl (fun ls hl => ?_)
          refine lv_aload hx hb dX3_firstIn_29 (lv_at hl 0 rfl) ?_
          refine gm_ci (gm_call (As := []) (rest := []) (ci := 5) (q := (RX5, TX5, 14)) ⟨hx, hb, hml, hown, hts⟩ hK (c_X5_queue l D cy σ X (35 + 2 * k_3) (kd_T k_3 lt_12).1 (kd_T k_3 lt_12).2.1) (cwV 0 hts gX3_firstIn_X5_queue rfl rfl rfl (by decide +kernel) ⟨Nat.le_of_ble_eq_true rfl, Nat.le_of_ble_eq_true rfl⟩) (SR.mk1 hR (c := 35 + 2 * k_3) (kd_T k_3 lt_12).1 (bS_5 (kd_T k_3 lt_12).2.1)) rfl hR rfl hl.1 rfl (Nat.le_of_ble_eq_true rfl) dX3_firstIn_31 (Nat.zero_le _) (Nat.zero_le _)) hS (fun _ h => h.elim) (fun H locs _ _ hfr hS => ?_)
          have hR := gRep.keep hR hfr (fun _ _ h => h)
          refine lv_iload_n hx hb dX3_firstIn_34 rfl (lv_at hl 2 rfl) ?_
          refine lv_icmp_ne (tgt := 63) hx hb dX3_firstIn_35 (by decide) (fun c_13 => ?_) (fun c_13 => ?_)
          · refine lv_iinc (v := nI (k_3 + 1)) (lv' := [(3, .int (nI (k_3 + 1))), (4, .ref (σ + (35 + 2 * k_3))), (0, .ref σ), (1, .int a1), (2, .ref (σ + q1))]) hx hb dX3_firstIn_63 hl (k := 4) rfl (nI_1 _) (by decide) rfl (fun ls hl => ?_)
            refine lv_goto (tgt := 4) hx hb dX3_firstIn_66 (by decide) ?_
            refine gm_q (Q2 := MQ below (gQq (Option.map (fun c => σ + c) (lf_X3_firstIn_4 X a1 K n (some q1) (k_3 + 1))) (fun _ => True) gNo) args s 0 0 gNo) (by simp only [lf_X3_firstIn_4, ↓if_neg c_8, ↓if_neg c_10, ↓if_neg c_13, ↓gOpt_none, ↓gOpt_some]) ?_
            exact ih (some q1) (k_3 + 1) (fun _ h => by cases h; exact ⟨(ho_2 _ hq1).1, (ho_2 _ hq1).2⟩) lt_12 (by omega) _ _ _ hR hS (lv_sub hl [2, 3, 4, 0] rfl)
          · refine lv_aload_n hx hb dX3_firstIn_38 rfl (lv_at hl 3 rfl) ?_
            refine lv_ifnull hx hb dX3_firstIn_39 ?_
            refine lv_aload hx hb dX3_firstIn_42 (lv_at hl 0 rfl) ?_
            refine va_get (D := D) (ci := 5) (v := .ref (σ + (35 + 2 * k_3 + 1))) (C := RX5) (T := TX5) (N := 14) hx hb hts inX5 hown hK.1 (SR.mk1 hR (c := 35 + 2 * k_3) (kd_T k_3 lt_12).1 (bS_5 (kd_T k_3 lt_12).2.1)) 0 rfl rfl 1 (by decide) lk125 (fun _ h9 => h9) rfl dX3_firstIn_44 ?_
            refine va_get (D := D) (ci := 7) (v := .int (X (35 + 2 * k_3 + 1) 1)) (C := RX7) (T := TX7) (N := 5) hx hb hts inX7 hown hK.1 (SR.mk1 hR (c := 35 + 2 * k_3 + 1) (kd_5 (35 + 2 * k_3) (kd_T k_3 lt_12).1 (kd_T k_3 lt_12).2.1).1 (bS_7 (kd_5 (35 + 2 * k_3) (kd_T k_3 lt_12).1 (kd_T k_3 lt_12).2.1).2)) 0 rfl rfl 1 (by decide) lk129 (fun _ h9 => h9) rfl dX3_firstIn_47 ?_
            refine lv_aload_n hx hb dX3_firstIn_50 rfl (lv_at hl 3 rfl) ?_
            refine va_get (D := D) (ci := 5) (v := .ref (σ + (q1 + 1))) (C := RX5) (T := TX5) (N := 14) hx hb hts inX5 hown hK.1 (SR.mk1 hR (c := q1) (ho_2 _ hq1).1 (bS_5 (ho_2 _ hq1).2)) 0 rfl rfl 1 (by decide) lk125 (fun _ h9 => h9) rfl dX3_firstIn_51 ?_
            refine va_get (D := D) (ci := 7) (v := .int (X (q1 + 1) 1)) (C := RX7) (T := TX7) (N := 5) hx hb hts inX7 hown hK.1 (SR.mk1 hR (c := q1 + 1) (kd_5 q1 (ho_2 _ hq1).1 (ho_2 _ hq1).2).1 (bS_7 (kd_5 q1 (ho_2 _ hq1).1 (ho_2 _ hq1).2).2)) 0 rfl rfl 1 (by decide) lk129 (fun _ h9 => h9) rfl dX3_firstIn_54 ?_
            refine lv_icmp_le (tgt := 63) hx hb dX3_firstIn_57 (by decide) (fun c_14 => ?_) (fun c_14 => ?_)
            · refine lv_iinc (v := nI (k_3 + 1)) (lv' := [(3, .int (nI (k_3 + 1))), (4, .ref (σ + (35 + 2 * k_3))), (0, .ref σ), (1, .int a1), (2, .ref (σ + q1))]) hx hb dX3_firstIn_63 hl (k := 4) rfl (nI_1 _) (by decide) rfl (fun ls hl => ?_)
              refine lv_goto (tgt := 4) hx hb dX3_firstIn_66 (by decide) ?_
              refine gm_q (Q2 := MQ below (gQq (Option.map (fun c => σ + c) (lf_X3_firstIn_4 X a1 K n (some q1) (k_3 + 1))) (fun _ => True) gNo) args s 0 0 gNo) (by simp only [lf_X3_firstIn_4, ↓if_neg c_8, ↓if_neg c_10, ↓if_pos c_13, ↓if_pos c_14, ↓gOpt_none, ↓gOpt_some]) ?_
              exact ih (some q1) (k_3 + 1) (fun _ h => by cases h; exact ⟨(ho_2 _ hq1).1, (ho_2 _ hq1).2⟩) lt_12 (by omega) _ _ _ hR hS (lv_sub hl [2, 3, 4, 0] rfl)
            · refine lv_aload hx hb dX3_firstIn_60 (lv_at hl 0 rfl) ?_
              refine lv_astore_n (lv' := [(2, .ref (σ + (35 + 2 * k_3))), (4, .ref (σ + (35 + 2 * k_3))), (0, .ref σ), (1, .int a1), (3, .int (nI k_3))]) hx hb dX3_firstIn_62 rfl hl (by decide) rfl (fun ls hl => ?_)
              refine lv_iinc (v := nI (k_3 + 1)) (lv' := [(3, .int (nI (k_3 + 1))), (2, .ref (σ + (35 + 2 * k_3))), (4, .ref (σ + (35 + 2 * k_3))), (0, .ref σ), (1, .int a1)]) hx hb dX3_firstIn_63 hl (k := 4) rfl (nI_1 _) (by decide) rfl (fun ls hl => ?_)
              refine lv_goto (tgt := 4) hx hb dX3_firstIn_66 (by decide) ?_
              refine gm_q (Q2 := MQ below (gQq (Option.map (fun c => σ + c) (lf_X3_firstIn_4 X a1 K n (some (35 + 2 * k_3)) (k_3 + 1))) (fun _ => True) gNo) args s 0 0 gNo) (by simp only [lf_X3_firstIn_4, ↓if_neg c_8, ↓if_neg c_10, ↓if_pos c_13, ↓if_neg c_14, ↓gOpt_none, ↓gOpt_some]) ?_
              exact ih (some (35 + 2 * k_3)) (k_3 + 1) (fun _ h => by cases h; exact ⟨(kd_T k_3 lt_12).1, (kd_T k_3 lt_12).2.1⟩) lt_12 (by omega) _ _ _ hR hS (lv_sub hl [3, 4, 1, 0] rfl)
set_option maxHeartbeats 4000000 in
set_option maxRecDepth 100000 in
theorem c_X3_firstIn (l : Launch) (D : va_G) (cy : Nat → ClassId) (σ : Nat) (X : gM) (a1 : Int32)  : Met l yX3_firstIn wsX3_firstIn ({ frames := 1, cells := 0, slots := 0, locals := 20 }) (gP [.ref σ, .int a1] D cy (SR D cy σ X)) (gQq (Option.map (fun c => σ + c) (f_X3_firstIn X a1)) (fun _ => True) gNo) 0 0 gNo := by
  refine gm_met (cc := cX3_firstIn) (maxL := 5) (ret := (some (.object "MercuryLine$Ticket"))) [.ref σ, .int a1] (by decide) rfl (Nat.le_of_ble_eq_true rfl) ?_
  intro p e s m args below meth c0 ls C hR hl
  obtain ⟨hx, hb, hr, hts, hown, hlocks, hml, hK⟩ := C
  have hl : lv_has ls 5 [(0, .ref σ), (1, .int a1)] := hl
  have hS : va_S gNo s.heap s.heap [] := va_S.rf
  refine lv_null hx hb dX3_firstIn_0 ?_
  refine lv_astore_nN (lv' := [(2, .null), (0, .ref σ), (1, .int a1)]) hx hb dX3_firstIn_1 rfl hl (by decide) rfl (fun ls hl => ?_)
  refine lv_iconst (v := 0) hx hb dX3_firstIn_2 (by decide) ?_
  refine lv_istore_n (lv' := [(3, .int 0), (2, .null), (0, .ref σ), (1, .int a1)]) hx hb dX3_firstIn_3 rfl hl (by decide) rfl (fun ls hl => ?_)
  refine gm_q (Q2 := MQ below (gQq (Option.map (fun c => σ + c) (lf_X3_firstIn_4 X a1 (fun o_2w1 k_3w1 =>
        gOpt (o_2w1) (
          none) (fun q2 =>
          some q2)) 41 none 0)) (fun _ => True) gNo) args s 0 0 gNo) (by simp only [f_X3_firstIn]) ?_
  refine lp_X3_firstIn_4 ⟨hx, hb, hr, hts, hown, hlocks, hml, hK⟩ σ X a1  _ (fun o_2w1 k_3w1 hoo_2w1 hbk_3w1 H locs ls hR hS hl => ?_) 41 none 0 (fun _ h => by cases h) (by decide) (by omega) _ _ _ hR hS (lv_sub hl [2, 3, 1, 0] rfl)
  rcases hq2 : o_2w1 with _ | q2
  · have hl : lv_has ls 5 [(0, .ref σ), (1, .int a1), (2, .null), (3, .int (nI k_3w1))] := by rw [hq2] at hl; exact hl
    refine lv_aload_nN hx hb dX3_firstIn_69 rfl (lv_at hl 2 rfl) ?_
    exact gm_aret hx hb hr hlocks hS (by (try simp only [f_X3_firstIn, ↓gOpt_none, ↓gOpt_some]); (try rfl)) trivial dX3_firstIn_70
  · have hl : lv_has ls 5 [(0, .ref σ), (1, .int a1), (2, .ref (σ + q2)), (3, .int (nI k_3w1))] := by rw [hq2] at hl; exact hl
    refine lv_aload_n hx hb dX3_firstIn_69 rfl (lv_at hl 2 rfl) ?_
    exact gm_aret hx hb hr hlocks hS (by (try simp only [f_X3_firstIn, ↓gOpt_none, ↓gOpt_some]); (try rfl)) trivial dX3_firstIn_70
theorem fk_X3_firstIn_l {X : gM} {a1 : Int32} {K : Option Nat → Nat → Option Nat} (hK : ∀ o k, (∀ c, o = some c → c < 123 ∧ kdS c = 5) → ∀ q, K o k = some q → q < 123 ∧ kdS q = 5) : ∀ (n : Nat) (o : Option Nat) (k : Nat), (∀ c, o = some c → c < 123 ∧ kdS c = 5) → k ≤ 40 → ∀ q, lf_X3_firstIn_4 X a1 K n o k = some q → q < 123 ∧ kdS q = 5 := by
  intro n
  induction n with
  | zero => intro o k ho _ q h; exact hK o k ho q h
  | succ n ih =>
    intro o k ho hk q h
    unfold lf_X3_firstIn_4 at h
    have hk2 : k < 2 ^ 31 := Nat.lt_of_le_of_lt hk (by decide)
    have hn : ∀ c, (none : Option Nat) = some c → c < 123 ∧ kdS c = 5 := fun c h => by cases h
    cases o with
    | none =>
      simp only [gOpt_none] at h
      split at h
      · exact hK _ _ hn q h
      · split at h
        · exact hK _ _ hn q h
        · rename_i _ hlt
          have hlt := g_lt hk2 (N := 40) (by decide) hlt
          split at h
          · exact ih _ _ (fun c hc => by cases hc; exact ⟨(kd_T _ hlt).1, (kd_T _ hlt).2.1⟩) hlt q h
          · exact ih _ _ hn hlt q h
    | some c1 =>
      simp only [gOpt_some] at h
      split at h
      · exact hK _ _ ho q h
      · split at h
        · exact hK _ _ ho q h
        · rename_i _ hlt
          have hlt := g_lt hk2 (N := 40) (by decide) hlt
          split at h
          · split at h
            · exact ih _ _ ho hlt q h
            · exact ih _ _ (fun c hc => by cases hc; exact ⟨(kd_T _ hlt).1, (kd_T _ hlt).2.1⟩) hlt q h
          · exact ih _ _ ho hlt q h
theorem fk_X3_firstIn {X : gM} {a1 : Int32} {q : Nat} (h : f_X3_firstIn X a1 = some q) : q < 123 ∧ kdS q = 5 := by
  refine fk_X3_firstIn_l (K := _) (fun o k ho q h => ?_) 41 none 0 (fun c h => by cases h) (by decide) q h
  cases o with
  | none => cases h
  | some c => cases h; exact ho _ rfl
def lf_X3_inQueue_14 (X : gM) (a1 : Int32) (a2 : Int32) (k_4 : Nat) (K : (Int32) → (Nat) → (Option Nat)) : Nat → (Int32) → (Nat) → (Option Nat)
  | 0, x_3, k_5 => K x_3 k_5
  | n + 1, x_3, k_5 =>
    if X 0 5 ≤ nI k_5 then
      K x_3 k_5
    else
      if 40 ≤ nI k_5 then
        K x_3 k_5
      else
        if f_X5_queue X (35 + 2 * k_5) = a1 then
          if X (35 + 2 * k_5 + 1) 1 = nI k_4 then
            if x_3 = 0 then
              some (35 + 2 * k_5)
            else
              lf_X3_inQueue_14 X a1 a2 k_4 K n (x_3 + (-1)) (k_5 + 1)
          else
            lf_X3_inQueue_14 X a1 a2 k_4 K n x_3 (k_5 + 1)
        else
          lf_X3_inQueue_14 X a1 a2 k_4 K n x_3 (k_5 + 1)
def lf_X3_inQueue_5 (X : gM) (a1 : Int32) (a2 : Int32) (K : (Int32) → (Nat) → (Option Nat)) : Nat → (Int32) → (Nat) → (Option Nat)
  | 0, x_3, k_4 => K x_3 k_4
  | n + 1, x_3, k_4 =>
    if nI k_4 < 1 then
      K x_3 k_4
    else
      lf_X3_inQueue_14 X a1 a2 k_4 (fun x_3w4 k_5w4 =>
            lf_X3_inQueue_5 X a1 a2 K n x_3w4 (k_4 - 1)) 41 x_3 0
def f_X3_inQueue (X : gM) (a1 : Int32) (a2 : Int32) : Option Nat :=
  lf_X3_inQueue_5 X a1 a2 (fun x_3w1 k_4w1 =>
        none) 4 a2 3
set_option maxHeartbeats 4000000 in
set_option maxRecDepth 100000 in
theorem lp_X3_inQueue_14 {p : Program} {l : Launch} {e : Env} {s : State} {m : MethodId} {args : Array Value} {below : List Frame} {meth : Method} {c0 : Code} {D : va_G} {cy : Nat → ClassId} (C : gCtx cX3_inQueue 7 (some (.object "MercuryLine$Ticket")) RX3 wsX3_inQueue D cy p s m args meth c0) (σ : Nat) (X : gM) (a1 : Int32) (a2 : Int32) (k_4 : Nat) (hb_4 : k_4 < 2147483648)
    (K : (Int32) → (Nat) → (Option Nat)) (hexit : ∀ (x_3 : Int32) (k_5 : Nat), k_5 ≤ 40 → ∀ (H : Heap) (locs : List Loc) (ls : Array Slot), SR D cy σ X H → va_S gNo s.heap H locs → lv_has ls 7 [(0, .ref σ), (1, .int a1), (2, .int a2), (3, .int x_3), (4, .int (nI k_4)), (5, .int (nI k_5))] → W p l e { frames := 1, cells := 0, slots := 0, locals := 20 } s m args below meth c0 H locs 0 0 (MQ below (gQq (Option.map (fun c => σ + c) (K x_3 k_5)) (fun _ => True) gNo) args s 0 0 gNo) (F0 m 80 ls [])) :
    ∀ (n : Nat) (x_3 : Int32) (k_5 : Nat), k_5 ≤ 40 → 40 < k_5 + n → ∀ (H : Heap) (locs : List Loc) (ls : Array Slot), SR D cy σ X H → va_S gNo s.heap H locs → lv_has ls 7 [(0, .ref σ), (1, .int a1), (2, .int a2), (3, .int x_3), (4, .int (nI k_4)), (5, .int (nI k_5))] → W p l e { frames := 1, cells := 0, slots := 0, locals := 20 } s m args below meth c0 H locs 0 0 (MQ below (gQq (Option.map (fun c => σ + c) (lf_X3_inQueue_14 X a1 a2 k_4 K n x_3 k_5)) (fun _ => True) gNo) args s 0 0 gNo) (F0 m 14 ls []) := by
  obtain ⟨hx, hb, hr, hts, hown, hlocks, hml, hK⟩ := C
  have lk64 := hts (.fieldLink RX3 64 "MercuryLine$State" "ticketCount" "I") (by decide +kernel)
  have inX3 : ∀ w ∈ u_ws RX3 TX3 14, w ∈ wsX3_inQueue := by decide +kernel
  have lk25 := hts (.fieldLink RX3 25 "MercuryLine$State" "tickets" "[LMercuryLine$Ticket;") (by decide +kernel)
  have lk125 := hts (.fieldLink RX3 125 "MercuryLine$Ticket" "trip" "LMercuryLine$Trip;") (by decide +kernel)
  have inX5 : ∀ w ∈ u_ws RX5 TX5 14, w ∈ wsX3_inQueue := by decide +kernel
  have lk129 := hts (.fieldLink RX3 129 "MercuryLine$Trip" "kind" "I") (by decide +kernel)
  have inX7 : ∀ w ∈ u_ws RX7 TX7 5, w ∈ wsX3_inQueue := by decide +kernel
  intro n
  induction n with
  | zero =>
    intro x_3 k_5 hb_5 hme
    exact absurd hme (by omega)
  | succ n ih =>
    intro x_3 k_5 hb_5 hme H locs ls hR hS hl
    refine lv_iload hx hb dX3_inQueue_14 (lv_at hl 5 rfl) ?_
    refine lv_aload_n hx hb dX3_inQueue_16 rfl (lv_at hl 0 rfl) ?_
    refine va_get (D := D) (ci := 3) (v := .int (X 0 5)) (C := RX3) (T := TX3) (N := 14) hx hb hts inX3 hown hK.1 (SR.mk0 hR) 0 rfl rfl 5 (by decide) lk64 (fun _ h9 => h9) rfl dX3_inQueue_17 ?_
    refine lv_icmp_ge (tgt := 80) hx hb dX3_inQueue_20 (by decide) (fun c_1 => ?_) (fun c_1 => ?_)
    · refine gm_q (Q2 := MQ below (gQq (Option.map (fun c => σ + c) (K x_3 k_5)) (fun _ => True) gNo) args s 0 0 gNo) (by simp only [lf_X3_inQueue_14, ↓if_pos c_1]) ?_
      exact hexit x_3 k_5 hb_5  _ _ _ hR hS (lv_sub hl [0, 1, 2, 3, 4, 5] rfl)
    · have lt_2 : k_5 < 2147483647 := g_big (Nat.lt_of_le_of_lt hb_5 (by decide)) c_1
      refine lv_iload hx hb dX3_inQueue_23 (lv_at hl 5 rfl) ?_
      refine lv_aload_n hx hb dX3_inQueue_25 rfl (lv_at hl 0 rfl) ?_
      refine va_get (D := D) (ci := 3) (v := .ref (σ + 31)) (C := RX3) (T := TX3) (N := 14) hx hb hts inX3 hown hK.1 (SR.mk0 hR) 0 rfl rfl 2 (by decide) lk25 (fun _ h9 => h9) rfl dX3_inQueue_26 ?_
      refine va_alen (v := 40) hx hb hK.1 (SR.mk1 hR (c := 31) (by decide) (bS_25 (by decide))) 0 5 rfl rfl rfl dX3_inQueue_29 ?_
      refine lv_icmp_ge (tgt := 80) hx hb dX3_inQueue_30 (by decide) (fun c_3 => ?_) (fun c_3 => ?_)
      · have ge_4 : 40 ≤ k_5 := g_ge2 (Nat.lt_of_le_of_lt hb_5 (by decide)) (by decide) c_3
        refine gm_q (Q2 := MQ below (gQq (Option.map (fun c => σ + c) (K x_3 k_5)) (fun _ => True) gNo) args s 0 0 gNo) (by simp only [lf_X3_inQueue_14, ↓if_neg c_1, ↓if_pos c_3]) ?_
        exact hexit x_3 k_5 hb_5  _ _ _ hR hS (lv_sub hl [0, 1, 2, 3, 4, 5] rfl)
      · have lt_5 : k_5 < 40 := g_lt (Nat.lt_of_le_of_lt hb_5 (by decide)) (by decide) c_3
        refine lv_aload_n hx hb dX3_inQueue_33 rfl (lv_at hl 0 rfl) ?_
        refine va_get (D := D) (ci := 3) (v := .ref (σ + 31)) (C := RX3) (T := TX3) (N := 14) hx hb hts inX3 hown hK.1 (SR.mk0 hR) 0 rfl rfl 2 (by decide) lk25 (fun _ h9 => h9) rfl dX3_inQueue_34 ?_
        refine lv_iload hx hb dX3_inQueue_37 (lv_at hl 5 rfl) ?_
        refine gm_aald (b := (σ + (35 + 2 * k_5))) hx hb hK.1 (SR.mk1 hR (c := 31) (by decide) (bS_25 (by decide))) 5 rfl (vp_in_nI lt_5 (by decide)) (by rw [nI_clamp (n := k_5) (by omega)]) dX3_inQueue_39 ?_
        refine lv_astore (lv' := [(6, .ref (σ + (35 + 2 * k_5))), (0, .ref σ), (1, .int a1), (2, .int a2), (3, .int x_3), (4, .int (nI k_4)), (5, .int (nI k_5))]) hx hb dX3_inQueue_40 hl (by decide) rfl (fun ls hl => ?_)
        refine lv_aload hx hb dX3_inQueue_42 (lv_at hl 0 rfl) ?_
        refine gm_ci (gm_call (As := []) (rest := []) (ci := 5) (q := (RX5, TX5, 14)) ⟨hx, hb, hml, hown, hts⟩ hK (c_X5_queue l D cy σ X (35 + 2 * k_5) (kd_T k_5 lt_5).1 (kd_T k_5 lt_5).2.1) (cwV 0 hts gX3_inQueue_X5_queue rfl rfl rfl (by decide +kernel) ⟨Nat.le_of_ble_eq_true rfl, Nat.le_of_ble_eq_true rfl⟩) (SR.mk1 hR (c := 35 + 2 * k_5) (kd_T k_5 lt_5).1 (bS_5 (kd_T k_5 lt_5).2.1)) rfl hR rfl hl.1 rfl (Nat.le_of_ble_eq_true rfl) dX3_inQueue_44 (Nat.zero_le _) (Nat.zero_le _)) hS (fun _ h => h.elim) (fun H locs _ _ hfr hS => ?_)
        have hR := gRep.keep hR hfr (fun _ _ h => h)
        refine lv_iload_n hx hb dX3_inQueue_47 rfl (lv_at hl 2 rfl) ?_
        refine lv_icmp_ne (tgt := 74) hx hb dX3_inQueue_48 (by decide) (fun c_6 => ?_) (fun c_6 => ?_)
        · refine lv_iinc (v := nI (k_5 + 1)) (lv' := [(5, .int (nI (k_5 + 1))), (6, .ref (σ + (35 + 2 * k_5))), (0, .ref σ), (1, .int a1), (2, .int a2), (3, .int x_3), (4, .int (nI k_4))]) hx hb dX3_inQueue_74 hl (k := 6) rfl (nI_1 _) (by decide) rfl (fun ls hl => ?_)
          refine lv_goto (tgt := 14) hx hb dX3_inQueue_77 (by decide) ?_
          refine gm_q (Q2 := MQ below (gQq (Option.map (fun c => σ + c) (lf_X3_inQueue_14 X a1 a2 k_4 K n x_3 (k_5 + 1))) (fun _ => True) gNo) args s 0 0 gNo) (by simp only [lf_X3_inQueue_14, ↓if_neg c_1, ↓if_neg c_3, ↓if_neg c_6]) ?_
          exact ih x_3 (k_5 + 1) lt_5 (by omega) _ _ _ hR hS (lv_sub hl [2, 3, 4, 5, 6, 0] rfl)
        · refine lv_aload hx hb dX3_inQueue_51 (lv_at hl 0 rfl) ?_
          refine va_get (D := D) (ci := 5) (v := .ref (σ + (35 + 2 * k_5 + 1))) (C := RX5) (T := TX5) (N := 14) hx hb hts inX5 hown hK.1 (SR.mk1 hR (c := 35 + 2 * k_5) (kd_T k_5 lt_5).1 (bS_5 (kd_T k_5 lt_5).2.1)) 0 rfl rfl 1 (by decide) lk125 (fun _ h9 => h9) rfl dX3_inQueue_53 ?_
          refine va_get (D := D) (ci := 7) (v := .int (X (35 + 2 * k_5 + 1) 1)) (C := RX7) (T := TX7) (N := 5) hx hb hts inX7 hown hK.1 (SR.mk1 hR (c := 35 + 2 * k_5 + 1) (kd_5 (35 + 2 * k_5) (kd_T k_5 lt_5).1 (kd_T k_5 lt_5).2.1).1 (bS_7 (kd_5 (35 + 2 * k_5) (kd_T k_5 lt_5).1 (kd_T k_5 lt_5).2.1).2)) 0 rfl rfl 1 (by decide) lk129 (fun _ h9 => h9) rfl dX3_inQueue_56 ?_
          refine lv_iload hx hb dX3_inQueue_59 (lv_at hl 5 rfl) ?_
          refine lv_icmp_ne (tgt := 74) hx hb dX3_inQueue_61 (by decide) (fun c_7 => ?_) (fun c_7 => ?_)
          · refine lv_iinc (v := nI (k_5 + 1)) (lv' := [(5, .int (nI (k_5 + 1))), (6, .ref (σ + (35 + 2 * k_5))), (0, .ref σ), (1, .int a1), (2, .int a2), (3, .int x_3), (4, .int (nI k_4))]) hx hb dX3_inQueue_74 hl (k := 6) rfl (nI_1 _) (by decide) rfl (fun ls hl => ?_)
            refine lv_goto (tgt := 14) hx hb dX3_inQueue_77 (by decide) ?_
            refine gm_q (Q2 := MQ below (gQq (Option.map (fun c => σ + c) (lf_X3_inQueue_14 X a1 a2 k_4 K n x_3 (k_5 + 1))) (fun _ => True) gNo) args s 0 0 gNo) (by simp only [lf_X3_inQueue_14, ↓if_neg c_1, ↓if_neg c_3, ↓if_pos c_6, ↓if_neg c_7]) ?_
            exact ih x_3 (k_5 + 1) lt_5 (by omega) _ _ _ hR hS (lv_sub hl [2, 3, 4, 5, 6, 0] rfl)
          · refine lv_iload_n hx hb dX3_inQueue_64 rfl (lv_at hl 4 rfl) ?_
            refine lv_if_ne (tgt := 71) hx hb dX3_inQueue_65 (by decide) (fun c_8 => ?_) (fun c_8 => ?_)
            · refine lv_iinc (v := x_3 + (-1)) (lv' := [(3, .int (x_3 + (-1))), (6, .ref (σ + (35 + 2 * k_5))), (0, .ref σ), (1, .int a1), (2, .int a2), (4, .int (nI k_4)), (5, .int (nI k_5))]) hx hb dX3_inQueue_71 hl (k := 4) rfl rfl (by decide) rfl (fun ls hl => ?_)
              refine lv_iinc (v := nI (k_5 + 1)) (lv' := [(5, .int (nI (k_5 + 1))), (3, .int (x_3 + (-1))), (6, .ref (σ + (35 + 2 * k_5))), (0, .ref σ), (1, .int a1), (2, .int a2), (4, .int (nI k_4))]) hx hb dX3_inQueue_74 hl (k := 6) rfl (nI_1 _) (by decide) rfl (fun ls hl => ?_)
              refine lv_goto (tgt := 14) hx hb dX3_inQueue_77 (by decide) ?_
              refine gm_q (Q2 := MQ below (gQq (Option.map (fun c => σ + c) (lf_X3_inQueue_14 X a1 a2 k_4 K n (x_3 + (-1)) (k_5 + 1))) (fun _ => True) gNo) args s 0 0 gNo) (by simp only [lf_X3_inQueue_14, ↓if_neg c_1, ↓if_neg c_3, ↓if_pos c_6, ↓if_pos c_7, ↓if_neg c_8]) ?_
              exact ih (x_3 + (-1)) (k_5 + 1) lt_5 (by omega) _ _ _ hR hS (lv_sub hl [3, 4, 5, 1, 6, 0] rfl)
            · refine lv_aload hx hb dX3_inQueue_68 (lv_at hl 0 rfl) ?_
              exact gm_aret hx hb hr hlocks hS (by (try simp only [lf_X3_inQueue_14, ↓if_neg c_1, ↓if_neg c_3, ↓if_pos c_6, ↓if_pos c_7, ↓if_pos c_8]); (try rfl)) trivial dX3_inQueue_70
set_option maxHeartbeats 4000000 in
set_option maxRecDepth 100000 in
theorem lp_X3_inQueue_5 {p : Program} {l : Launch} {e : Env} {s : State} {m : MethodId} {args : Array Value} {below : List Frame} {meth : Method} {c0 : Code} {D : va_G} {cy : Nat → ClassId} (C : gCtx cX3_inQueue 7 (some (.object "MercuryLine$Ticket")) RX3 wsX3_inQueue D cy p s m args meth c0) (σ : Nat) (X : gM) (a1 : Int32) (a2 : Int32) 
    (K : (Int32) → (Nat) → (Option Nat)) (hexit : ∀ (x_3 : Int32) (k_4 : Nat), k_4 ≤ 3 → ∀ (H : Heap) (locs : List Loc) (ls : Array Slot), SR D cy σ X H → va_S gNo s.heap H locs → lv_has ls 7 [(0, .ref σ), (1, .int a1), (2, .int a2), (3, .int x_3), (4, .int (nI k_4))] → W p l e { frames := 1, cells := 0, slots := 0, locals := 20 } s m args below meth c0 H locs 0 0 (MQ below (gQq (Option.map (fun c => σ + c) (K x_3 k_4)) (fun _ => True) gNo) args s 0 0 gNo) (F0 m 86 ls [])) :
    ∀ (n : Nat) (x_3 : Int32) (k_4 : Nat), k_4 ≤ 3 → k_4 < n → ∀ (H : Heap) (locs : List Loc) (ls : Array Slot), SR D cy σ X H → va_S gNo s.heap H locs → lv_has ls 7 [(0, .ref σ), (1, .int a1), (2, .int a2), (3, .int x_3), (4, .int (nI k_4))] → W p l e { frames := 1, cells := 0, slots := 0, locals := 20 } s m args below meth c0 H locs 0 0 (MQ below (gQq (Option.map (fun c => σ + c) (lf_X3_inQueue_5 X a1 a2 K n x_3 k_4)) (fun _ => True) gNo) args s 0 0 gNo) (F0 m 5 ls []) := by
  obtain ⟨hx, hb, hr, hts, hown, hlocks, hml, hK⟩ := C
  intro n
  induction n with
  | zero =>
    intro x_3 k_4 hb_4 hme
    exact absurd hme (by omega)
  | succ n ih =>
    intro x_3 k_4 hb_4 hme H locs ls hR hS hl
    refine lv_iload hx hb dX3_inQueue_5 (lv_at hl 4 rfl) ?_
    refine lv_iconst (v := 1) hx hb dX3_inQueue_7 (by decide) ?_
    refine lv_icmp_lt (tgt := 86) hx hb dX3_inQueue_8 (by decide) (fun c_1 => ?_) (fun c_1 => ?_)
    · have lt_2 : k_4 < 1 := g_lt2 (Nat.lt_of_le_of_lt hb_4 (by decide)) (by decide) c_1
      refine gm_q (Q2 := MQ below (gQq (Option.map (fun c => σ + c) (K x_3 k_4)) (fun _ => True) gNo) args s 0 0 gNo) (by simp only [lf_X3_inQueue_5, ↓if_pos c_1]) ?_
      exact hexit x_3 k_4 hb_4  _ _ _ hR hS (lv_sub hl [0, 1, 2, 3, 4] rfl)
    · have ge_3 : 1 ≤ k_4 := g_ge (Nat.lt_of_le_of_lt hb_4 (by decide)) (by decide) c_1
      refine lv_iconst (v := 0) hx hb dX3_inQueue_11 (by decide) ?_
      refine lv_istore (lv' := [(5, .int 0), (0, .ref σ), (1, .int a1), (2, .int a2), (3, .int x_3), (4, .int (nI k_4))]) hx hb dX3_inQueue_12 hl (by decide) rfl (fun ls hl => ?_)
      refine gm_q (Q2 := MQ below (gQq (Option.map (fun c => σ + c) (lf_X3_inQueue_14 X a1 a2 k_4 (fun x_3w4 k_5w4 =>
            lf_X3_inQueue_5 X a1 a2 K n x_3w4 (k_4 - 1)) 41 x_3 0)) (fun _ => True) gNo) args s 0 0 gNo) (by simp only [lf_X3_inQueue_5, ↓if_neg c_1]) ?_
      refine lp_X3_inQueue_14 ⟨hx, hb, hr, hts, hown, hlocks, hml, hK⟩ σ X a1 a2 k_4 (by omega) _ (fun x_3w4 k_5w4 hbk_5w4 H locs ls hR hS hl => ?_) 41 x_3 0 (by decide) (by omega) _ _ _ hR hS (lv_sub hl [1, 2, 3, 4, 5, 0] rfl)
      refine lv_iinc (v := nI (k_4 - 1)) (lv' := [(4, .int (nI (k_4 - 1))), (0, .ref σ), (1, .int a1), (2, .int a2), (3, .int x_3w4), (5, .int (nI k_5w4))]) hx hb dX3_inQueue_80 hl (k := 4) rfl (g_dec (by omega)) (by decide) rfl (fun ls hl => ?_)
      refine lv_goto (tgt := 5) hx hb dX3_inQueue_83 (by decide) ?_
      refine gm_q (Q2 := MQ below (gQq (Option.map (fun c => σ + c) (lf_X3_inQueue_5 X a1 a2 K n x_3w4 (k_4 - 1))) (fun _ => True) gNo) args s 0 0 gNo) (by simp only [lf_X3_inQueue_5, ↓if_neg c_1]) ?_
      exact ih x_3w4 (k_4 - 1) (by omega) (by omega) _ _ _ hR hS (lv_sub hl [1, 2, 3, 4, 0] rfl)
set_option maxHeartbeats 4000000 in
set_option maxRecDepth 100000 in
theorem c_X3_inQueue (l : Launch) (D : va_G) (cy : Nat → ClassId) (σ : Nat) (X : gM) (a1 : Int32) (a2 : Int32)  : Met l yX3_inQueue wsX3_inQueue ({ frames := 1, cells := 0, slots := 0, locals := 20 }) (gP [.ref σ, .int a1, .int a2] D cy (SR D cy σ X)) (gQq (Option.map (fun c => σ + c) (f_X3_inQueue X a1 a2)) (fun _ => True) gNo) 0 0 gNo := by
  refine gm_met (cc := cX3_inQueue) (maxL := 7) (ret := (some (.object "MercuryLine$Ticket"))) [.ref σ, .int a1, .int a2] (by decide) rfl (Nat.le_of_ble_eq_true rfl) ?_
  intro p e s m args below meth c0 ls C hR hl
  obtain ⟨hx, hb, hr, hts, hown, hlocks, hml, hK⟩ := C
  have hl : lv_has ls 7 [(0, .ref σ), (1, .int a1), (2, .int a2)] := hl
  have hS : va_S gNo s.heap s.heap [] := va_S.rf
  refine lv_iload_n hx hb dX3_inQueue_0 rfl (lv_at hl 2 rfl) ?_
  refine lv_istore_n (lv' := [(3, .int a2), (0, .ref σ), (1, .int a1), (2, .int a2)]) hx hb dX3_inQueue_1 rfl hl (by decide) rfl (fun ls hl => ?_)
  refine lv_iconst (v := 3) hx hb dX3_inQueue_2 (by decide) ?_
  refine lv_istore (lv' := [(4, .int 3), (3, .int a2), (0, .ref σ), (1, .int a1), (2, .int a2)]) hx hb dX3_inQueue_3 hl (by decide) rfl (fun ls hl => ?_)
  refine gm_q (Q2 := MQ below (gQq (Option.map (fun c => σ + c) (lf_X3_inQueue_5 X a1 a2 (fun x_3w1 k_4w1 =>
        none) 4 a2 3)) (fun _ => True) gNo) args s 0 0 gNo) (by simp only [f_X3_inQueue]) ?_
  refine lp_X3_inQueue_5 ⟨hx, hb, hr, hts, hown, hlocks, hml, hK⟩ σ X a1 a2  _ (fun x_3w1 k_4w1 hbk_4w1 H locs ls hR hS hl => ?_) 4 a2 3 (by decide) (by omega) _ _ _ hR hS (lv_sub hl [2, 3, 4, 1, 0] rfl)
  refine lv_null hx hb dX3_inQueue_86 ?_
  exact gm_aret hx hb hr hlocks hS (by (try simp only [f_X3_inQueue]); (try rfl)) trivial dX3_inQueue_87
theorem fk_X3_inQueue_l {X : gM} {a1 a2 : Int32} {k4 : Nat} {K : Int32 → Nat → Option Nat} (hK : ∀ x k q, K x k = some q → q < 123 ∧ kdS q = 5) : ∀ (n : Nat) (x : Int32) (k : Nat), k ≤ 40 → ∀ q, lf_X3_inQueue_14 X a1 a2 k4 K n x k = some q → q < 123 ∧ kdS q = 5 := by
  intro n
  induction n with
  | zero => intro x k _ q h; exact hK x k q h
  | succ n ih =>
    intro x k hk q h
    unfold lf_X3_inQueue_14 at h
    have hk2 : k < 2 ^ 31 := Nat.lt_of_le_of_lt hk (by decide)
    split at h
    · exact hK _ _ q h
    · split at h
      · exact hK _ _ q h
      · rename_i _ hlt
        have hlt := g_lt hk2 (N := 40) (by decide) hlt
        split at h
        · split at h
          · split at h
            · cases h
              exact ⟨(kd_T _ hlt).1, (kd_T _ hlt).2.1⟩
            · exact ih _ _ hlt q h
          · exact ih _ _ hlt q h
        · exact ih _ _ hlt q h
theorem fk_X3_inQueue_m {X : gM} {a1 a2 : Int32} {K : Int32 → Nat → Option Nat} (hK : ∀ x k q, K x k = some q → q < 123 ∧ kdS q = 5) : ∀ (n : Nat) (x : Int32) (k : Nat) (q : Nat), lf_X3_inQueue_5 X a1 a2 K n x k = some q → q < 123 ∧ kdS q = 5 := by
  intro n
  induction n with
  | zero => intro x k q h; exact hK x k q h
  | succ n ih =>
    intro x k q h
    unfold lf_X3_inQueue_5 at h
    split at h
    · exact hK _ _ q h
    · exact fk_X3_inQueue_l (fun x' _ q' h' => ih _ _ q' h') 41 _ 0 (by decide) q h
theorem fk_X3_inQueue {X : gM} {a1 a2 : Int32} {q : Nat} (h : f_X3_inQueue X a1 a2 = some q) : q < 123 ∧ kdS q = 5 :=
  fk_X3_inQueue_m (fun _ _ q h => by cases h) 4 a2 3 q h
