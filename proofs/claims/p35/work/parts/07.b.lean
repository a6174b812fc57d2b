def f_X8_isLine (a1 : Int32) : Int32 :=
  if a1 = 0 then
    1
  else
    if a1 = 1 then
      1
    else
      0
set_option maxHeartbeats 4000000 in
set_option maxRecDepth 100000 in
theorem c_X8_isLine (l : Launch) (D : va_G) (cy : Nat → ClassId) (a1 : Int32)  : Met l yX8_isLine wsX8_isLine ({ frames := 0, cells := 0, slots := 0, locals := 0 }) (gP [.int a1] D cy (fun _ => True)) (gQi (f_X8_isLine a1) (fun _ => True) gNo) 0 0 gNo := by
  refine gm_met (cc := cX8_isLine) (maxL := 1) (ret := (some .boolean)) [.int a1] (by decide) rfl (Nat.le_of_ble_eq_true rfl) ?_
  intro p e s m args below meth c0 ls C hR hl
  obtain ⟨hx, hb, hr, hts, hown, hlocks, hml, hK⟩ := C
  have hl : lv_has ls 1 [(0, .int a1)] := hl
  have hS : va_S gNo s.heap s.heap [] := va_S.rf
  refine lv_iload_n hx hb dX8_isLine_0 rfl (lv_at hl 0 rfl) ?_
  refine lv_if_eq (tgt := 9) hx hb dX8_isLine_1 (by decide) (fun c_1 => ?_) (fun c_1 => ?_)
  · refine lv_iconst (v := 1) hx hb dX8_isLine_9 (by decide) ?_
    refine lv_goto (tgt := 14) hx hb dX8_isLine_10 (by decide) ?_
    exact gm_zret hx hb hr hlocks rfl hS (by (try simp only [f_X8_isLine, ↓if_pos c_1]); (try rfl)) trivial dX8_isLine_14
  · refine lv_iload_n hx hb dX8_isLine_4 rfl (lv_at hl 0 rfl) ?_
    refine lv_iconst (v := 1) hx hb dX8_isLine_5 (by decide) ?_
    refine lv_icmp_ne (tgt := 13) hx hb dX8_isLine_6 (by decide) (fun c_2 => ?_) (fun c_2 => ?_)
    · refine lv_iconst (v := 0) hx hb dX8_isLine_13 (by decide) ?_
      exact gm_zret hx hb hr hlocks rfl hS (by (try simp only [f_X8_isLine, ↓if_neg c_1, ↓if_neg c_2]); (try rfl)) trivial dX8_isLine_14
    · refine lv_iconst (v := 1) hx hb dX8_isLine_9 (by decide) ?_
      refine lv_goto (tgt := 14) hx hb dX8_isLine_10 (by decide) ?_
      exact gm_zret hx hb hr hlocks rfl hS (by (try simp only [f_X8_isLine, ↓if_neg c_1, ↓if_pos c_2]); (try rfl)) trivial dX8_isLine_14
theorem f_X8_isLine_b (a : Int32) : f_X8_isLine a = 0 ∨ f_X8_isLine a = 1 := by
  unfold f_X8_isLine
  repeat' split
  all_goals first | exact Or.inl rfl | exact Or.inr rfl
def f_X8_numberOf_N  : Int32 :=
  (-5)
set_option maxHeartbeats 4000000 in
set_option maxRecDepth 100000 in
theorem c_X8_numberOf_N (l : Launch) (D : va_G) (cy : Nat → ClassId)   : Met l yX8_numberOf wsX8_numberOf ({ frames := 0, cells := 0, slots := 0, locals := 0 }) (gP [.null] D cy (fun _ => True)) (gQi (f_X8_numberOf_N) (fun _ => True) gNo) 0 0 gNo := by
  refine gm_met (cc := cX8_numberOf) (maxL := 1) (ret := (some .int)) [.null] (by decide) rfl (Nat.le_of_ble_eq_true rfl) ?_
  intro p e s m args below meth c0 ls C hR hl
  obtain ⟨hx, hb, hr, hts, hown, hlocks, hml, hK⟩ := C
  have hl : lv_has ls 1 [(0, .null)] := hl
  have hS : va_S gNo s.heap s.heap [] := va_S.rf
  refine lv_aload_nN hx hb dX8_numberOf_0 rfl (lv_at hl 0 rfl) ?_
  refine lv_ifnonnullN hx hb dX8_numberOf_1 ?_
  refine lv_bipush (v := (-5)) hx hb dX8_numberOf_4 (by decide) ?_
  refine lv_goto (tgt := 13) hx hb dX8_numberOf_6 (by decide) ?_
  exact gm_iret hx hb hr hlocks hS (by (try simp only [f_X8_numberOf_N]); (try rfl)) trivial dX8_numberOf_13
def f_X8_numberOf_R (X : gM) (c1 : Nat) : Int32 :=
  nI (nTic c1)
set_option maxHeartbeats 4000000 in
set_option maxRecDepth 100000 in
theorem c_X8_numberOf_R (l : Launch) (D : va_G) (cy : Nat → ClassId) (σ : Nat) (X : gM) (c1 : Nat) (hc1 : c1 < 123) (hk1 : kdS c1 = 5) : Met l yX8_numberOf wsX8_numberOf ({ frames := 0, cells := 0, slots := 0, locals := 0 }) (gP [.ref (σ + c1)] D cy (SR D cy σ X)) (gQi (f_X8_numberOf_R X c1) (fun _ => True) gNo) 0 0 gNo := by
  refine gm_met (cc := cX8_numberOf) (maxL := 1) (ret := (some .int)) [.ref (σ + c1)] (by decide) rfl (Nat.le_of_ble_eq_true rfl) ?_
  intro p e s m args below meth c0 ls C hR hl
  obtain ⟨hx, hb, hr, hts, hown, hlocks, hml, hK⟩ := C
  have hl : lv_has ls 1 [(0, .ref (σ + c1))] := hl
  have hS : va_S gNo s.heap s.heap [] := va_S.rf
  have lk358 := hts (.fieldLink RX8 358 "MercuryLine$Ticket" "number" "I") (by decide +kernel)
  have inX5 : ∀ w ∈ u_ws RX5 TX5 14, w ∈ wsX8_numberOf := by decide +kernel
  refine lv_aload_n hx hb dX8_numberOf_0 rfl (lv_at hl 0 rfl) ?_
  refine lv_ifnonnull (tgt := 9) hx hb dX8_numberOf_1 (by decide) ?_
  refine lv_aload_n hx hb dX8_numberOf_9 rfl (lv_at hl 0 rfl) ?_
  refine va_get (D := D) (ci := 5) (v := .int (nI (nTic c1))) (C := RX5) (T := TX5) (N := 14) hx hb hts inX5 hown hK.1 (SR.mk1 hR (c := c1) hc1 (bS_5 hk1)) 0 rfl rfl 0 (by decide) lk358 (fun _ h9 => h9) rfl dX8_numberOf_10 ?_
  exact gm_iret hx hb hr hlocks hS (by (try simp only [f_X8_numberOf_R]); (try rfl)) trivial dX8_numberOf_13
def f_X8_fateTold (X : gM) (c1 : Nat) (a2 : Int32) (a3 : Int32) : Int32 :=
  if a2 = 0 then
    X c1 4
  else
    if a2 = 1 then
      a3
    else
      if a2 = 2 then
        X c1 10
      else
        X c1 2
set_option maxHeartbeats 4000000 in
set_option maxRecDepth 100000 in
theorem c_X8_fateTold (l : Launch) (D : va_G) (cy : Nat → ClassId) (σ : Nat) (X : gM) (c1 : Nat) (a2 : Int32) (a3 : Int32) (hc1 : c1 < 123) (hk1 : kdS c1 = 5) : Met l yX8_fateTold wsX8_fateTold ({ frames := 0, cells := 0, slots := 0, locals := 0 }) (gP [.ref (σ + c1), .int a2, .int a3] D cy (SR D cy σ X)) (gQi (f_X8_fateTold X c1 a2 a3) (fun _ => True) gNo) 0 0 gNo := by
  refine gm_met (cc := cX8_fateTold) (maxL := 3) (ret := (some .int)) [.ref (σ + c1), .int a2, .int a3] (by decide) rfl (Nat.le_of_ble_eq_true rfl) ?_
  intro p e s m args below meth c0 ls C hR hl
  obtain ⟨hx, hb, hr, hts, hown, hlocks, hml, hK⟩ := C
  have hl : lv_has ls 3 [(0, .ref (σ + c1)), (1, .int a2), (2, .int a3)] := hl
  have hS : va_S gNo s.heap s.heap [] := va_S.rf
  have lk287 := hts (.fieldLink RX8 287 "MercuryLine$Ticket" "state" "I") (by decide +kernel)
  have inX5 : ∀ w ∈ u_ws RX5 TX5 14, w ∈ wsX8_fateTold := by decide +kernel
  have lk303 := hts (.fieldLink RX8 303 "MercuryLine$Ticket" "endedAt" "I") (by decide +kernel)
  have lk283 := hts (.fieldLink RX8 283 "MercuryLine$Ticket" "lapsLeft" "I") (by decide +kernel)
  refine lv_iload_n hx hb dX8_fateTold_0 rfl (lv_at hl 1 rfl) ?_
  rcases Decidable.em (a2 = 0) with c_1 | c_1
  · refine lv_tableIn (tgt := 28) hx hb dX8_fateTold_1 (by rw [c_1]; decide) (by rw [c_1]; decide) (by rw [c_1]; rfl) (by decide) ?_
    refine lv_aload_n hx hb dX8_fateTold_28 rfl (lv_at hl 0 rfl) ?_
    refine va_get (D := D) (ci := 5) (v := .int (X c1 4)) (C := RX5) (T := TX5) (N := 14) hx hb hts inX5 hown hK.1 (SR.mk1 hR (c := c1) hc1 (bS_5 hk1)) 0 rfl rfl 4 (by decide) lk287 (fun _ h9 => h9) rfl dX8_fateTold_29 ?_
    exact gm_iret hx hb hr hlocks hS (by (try simp only [f_X8_fateTold, ↓if_pos c_1]); (try rfl)) trivial dX8_fateTold_32
  · skip
    rcases Decidable.em (a2 = 1) with c_2 | c_2
    · refine lv_tableIn (tgt := 33) hx hb dX8_fateTold_1 (by rw [c_2]; decide) (by rw [c_2]; decide) (by rw [c_2]; rfl) (by decide) ?_
      refine lv_iload_n hx hb dX8_fateTold_33 rfl (lv_at hl 2 rfl) ?_
      exact gm_iret hx hb hr hlocks hS (by (try simp only [f_X8_fateTold, ↓if_neg c_1, ↓if_pos c_2]); (try rfl)) trivial dX8_fateTold_34
    · skip
      rcases Decidable.em (a2 = 2) with c_3 | c_3
      · refine lv_tableIn (tgt := 35) hx hb dX8_fateTold_1 (by rw [c_3]; decide) (by rw [c_3]; decide) (by rw [c_3]; rfl) (by decide) ?_
        refine lv_aload_n hx hb dX8_fateTold_35 rfl (lv_at hl 0 rfl) ?_
        refine va_get (D := D) (ci := 5) (v := .int (X c1 10)) (C := RX5) (T := TX5) (N := 14) hx hb hts inX5 hown hK.1 (SR.mk1 hR (c := c1) hc1 (bS_5 hk1)) 0 rfl rfl 10 (by decide) lk303 (fun _ h9 => h9) rfl dX8_fateTold_36 ?_
        exact gm_iret hx hb hr hlocks hS (by (try simp only [f_X8_fateTold, ↓if_neg c_1, ↓if_neg c_2, ↓if_pos c_3]); (try rfl)) trivial dX8_fateTold_39
      · skip
        refine lv_tableOut (tgt := 40) hx hb dX8_fateTold_1 (g_sw0_2 c_1 c_2 c_3) (by decide) ?_
        refine lv_aload_n hx hb dX8_fateTold_40 rfl (lv_at hl 0 rfl) ?_
        refine va_get (D := D) (ci := 5) (v := .int (X c1 2)) (C := RX5) (T := TX5) (N := 14) hx hb hts inX5 hown hK.1 (SR.mk1 hR (c := c1) hc1 (bS_5 hk1)) 0 rfl rfl 2 (by decide) lk283 (fun _ h9 => h9) rfl dX8_fateTold_41 ?_
        exact gm_iret hx hb hr hlocks hS (by (try simp only [f_X8_fateTold, ↓if_neg c_1, ↓if_neg c_2, ↓if_neg c_3]); (try rfl)) trivial dX8_fateTold_44
def f_X8_line (X : gM) (a1 : Int32) (a2 : Int32) : Int32 :=
  if f_X8_isLine a1 = 0 then
    (-1)
  else
    if a2 = 0 then
      vw 0 X (f_X3_lineOf (vw 0 X) a1) 4
    else
      if a2 = 1 then
        vw 0 X (f_X3_lineOf (vw 0 X) a1) 5
      else
        if a2 = 2 then
          (vw 0 X (f_X3_lineOf (vw 0 X) a1) 6) + 100
        else
          if a2 = 3 then
            (vw 0 X (f_X3_lineOf (vw 0 X) a1) 7) + 100
          else
            if a2 = 4 then
              vw 0 X (f_X3_lineOf (vw 0 X) a1) 3
            else
              if a2 = 5 then
                f_X0_riderCount (vw 0 X) (f_X3_lineOf (vw 0 X) a1)
              else
                if a2 = 6 then
                  f_X3_hallLength (vw 0 X) (f_X3_lineOf (vw 0 X) a1)
                else
                  if a2 = 7 then
                    vw 0 X (f_X3_lineOf (vw 0 X) a1) 8
                  else
                    if a2 = 8 then
                      vw 0 X (f_X3_lineOf (vw 0 X) a1) 9
                    else
                      (-2)
set_option maxHeartbeats 4000000 in
set_option maxRecDepth 100000 in
theorem c_X8_line (l : Launch) (D : va_G) (cy : Nat → ClassId) (β : Nat) (X : gM) (a1 : Int32) (a2 : Int32)  : Met l yX8_line wsX8_line ({ frames := 1, cells := 0, slots := 0, locals := 23 }) (gP [.ref β, .int a1, .int a2] D cy (TR D cy β X)) (gQi (f_X8_line X a1 a2) (fun _ => True) gNo) 0 0 gNo := by
  refine gm_met (cc := cX8_line) (maxL := 4) (ret := (some .int)) [.ref β, .int a1, .int a2] (by decide) rfl (Nat.le_of_ble_eq_true rfl) ?_
  intro p e s m args below meth c0 ls C hR hl
  obtain ⟨hx, hb, hr, hts, hown, hlocks, hml, hK⟩ := C
  have hl : lv_has ls 4 [(0, .ref β), (1, .int a1), (2, .int a2)] := hl
  have hS : va_S gNo s.heap s.heap [] := va_S.rf
  have lk10 := hts (.fieldLink RX8 10 "MercuryLine" "now" "LMercuryLine$State;") (by decide +kernel)
  have inX8 : ∀ w ∈ u_ws RX8 TX8 8, w ∈ wsX8_line := by decide +kernel
  have lk61 := hts (.fieldLink RX8 61 "MercuryLine$Line" "slots" "I") (by decide +kernel)
  have inX0 : ∀ w ∈ u_ws RX0 TX0 10, w ∈ wsX8_line := by decide +kernel
  have lk226 := hts (.fieldLink RX8 226 "MercuryLine$Line" "phase" "I") (by decide +kernel)
  have lk229 := hts (.fieldLink RX8 229 "MercuryLine$Line" "drift" "I") (by decide +kernel)
  have lk82 := hts (.fieldLink RX8 82 "MercuryLine$Line" "heat" "I") (by decide +kernel)
  have lk75 := hts (.fieldLink RX8 75 "MercuryLine$Line" "stationCount" "I") (by decide +kernel)
  have lk236 := hts (.fieldLink RX8 236 "MercuryLine$Line" "paused" "I") (by decide +kernel)
  have lk239 := hts (.fieldLink RX8 239 "MercuryLine$Line" "skipped" "I") (by decide +kernel)
  refine lv_iload_n hx hb dX8_line_0 rfl (lv_at hl 1 rfl) ?_
  refine gm_ci (gm_callS (As := [.int a1]) (rest := []) ⟨hx, hb, hml, hown, hts⟩ hK (c_X8_isLine l D cy a1) (va_cwS 1 hts gX8_line_X8_isLine rfl rfl rfl (by decide +kernel) ⟨Nat.le_of_ble_eq_true rfl, Nat.le_of_ble_eq_true rfl⟩) trivial rfl hl.1 rfl (Nat.le_of_ble_eq_true rfl) dX8_line_1 (Nat.zero_le _) (Nat.zero_le _)) hS (fun _ h => h.elim) (fun H locs _ _ hfr hS => ?_)
  have hR := gRep.keep hR hfr (fun _ _ h => h)
  refine lv_if_ne (tgt := 9) hx hb dX8_line_4 (by decide) (fun c_1 => ?_) (fun c_1 => ?_)
  · refine lv_aload_n hx hb dX8_line_9 rfl (lv_at hl 0 rfl) ?_
    refine va_get (D := D) (ci := 8) (v := .ref (β + off 0)) (C := RX8) (T := TX8) (N := 8) hx hb hts inX8 hown hK.1 (TR.mk0 hR) 0 rfl rfl 0 (by decide) lk10 (fun _ h9 => h9) rfl dX8_line_10 ?_
    refine lv_iload_n hx hb dX8_line_13 rfl (lv_at hl 1 rfl) ?_
    refine gm_cq (gm_call (As := [.int a1]) (rest := []) (ci := 3) (q := (RX3, TX3, 14)) ⟨hx, hb, hml, hown, hts⟩ hK (c_X3_lineOf l D cy (β + off 0) (vw 0 X) a1) (cwV 1 hts gX8_line_X3_lineOf rfl rfl rfl (by decide +kernel) ⟨Nat.le_of_ble_eq_true rfl, Nat.le_of_ble_eq_true rfl⟩) (SR.mk0 (TR.st hR (by decide))) rfl (TR.st hR (by decide)) rfl hl.1 rfl (Nat.le_of_ble_eq_true rfl) dX8_line_14 (Nat.zero_le _) (Nat.zero_le _)) hS (fun _ h => h.elim) (fun H locs _ _ hfr hS => ?_)
    have hR := gRep.keep hR hfr (fun _ _ h => h)
    refine W.eq (g2 := F0 m 17 ls [.ref (β + off 0 + (f_X3_lineOf (vw 0 X) a1))]) rfl ?_
    refine lv_astore_n (lv' := [(3, .ref (β + off 0 + (f_X3_lineOf (vw 0 X) a1))), (0, .ref β), (1, .int a1), (2, .int a2)]) hx hb dX8_line_17 rfl hl (by decide) rfl (fun ls hl => ?_)
    refine lv_iload_n hx hb dX8_line_18 rfl (lv_at hl 3 rfl) ?_
    rcases Decidable.em (a2 = 0) with c_2 | c_2
    · refine lv_tableIn (tgt := 68) hx hb dX8_line_19 (by rw [c_2]; decide) (by rw [c_2]; decide) (by rw [c_2]; rfl) (by decide) ?_
      refine lv_aload_n hx hb dX8_line_68 rfl (lv_at hl 0 rfl) ?_
      refine va_get (D := D) (ci := 0) (v := .int (vw 0 X (f_X3_lineOf (vw 0 X) a1) 4)) (C := RX0) (T := TX0) (N := 10) hx hb hts inX0 hown hK.1 (SR.mk1 (TR.st hR (by decide)) (c := f_X3_lineOf (vw 0 X) a1) (fk_X3_lineOf (vw 0 X) a1).1 (bS_0 (fk_X3_lineOf (vw 0 X) a1).2)) 0 rfl rfl 4 (by decide) lk61 (fun _ h9 => h9) rfl dX8_line_69 ?_
      exact gm_iret hx hb hr hlocks hS (by (try simp only [f_X8_line, ↓if_neg c_1, ↓if_pos c_2]); (try rfl)) trivial dX8_line_72
    · skip
      rcases Decidable.em (a2 = 1) with c_3 | c_3
      · refine lv_tableIn (tgt := 73) hx hb dX8_line_19 (by rw [c_3]; decide) (by rw [c_3]; decide) (by rw [c_3]; rfl) (by decide) ?_
        refine lv_aload_n hx hb dX8_line_73 rfl (lv_at hl 0 rfl) ?_
        refine va_get (D := D) (ci := 0) (v := .int (vw 0 X (f_X3_lineOf (vw 0 X) a1) 5)) (C := RX0) (T := TX0) (N := 10) hx hb hts inX0 hown hK.1 (SR.mk1 (TR.st hR (by decide)) (c := f_X3_lineOf (vw 0 X) a1) (fk_X3_lineOf (vw 0 X) a1).1 (bS_0 (fk_X3_lineOf (vw 0 X) a1).2)) 0 rfl rfl 5 (by decide) lk226 (fun _ h9 => h9) rfl dX8_line_74 ?_
        exact gm_iret hx hb hr hlocks hS (by (try simp only [f_X8_line, ↓if_neg c_1, ↓if_neg c_2, ↓if_pos c_3]); (try rfl)) trivial dX8_line_77
      · skip
        rcases Decidable.em (a2 = 2) with c_4 | c_4
        · refine lv_tableIn (tgt := 78) hx hb dX8_line_19 (by rw [c_4]; decide) (by rw [c_4]; decide) (by rw [c_4]; rfl) (by decide) ?_
          refine lv_aload_n hx hb dX8_line_78 rfl (lv_at hl 0 rfl) ?_
          refine va_get (D := D) (ci := 0) (v := .int (vw 0 X (f_X3_lineOf (vw 0 X) a1) 6)) (C := RX0) (T := TX0) (N := 10) hx hb hts inX0 hown hK.1 (SR.mk1 (TR.st hR (by decide)) (c := f_X3_lineOf (vw 0 X) a1) (fk_X3_lineOf (vw 0 X) a1).1 (bS_0 (fk_X3_lineOf (vw 0 X) a1).2)) 0 rfl rfl 6 (by decide) lk229 (fun _ h9 => h9) rfl dX8_line_79 ?_
          refine lv_bipush (v := 100) hx hb dX8_line_82 (by decide) ?_
          refine lv_iadd hx hb dX8_line_84 ?_
          exact gm_iret hx hb hr hlocks hS (by (try simp only [f_X8_line, ↓if_neg c_1, ↓if_neg c_2, ↓if_neg c_3, ↓if_pos c_4]); (try rfl)) trivial dX8_line_85
        · skip
          rcases Decidable.em (a2 = 3) with c_5 | c_5
          · refine lv_tableIn (tgt := 86) hx hb dX8_line_19 (by rw [c_5]; decide) (by rw [c_5]; decide) (by rw [c_5]; rfl) (by decide) ?_
            refine lv_aload_n hx hb dX8_line_86 rfl (lv_at hl 0 rfl) ?_
            refine va_get (D := D) (ci := 0) (v := .int (vw 0 X (f_X3_lineOf (vw 0 X) a1) 7)) (C := RX0) (T := TX0) (N := 10) hx hb hts inX0 hown hK.1 (SR.mk1 (TR.st hR (by decide)) (c := f_X3_lineOf (vw 0 X) a1) (fk_X3_lineOf (vw 0 X) a1).1 (bS_0 (fk_X3_lineOf (vw 0 X) a1).2)) 0 rfl rfl 7 (by decide) lk82 (fun _ h9 => h9) rfl dX8_line_87 ?_
            refine lv_bipush (v := 100) hx hb dX8_line_90 (by decide) ?_
            refine lv_iadd hx hb dX8_line_92 ?_
            exact gm_iret hx hb hr hlocks hS (by (try simp only [f_X8_line, ↓if_neg c_1, ↓if_neg c_2, ↓if_neg c_3, ↓if_neg c_4, ↓if_pos c_5]); (try rfl)) trivial dX8_line_93
          · skip
            rcases Decidable.em (a2 = 4) with c_6 | c_6
            · refine lv_tableIn (tgt := 94) hx hb dX8_line_19 (by rw [c_6]; decide) (by rw [c_6]; decide) (by rw [c_6]; rfl) (by decide) ?_
              refine lv_aload_n hx hb dX8_line_94 rfl (lv_at hl 0 rfl) ?_
              refine va_get (D := D) (ci := 0) (v := .int (vw 0 X (f_X3_lineOf (vw 0 X) a1) 3)) (C := RX0) (T := TX0) (N := 10) hx hb hts inX0 hown hK.1 (SR.mk1 (TR.st hR (by decide)) (c := f_X3_lineOf (vw 0 X) a1) (fk_X3_lineOf (vw 0 X) a1).1 (bS_0 (fk_X3_lineOf (vw 0 X) a1).2)) 0 rfl rfl 3 (by decide) lk75 (fun _ h9 => h9) rfl dX8_line_95 ?_
              exact gm_iret hx hb hr hlocks hS (by (try simp only [f_X8_line, ↓if_neg c_1, ↓if_neg c_2, ↓if_neg c_3, ↓if_neg c_4, ↓if_neg c_5, ↓if_pos c_6]); (try rfl)) trivial dX8_line_98
            · skip
              rcases Decidable.em (a2 = 5) with c_7 | c_7
              · refine lv_tableIn (tgt := 99) hx hb dX8_line_19 (by rw [c_7]; decide) (by rw [c_7]; decide) (by rw [c_7]; rfl) (by decide) ?_
                refine lv_aload_n hx hb dX8_line_99 rfl (lv_at hl 0 rfl) ?_
                refine gm_ci (gm_call (As := []) (rest := []) (ci := 0) (q := (RX0, TX0, 10)) ⟨hx, hb, hml, hown, hts⟩ hK (c_X0_riderCount l D cy (β + off 0) (vw 0 X) (f_X3_lineOf (vw 0 X) a1) (fk_X3_lineOf (vw 0 X) a1).1 (fk_X3_lineOf (vw 0 X) a1).2) (cwV 0 hts gX8_line_X0_riderCount rfl rfl rfl (by decide +kernel) ⟨Nat.le_of_ble_eq_true rfl, Nat.le_of_ble_eq_true rfl⟩) (SR.mk1 (TR.st hR (by decide)) (c := f_X3_lineOf (vw 0 X) a1) (fk_X3_lineOf (vw 0 X) a1).1 (bS_0 (fk_X3_lineOf (vw 0 X) a1).2)) rfl (TR.st hR (by decide)) rfl hl.1 rfl (Nat.le_of_ble_eq_true rfl) dX8_line_100 (Nat.zero_le _) (Nat.zero_le _)) hS (fun _ h => h.elim) (fun H locs _ _ hfr hS => ?_)
                have hR := gRep.keep hR hfr (fun _ _ h => h)
                exact gm_iret hx hb hr hlocks hS (by (try simp only [f_X8_line, ↓if_neg c_1, ↓if_neg c_2, ↓if_neg c_3, ↓if_neg c_4, ↓if_neg c_5, ↓if_neg c_6, ↓if_pos c_7]); (try rfl)) trivial dX8_line_103
              · skip
                rcases Decidable.em (a2 = 6) with c_8 | c_8
                · refine lv_tableIn (tgt := 104) hx hb dX8_line_19 (by rw [c_8]; decide) (by rw [c_8]; decide) (by rw [c_8]; rfl) (by decide) ?_
                  refine lv_aload_n hx hb dX8_line_104 rfl (lv_at hl 1 rfl) ?_
                  refine va_get (D := D) (ci := 8) (v := .ref (β + off 0)) (C := RX8) (T := TX8) (N := 8) hx hb hts inX8 hown hK.1 (TR.mk0 hR) 0 rfl rfl 0 (by decide) lk10 (fun _ h9 => h9) rfl dX8_line_105 ?_
                  refine lv_aload_n hx hb dX8_line_108 rfl (lv_at hl 0 rfl) ?_
                  refine gm_ci (gm_call (As := [.ref (β + off 0 + (f_X3_lineOf (vw 0 X) a1))]) (rest := []) (ci := 3) (q := (RX3, TX3, 14)) ⟨hx, hb, hml, hown, hts⟩ hK (c_X3_hallLength l D cy (β + off 0) (vw 0 X) (f_X3_lineOf (vw 0 X) a1) (fk_X3_lineOf (vw 0 X) a1).1 (fk_X3_lineOf (vw 0 X) a1).2) (cwV 1 hts gX8_line_X3_hallLength rfl rfl rfl (by decide +kernel) ⟨Nat.le_of_ble_eq_true rfl, Nat.le_of_ble_eq_true rfl⟩) (SR.mk0 (TR.st hR (by decide))) rfl (TR.st hR (by decide)) rfl hl.1 rfl (Nat.le_of_ble_eq_true rfl) dX8_line_109 (Nat.zero_le _) (Nat.zero_le _)) hS (fun _ h => h.elim) (fun H locs _ _ hfr hS => ?_)
                  have hR := gRep.keep hR hfr (fun _ _ h => h)
                  exact gm_iret hx hb hr hlocks hS (by (try simp only [f_X8_line, ↓if_neg c_1, ↓if_neg c_2, ↓if_neg c_3, ↓if_neg c_4, ↓if_neg c_5, ↓if_neg c_6, ↓if_neg c_7, ↓if_pos c_8]); (try rfl)) trivial dX8_line_112
                · skip
                  rcases Decidable.em (a2 = 7) with c_9 | c_9
                  · refine lv_tableIn (tgt := 113) hx hb dX8_line_19 (by rw [c_9]; decide) (by rw [c_9]; decide) (by rw [c_9]; rfl) (by decide) ?_
                    refine lv_aload_n hx hb dX8_line_113 rfl (lv_at hl 0 rfl) ?_
                    refine va_get (D := D) (ci := 0) (v := .int (vw 0 X (f_X3_lineOf (vw 0 X) a1) 8)) (C := RX0) (T := TX0) (N := 10) hx hb hts inX0 hown hK.1 (SR.mk1 (TR.st hR (by decide)) (c := f_X3_lineOf (vw 0 X) a1) (fk_X3_lineOf (vw 0 X) a1).1 (bS_0 (fk_X3_lineOf (vw 0 X) a1).2)) 0 rfl rfl 8 (by decide) lk236 (fun _ h9 => h9) rfl dX8_line_114 ?_
                    exact gm_iret hx hb hr hlocks hS (by (try simp only [f_X8_line, ↓if_neg c_1, ↓if_neg c_2, ↓if_neg c_3, ↓if_neg c_4, ↓if_neg c_5, ↓if_neg c_6, ↓if_neg c_7, ↓if_neg c_8, ↓if_pos c_9]); (try rfl)) trivial dX8_line_117
                  · skip
                    rcases Decidable.em (a2 = 8) with c_10 | c_10
                    · refine lv_tableIn (tgt := 118) hx hb dX8_line_19 (by rw [c_10]; decide) (by rw [c_10]; decide) (by rw [c_10]; rfl) (by decide) ?_
                      refine lv_aload_n hx hb dX8_line_118 rfl (lv_at hl 0 rfl) ?_
                      refine va_get (D := D) (ci := 0) (v := .int (vw 0 X (f_X3_lineOf (vw 0 X) a1) 9)) (C := RX0) (T := TX0) (N := 10) hx hb hts inX0 hown hK.1 (SR.mk1 (TR.st hR (by decide)) (c := f_X3_lineOf (vw 0 X) a1) (fk_X3_lineOf (vw 0 X) a1).1 (bS_0 (fk_X3_lineOf (vw 0 X) a1).2)) 0 rfl rfl 9 (by decide) lk239 (fun _ h9 => h9) rfl dX8_line_119 ?_
                      exact gm_iret hx hb hr hlocks hS (by (try simp only [f_X8_line, ↓if_neg c_1, ↓if_neg c_2, ↓if_neg c_3, ↓if_neg c_4, ↓if_neg c_5, ↓if_neg c_6, ↓if_neg c_7, ↓if_neg c_8, ↓if_neg c_9, ↓if_pos c_10]); (try rfl)) trivial dX8_line_122
                    · skip
                      refine lv_tableOut (tgt := 123) hx hb dX8_line_19 (g_sw0_8 c_2 c_3 c_4 c_5 c_6 c_7 c_8 c_9 c_10) (by decide) ?_
                      refine lv_bipush (v := (-2)) hx hb dX8_line_123 (by decide) ?_
                      exact gm_iret hx hb hr hlocks hS (by (try simp only [f_X8_line, ↓if_neg c_1, ↓if_neg c_2, ↓if_neg c_3, ↓if_neg c_4, ↓if_neg c_5, ↓if_neg c_6, ↓if_neg c_7, ↓if_neg c_8, ↓if_neg c_9, ↓if_neg c_10]); (try rfl)) trivial dX8_line_125
  · refine lv_iconst (v := (-1)) hx hb dX8_line_7 (by decide) ?_
    exact gm_iret hx hb hr hlocks hS (by (try simp only [f_X8_line, ↓if_pos c_1]); (try rfl)) trivial dX8_line_8
def f_X8_slot (X : gM) (a1 : Int32) (a2 : Int32) : Int32 :=
  if f_X8_isLine a1 = 0 then
    (-1)
  else
    if f_X8_within a2 0 ((vw 0 X (f_X3_lineOf (vw 0 X) a1) 4) - 1) = 0 then
      (-2)
    else
      f_X0_riderIn (vw 0 X) (f_X3_lineOf (vw 0 X) a1) a2
set_option maxHeartbeats 4000000 in
set_option maxRecDepth 100000 in
theorem c_X8_slot (l : Launch) (D : va_G) (cy : Nat → ClassId) (β : Nat) (X : gM) (a1 : Int32) (a2 : Int32)  : Met l yX8_slot wsX8_slot ({ frames := 2, cells := 0, slots := 0, locals := 43 }) (gP [.ref β, .int a1, .int a2] D cy (TR D cy β X)) (gQi (f_X8_slot X a1 a2) (fun _ => True) gNo) 0 0 gNo := by
  refine gm_met (cc := cX8_slot) (maxL := 4) (ret := (some .int)) [.ref β, .int a1, .int a2] (by decide) rfl (Nat.le_of_ble_eq_true rfl) ?_
  intro p e s m args below meth c0 ls C hR hl
  obtain ⟨hx, hb, hr, hts, hown, hlocks, hml, hK⟩ := C
  have hl : lv_has ls 4 [(0, .ref β), (1, .int a1), (2, .int a2)] := hl
  have hS : va_S gNo s.heap s.heap [] := va_S.rf
  have lk10 := hts (.fieldLink RX8 10 "MercuryLine" "now" "LMercuryLine$State;") (by decide +kernel)
  have inX8 : ∀ w ∈ u_ws RX8 TX8 8, w ∈ wsX8_slot := by decide +kernel
  have lk61 := hts (.fieldLink RX8 61 "MercuryLine$Line" "slots" "I") (by decide +kernel)
  have inX0 : ∀ w ∈ u_ws RX0 TX0 10, w ∈ wsX8_slot := by decide +kernel
  refine lv_iload_n hx hb dX8_slot_0 rfl (lv_at hl 1 rfl) ?_
  refine gm_ci (gm_callS (As := [.int a1]) (rest := []) ⟨hx, hb, hml, hown, hts⟩ hK (c_X8_isLine l D cy a1) (va_cwS 1 hts gX8_slot_X8_isLine rfl rfl rfl (by decide +kernel) ⟨Nat.le_of_ble_eq_true rfl, Nat.le_of_ble_eq_true rfl⟩) trivial rfl hl.1 rfl (Nat.le_of_ble_eq_true rfl) dX8_slot_1 (Nat.zero_le _) (Nat.zero_le _)) hS (fun _ h => h.elim) (fun H locs _ _ hfr hS => ?_)
  have hR := gRep.keep hR hfr (fun _ _ h => h)
  refine lv_if_ne (tgt := 9) hx hb dX8_slot_4 (by decide) (fun c_1 => ?_) (fun c_1 => ?_)
  · refine lv_aload_n hx hb dX8_slot_9 rfl (lv_at hl 0 rfl) ?_
    refine va_get (D := D) (ci := 8) (v := .ref (β + off 0)) (C := RX8) (T := TX8) (N := 8) hx hb hts inX8 hown hK.1 (TR.mk0 hR) 0 rfl rfl 0 (by decide) lk10 (fun _ h9 => h9) rfl dX8_slot_10 ?_
    refine lv_iload_n hx hb dX8_slot_13 rfl (lv_at hl 1 rfl) ?_
    refine gm_cq (gm_call (As := [.int a1]) (rest := []) (ci := 3) (q := (RX3, TX3, 14)) ⟨hx, hb, hml, hown, hts⟩ hK (c_X3_lineOf l D cy (β + off 0) (vw 0 X) a1) (cwV 1 hts gX8_slot_X3_lineOf rfl rfl rfl (by decide +kernel) ⟨Nat.le_of_ble_eq_true rfl, Nat.le_of_ble_eq_true rfl⟩) (SR.mk0 (TR.st hR (by decide))) rfl (TR.st hR (by decide)) rfl hl.1 rfl (Nat.le_of_ble_eq_true rfl) dX8_slot_14 (Nat.zero_le _) (Nat.zero_le _)) hS (fun _ h => h.elim) (fun H locs _ _ hfr hS => ?_)
    have hR := gRep.keep hR hfr (fun _ _ h => h)
    refine W.eq (g2 := F0 m 17 ls [.ref (β + off 0 + (f_X3_lineOf (vw 0 X) a1))]) rfl ?_
    refine lv_astore_n (lv' := [(3, .ref (β + off 0 + (f_X3_lineOf (vw 0 X) a1))), (0, .ref β), (1, .int a1), (2, .int a2)]) hx hb dX8_slot_17 rfl hl (by decide) rfl (fun ls hl => ?_)
    refine lv_iload_n hx hb dX8_slot_18 rfl (lv_at hl 3 rfl) ?_
    refine lv_iconst (v := 0) hx hb dX8_slot_19 (by decide) ?_
    refine lv_aload_n hx hb dX8_slot_20 rfl (lv_at hl 0 rfl) ?_
    refine va_get (D := D) (ci := 0) (v := .int (vw 0 X (f_X3_lineOf (vw 0 X) a1) 4)) (C := RX0) (T := TX0) (N := 10) hx hb hts inX0 hown hK.1 (SR.mk1 (TR.st hR (by decide)) (c := f_X3_lineOf (vw 0 X) a1) (fk_X3_lineOf (vw 0 X) a1).1 (bS_0 (fk_X3_lineOf (vw 0 X) a1).2)) 0 rfl rfl 4 (by decide) lk61 (fun _ h9 => h9) rfl dX8_slot_21 ?_
    refine lv_iconst (v := 1) hx hb dX8_slot_24 (by decide) ?_
    refine lv_isub hx hb dX8_slot_25 ?_
    refine gm_ci (gm_callS (As := [.int a2, .int 0, .int ((vw 0 X (f_X3_lineOf (vw 0 X) a1) 4) - 1)]) (rest := []) ⟨hx, hb, hml, hown, hts⟩ hK (c_X8_within l D cy a2 0 ((vw 0 X (f_X3_lineOf (vw 0 X) a1) 4) - 1)) (va_cwS 3 hts gX8_slot_X8_within rfl rfl rfl (by decide +kernel) ⟨Nat.le_of_ble_eq_true rfl, Nat.le_of_ble_eq_true rfl⟩) trivial rfl hl.1 rfl (Nat.le_of_ble_eq_true rfl) dX8_slot_26 (Nat.zero_le _) (Nat.zero_le _)) hS (fun _ h => h.elim) (fun H locs _ _ hfr hS => ?_)
    have hR := gRep.keep hR hfr (fun _ _ h => h)
    refine lv_if_eq (tgt := 40) hx hb dX8_slot_29 (by decide) (fun c_2 => ?_) (fun c_2 => ?_)
    · refine lv_bipush (v := (-2)) hx hb dX8_slot_40 (by decide) ?_
      exact gm_iret hx hb hr hlocks hS (by (try simp only [f_X8_slot, ↓if_neg c_1, ↓if_pos c_2]); (try rfl)) trivial dX8_slot_42
    · refine lv_aload_n hx hb dX8_slot_32 rfl (lv_at hl 0 rfl) ?_
      refine lv_iload_n hx hb dX8_slot_33 rfl (lv_at hl 3 rfl) ?_
      refine gm_ci (gm_call (As := [.int a2]) (rest := []) (ci := 0) (q := (RX0, TX0, 10)) ⟨hx, hb, hml, hown, hts⟩ hK (c_X0_riderIn l D cy (β + off 0) (vw 0 X) (f_X3_lineOf (vw 0 X) a1) a2 (fk_X3_lineOf (vw 0 X) a1).1 (fk_X3_lineOf (vw 0 X) a1).2) (cwV 1 hts gX8_slot_X0_riderIn rfl rfl rfl (by decide +kernel) ⟨Nat.le_of_ble_eq_true rfl, Nat.le_of_ble_eq_true rfl⟩) (SR.mk1 (TR.st hR (by decide)) (c := f_X3_lineOf (vw 0 X) a1) (fk_X3_lineOf (vw 0 X) a1).1 (bS_0 (fk_X3_lineOf (vw 0 X) a1).2)) rfl (TR.st hR (by decide)) rfl hl.1 rfl (Nat.le_of_ble_eq_true rfl) dX8_slot_34 (Nat.zero_le _) (Nat.zero_le _)) hS (fun _ h => h.elim) (fun H locs _ _ hfr hS => ?_)
      have hR := gRep.keep hR hfr (fun _ _ h => h)
      refine lv_goto (tgt := 42) hx hb dX8_slot_37 (by decide) ?_
      exact gm_iret hx hb hr hlocks hS (by (try simp only [f_X8_slot, ↓if_neg c_1, ↓if_neg c_2]); (try rfl)) trivial dX8_slot_42
  · refine lv_iconst (v := (-1)) hx hb dX8_slot_7 (by decide) ?_
    exact gm_iret hx hb hr hlocks hS (by (try simp only [f_X8_slot, ↓if_pos c_1]); (try rfl)) trivial dX8_slot_8
def f_X8_station (X : gM) (a1 : Int32) (a2 : Int32) : Int32 :=
  gOpt (f_X3_stationOf (vw 0 X) a1) (
    (-1)) (fun q1 =>
    if a2 = 0 then
      vw 0 X q1 5
    else
      if a2 = 1 then
        f_X0_slotAt (vw 0 X) (f_X3_lineOf (vw 0 X) (nI (nLin q1))) (vw 0 X q1 5)
      else
        if a2 = 2 then
          f_X3_queueLength (vw 0 X) (nI (10 * nLin q1 + nSta q1))
        else
          if a2 = 3 then
            vw 0 X q1 6
          else
            if a2 = 4 then
              vw 0 X q1 7
            else
              if a2 = 5 then
                vw 0 X q1 8
              else
                if a2 = 6 then
                  vw 0 X q1 9
                else
                  if a2 = 7 then
                    vw 0 X q1 4
                  else
                    if a2 = 8 then
                      gOpt (f_X3_nextToBoard (vw 0 X) q1) (
                        f_X8_numberOf_N) (fun q11 =>
                        f_X8_numberOf_R (vw 0 X) q11)
                    else
                      (-2))
set_option maxHeartbeats 4000000 in
set_option maxRecDepth 100000 in
theorem c_X8_station (l : Launch) (D : va_G) (cy : Nat → ClassId) (β : Nat) (X : gM) (a1 : Int32) (a2 : Int32)  : Met l yX8_station wsX8_station ({ frames := 3, cells := 0, slots := 0, locals := 66 }) (gP [.ref β, .int a1, .int a2] D cy (TR D cy β X)) (gQi (f_X8_station X a1 a2) (fun _ => True) gNo) 0 0 gNo := by
  refine gm_met (cc := cX8_station) (maxL := 4) (ret := (some .int)) [.ref β, .int a1, .int a2] (by decide) rfl (Nat.le_of_ble_eq_true rfl) ?_
  intro p e s m args below meth c0 ls C hR hl
  obtain ⟨hx, hb, hr, hts, hown, hlocks, hml, hK⟩ := C
  have hl : lv_has ls 4 [(0, .ref β), (1, .int a1), (2, .int a2)] := hl
  have hS : va_S gNo s.heap s.heap [] := va_S.rf
  have lk10 := hts (.fieldLink RX8 10 "MercuryLine" "now" "LMercuryLine$State;") (by decide +kernel)
  have inX8 : ∀ w ∈ u_ws RX8 TX8 8, w ∈ wsX8_station := by decide +kernel
  have lk245 := hts (.fieldLink RX8 245 "MercuryLine$Station" "offset" "I") (by decide +kernel)
  have inX4 : ∀ w ∈ u_ws RX4 TX4 10, w ∈ wsX8_station := by decide +kernel
  have lk248 := hts (.fieldLink RX8 248 "MercuryLine$Station" "line" "I") (by decide +kernel)
  have lk254 := hts (.fieldLink RX8 254 "MercuryLine$Station" "code" "I") (by decide +kernel)
  have lk260 := hts (.fieldLink RX8 260 "MercuryLine$Station" "boarded" "I") (by decide +kernel)
  have lk263 := hts (.fieldLink RX8 263 "MercuryLine$Station" "arrived" "I") (by decide +kernel)
  have lk266 := hts (.fieldLink RX8 266 "MercuryLine$Station" "calledOff" "I") (by decide +kernel)
  have lk269 := hts (.fieldLink RX8 269 "MercuryLine$Station" "shovedOut" "I") (by decide +kernel)
  have lk144 := hts (.fieldLink RX8 144 "MercuryLine$Station" "callCount" "I") (by decide +kernel)
  refine lv_aload_n hx hb dX8_station_0 rfl (lv_at hl 0 rfl) ?_
  refine va_get (D := D) (ci := 8) (v := .ref (β + off 0)) (C := RX8) (T := TX8) (N := 8) hx hb hts inX8 hown hK.1 (TR.mk0 hR) 0 rfl rfl 0 (by decide) lk10 (fun _ h9 => h9) rfl dX8_station_1 ?_
  refine lv_iload_n hx hb dX8_station_4 rfl (lv_at hl 1 rfl) ?_
  refine gm_cq (gm_call (As := [.int a1]) (rest := []) (ci := 3) (q := (RX3, TX3, 14)) ⟨hx, hb, hml, hown, hts⟩ hK (c_X3_stationOf l D cy (β + off 0) (vw 0 X) a1) (cwV 1 hts gX8_station_X3_stationOf rfl rfl rfl (by decide +kernel) ⟨Nat.le_of_ble_eq_true rfl, Nat.le_of_ble_eq_true rfl⟩) (SR.mk0 (TR.st hR (by decide))) rfl (TR.st hR (by decide)) rfl hl.1 rfl (Nat.le_of_ble_eq_true rfl) dX8_station_5 (Nat.zero_le _) (Nat.zero_le _)) hS (fun _ h => h.elim) (fun H locs _ _ hfr hS => ?_)
  have hR := gRep.keep hR hfr (fun _ _ h => h)
  rcases hq1 : f_X3_stationOf (vw 0 X) a1 with _ | q1
  · refine W.eq (g2 := F0 m 8 ls [.null]) rfl ?_
    refine lv_astore_nN (lv' := [(3, .null), (0, .ref β), (1, .int a1), (2, .int a2)]) hx hb dX8_station_8 rfl hl (by decide) rfl (fun ls hl => ?_)
    refine lv_aload_nN hx hb dX8_station_9 rfl (lv_at hl 0 rfl) ?_
    refine lv_ifnonnullN hx hb dX8_station_10 ?_
    refine lv_iconst (v := (-1)) hx hb dX8_station_13 (by decide) ?_
    exact gm_iret hx hb hr hlocks hS (by (try simp only [f_X8_station, ↓gOpt_n hq1]); (try rfl)) trivial dX8_station_14
  · refine W.eq (g2 := F0 m 8 ls [.ref (β + off 0 + q1)]) rfl ?_
    refine lv_astore_n (lv' := [(3, .ref (β + off 0 + q1)), (0, .ref β), (1, .int a1), (2, .int a2)]) hx hb dX8_station_8 rfl hl (by decide) rfl (fun ls hl => ?_)
    refine lv_aload_n hx hb dX8_station_9 rfl (lv_at hl 0 rfl) ?_
    refine lv_ifnonnull (tgt := 15) hx hb dX8_station_10 (by decide) ?_
    refine lv_iload_n hx hb dX8_station_15 rfl (lv_at hl 3 rfl) ?_
    rcases Decidable.em (a2 = 0) with c_2 | c_2
    · refine lv_tableIn (tgt := 68) hx hb dX8_station_16 (by rw [c_2]; decide) (by rw [c_2]; decide) (by rw [c_2]; rfl) (by decide) ?_
      refine lv_aload_n hx hb dX8_station_68 rfl (lv_at hl 0 rfl) ?_
      refine va_get (D := D) (ci := 4) (v := .int (vw 0 X q1 5)) (C := RX4) (T := TX4) (N := 10) hx hb hts inX4 hown hK.1 (SR.mk1 (TR.st hR (by decide)) (c := q1) (fk_X3_stationOf  hq1).1 (bS_4 (fk_X3_stationOf  hq1).2)) 0 rfl rfl 5 (by decide) lk245 (fun _ h9 => h9) rfl dX8_station_69 ?_
      exact gm_iret hx hb hr hlocks hS (by (try simp only [f_X8_station, ↓if_pos c_2, ↓gOpt_s hq1]); (try rfl)) trivial dX8_station_72
    · skip
      rcases Decidable.em (a2 = 1) with c_3 | c_3
      · refine lv_tableIn (tgt := 73) hx hb dX8_station_16 (by rw [c_3]; decide) (by rw [c_3]; decide) (by rw [c_3]; rfl) (by decide) ?_
        refine lv_aload_n hx hb dX8_station_73 rfl (lv_at hl 1 rfl) ?_
        refine va_get (D := D) (ci := 8) (v := .ref (β + off 0)) (C := RX8) (T := TX8) (N := 8) hx hb hts inX8 hown hK.1 (TR.mk0 hR) 0 rfl rfl 0 (by decide) lk10 (fun _ h9 => h9) rfl dX8_station_74 ?_
        refine lv_aload_n hx hb dX8_station_77 rfl (lv_at hl 0 rfl) ?_
        refine va_get (D := D) (ci := 4) (v := .int (nI (nLin q1))) (C := RX4) (T := TX4) (N := 10) hx hb hts inX4 hown hK.1 (SR.mk1 (TR.st hR (by decide)) (c := q1) (fk_X3_stationOf  hq1).1 (bS_4 (fk_X3_stationOf  hq1).2)) 0 rfl rfl 0 (by decide) lk248 (fun _ h9 => h9) rfl dX8_station_78 ?_
        refine gm_cq (gm_call (As := [.int (nI (nLin q1))]) (rest := []) (ci := 3) (q := (RX3, TX3, 14)) ⟨hx, hb, hml, hown, hts⟩ hK (c_X3_lineOf l D cy (β + off 0) (vw 0 X) (nI (nLin q1))) (cwV 1 hts gX8_station_X3_lineOf rfl rfl rfl (by decide +kernel) ⟨Nat.le_of_ble_eq_true rfl, Nat.le_of_ble_eq_true rfl⟩) (SR.mk0 (TR.st hR (by decide))) rfl (TR.st hR (by decide)) rfl hl.1 rfl (Nat.le_of_ble_eq_true rfl) dX8_station_81 (Nat.zero_le _) (Nat.zero_le _)) hS (fun _ h => h.elim) (fun H locs _ _ hfr hS => ?_)
        have hR := gRep.keep hR hfr (fun _ _ h => h)
        refine W.eq (g2 := F0 m 84 ls [.ref (β + off 0 + (f_X3_lineOf (vw 0 X) (nI (nLin q1))))]) rfl ?_
        refine lv_aload_n hx hb dX8_station_84 rfl (lv_at hl 0 rfl) ?_
        refine va_get (D := D) (ci := 4) (v := .int (vw 0 X q1 5)) (C := RX4) (T := TX4) (N := 10) hx hb hts inX4 hown hK.1 (SR.mk1 (TR.st hR (by decide)) (c := q1) (fk_X3_stationOf  hq1).1 (bS_4 (fk_X3_stationOf  hq1).2)) 0 rfl rfl 5 (by decide) lk245 (fun _ h9 => h9) rfl dX8_station_85 ?_
        refine gm_ci (gm_call (As := [.int (vw 0 X q1 5)]) (rest := []) (ci := 0) (q := (RX0, TX0, 10)) ⟨hx, hb, hml, hown, hts⟩ hK (c_X0_slotAt l D cy (β + off 0) (vw 0 X) (f_X3_lineOf (vw 0 X) (nI (nLin q1))) (vw 0 X q1 5) (fk_X3_lineOf (vw 0 X) (nI (nLin q1))).1 (fk_X3_lineOf (vw 0 X) (nI (nLin q1))).2) (cwV 1 hts gX8_station_X0_slotAt rfl rfl rfl (by decide +kernel) ⟨Nat.le_of_ble_eq_true rfl, Nat.le_of_ble_eq_true rfl⟩) (SR.mk1 (TR.st hR (by decide)) (c := f_X3_lineOf (vw 0 X) (nI (nLin q1))) (fk_X3_lineOf (vw 0 X) (nI (nLin q1))).1 (bS_0 (fk_X3_lineOf (vw 0 X) (nI (nLin q1))).2)) rfl (TR.st hR (by decide)) rfl hl.1 rfl (Nat.le_of_ble_eq_true rfl) dX8_station_88 (Nat.zero_le _) (Nat.zero_le _)) hS (fun _ h => h.elim) (fun H locs _ _ hfr hS => ?_)
        have hR := gRep.keep hR hfr (fun _ _ h => h)
        exact gm_iret hx hb hr hlocks hS (by (try simp only [f_X8_station, ↓if_neg c_2, ↓if_pos c_3, ↓gOpt_s hq1]); (try rfl)) trivial dX8_station_91
      · skip
        rcases Decidable.em (a2 = 2) with c_4 | c_4
        · refine lv_tableIn (tgt := 92) hx hb dX8_station_16 (by rw [c_4]; decide) (by rw [c_4]; decide) (by rw [c_4]; rfl) (by decide) ?_
          refine lv_aload_n hx hb dX8_station_92 rfl (lv_at hl 1 rfl) ?_
          refine va_get (D := D) (ci := 8) (v := .ref (β + off 0)) (C := RX8) (T := TX8) (N := 8) hx hb hts inX8 hown hK.1 (TR.mk0 hR) 0 rfl rfl 0 (by decide) lk10 (fun _ h9 => h9) rfl dX8_station_93 ?_
          refine lv_aload_n hx hb dX8_station_96 rfl (lv_at hl 0 rfl) ?_
          refine va_get (D := D) (ci := 4) (v := .int (nI (10 * nLin q1 + nSta q1))) (C := RX4) (T := TX4) (N := 10) hx hb hts inX4 hown hK.1 (SR.mk1 (TR.st hR (by decide)) (c := q1) (fk_X3_stationOf  hq1).1 (bS_4 (fk_X3_stationOf  hq1).2)) 0 rfl rfl 1 (by decide) lk254 (fun _ h9 => h9) rfl dX8_station_97 ?_
          refine gm_ci (gm_call (As := [.int (nI (10 * nLin q1 + nSta q1))]) (rest := []) (ci := 3) (q := (RX3, TX3, 14)) ⟨hx, hb, hml, hown, hts⟩ hK (c_X3_queueLength l D cy (β + off 0) (vw 0 X) (nI (10 * nLin q1 + nSta q1))) (cwV 1 hts gX8_station_X3_queueLength rfl rfl rfl (by decide +kernel) ⟨Nat.le_of_ble_eq_true rfl, Nat.le_of_ble_eq_true rfl⟩) (SR.mk0 (TR.st hR (by decide))) rfl (TR.st hR (by decide)) rfl hl.1 rfl (Nat.le_of_ble_eq_true rfl) dX8_station_100 (Nat.zero_le _) (Nat.zero_le _)) hS (fun _ h => h.elim) (fun H locs _ _ hfr hS => ?_)
          have hR := gRep.keep hR hfr (fun _ _ h => h)
          exact gm_iret hx hb hr hlocks hS (by (try simp only [f_X8_station, ↓if_neg c_2, ↓if_neg c_3, ↓if_pos c_4, ↓gOpt_s hq1]); (try rfl)) trivial dX8_station_103
        · skip
          rcases Decidable.em (a2 = 3) with c_5 | c_5
          · refine lv_tableIn (tgt := 104) hx hb dX8_station_16 (by rw [c_5]; decide) (by rw [c_5]; decide) (by rw [c_5]; rfl) (by decide) ?_
            refine lv_aload_n hx hb dX8_station_104 rfl (lv_at hl 0 rfl) ?_
            refine va_get (D := D) (ci := 4) (v := .int (vw 0 X q1 6)) (C := RX4) (T := TX4) (N := 10) hx hb hts inX4 hown hK.1 (SR.mk1 (TR.st hR (by decide)) (c := q1) (fk_X3_stationOf  hq1).1 (bS_4 (fk_X3_stationOf  hq1).2)) 0 rfl rfl 6 (by decide) lk260 (fun _ h9 => h9) rfl dX8_station_105 ?_
            exact gm_iret hx hb hr hlocks hS (by (try simp only [f_X8_station, ↓if_neg c_2, ↓if_neg c_3, ↓if_neg c_4, ↓if_pos c_5, ↓gOpt_s hq1]); (try rfl)) trivial dX8_station_108
          · skip
            rcases Decidable.em (a2 = 4) with c_6 | c_6
            · refine lv_tableIn (tgt := 109) hx hb dX8_station_16 (by rw [c_6]; decide) (by rw [c_6]; decide) (by rw [c_6]; rfl) (by decide) ?_
              refine lv_aload_n hx hb dX8_station_109 rfl (lv_at hl 0 rfl) ?_
              refine va_get (D := D) (ci := 4) (v := .int (vw 0 X q1 7)) (C := RX4) (T := TX4) (N := 10) hx hb hts inX4 hown hK.1 (SR.mk1 (TR.st hR (by decide)) (c := q1) (fk_X3_stationOf  hq1).1 (bS_4 (fk_X3_stationOf  hq1).2)) 0 rfl rfl 7 (by decide) lk263 (fun _ h9 => h9) rfl dX8_station_110 ?_
              exact gm_iret hx hb hr hlocks hS (by (try simp only [f_X8_station, ↓if_neg c_2, ↓if_neg c_3, ↓if_neg c_4, ↓if_neg c_5, ↓if_pos c_6, ↓gOpt_s hq1]); (try rfl)) trivial dX8_station_113
            · skip
              rcases Decidable.em (a2 = 5) with c_7 | c_7
              · refine lv_tableIn (tgt := 114) hx hb dX8_station_16 (by rw [c_7]; decide) (by rw [c_7]; decide) (by rw [c_7]; rfl) (by decide) ?_
                refine lv_aload_n hx hb dX8_station_114 rfl (lv_at hl 0 rfl) ?_
                refine va_get (D := D) (ci := 4) (v := .int (vw 0 X q1 8)) (C := RX4) (T := TX4) (N := 10) hx hb hts inX4 hown hK.1 (SR.mk1 (TR.st hR (by decide)) (c := q1) (fk_X3_stationOf  hq1).1 (bS_4 (fk_X3_stationOf  hq1).2)) 0 rfl rfl 8 (by decide) lk266 (fun _ h9 => h9) rfl dX8_station_115 ?_
                exact gm_iret hx hb hr hlocks hS (by (try simp only [f_X8_station, ↓if_neg c_2, ↓if_neg c_3, ↓if_neg c_4, ↓if_neg c_5, ↓if_neg c_6, ↓if_pos c_7, ↓gOpt_s hq1]); (try rfl)) trivial dX8_station_118
              · skip
                rcases Decidable.em (a2 = 6) with c_8 | c_8
                · refine lv_tableIn (tgt := 119) hx hb dX8_station_16 (by rw [c_8]; decide) (by rw [c_8]; decide) (by rw [c_8]; rfl) (by decide) ?_
                  refine lv_aload_n hx hb dX8_station_119 rfl (lv_at hl 0 rfl) ?_
                  refine va_get (D := D) (ci := 4) (v := .int (vw 0 X q1 9)) (C := RX4) (T := TX4) (N := 10) hx hb hts inX4 hown hK.1 (SR.mk1 (TR.st hR (by decide)) (c := q1) (fk_X3_stationOf  hq1).1 (bS_4 (fk_X3_stationOf  hq1).2)) 0 rfl rfl 9 (by decide) lk269 (fun _ h9 => h9) rfl dX8_station_120 ?_
                  exact gm_iret hx hb hr hlocks hS (by (try simp only [f_X8_station, ↓if_neg c_2, ↓if_neg c_3, ↓if_neg c_4, ↓if_neg c_5, ↓if_neg c_6, ↓if_neg c_7, ↓if_pos c_8, ↓gOpt_s hq1]); (try rfl)) trivial dX8_station_123
                · skip
                  rcases Decidable.em (a2 = 7) with c_9 | c_9
                  · refine lv_tableIn (tgt := 124) hx hb dX8_station_16 (by rw [c_9]; decide) (by rw [c_9]; decide) (by rw [c_9]; rfl) (by decide) ?_
                    refine lv_aload_n hx hb dX8_station_124 rfl (lv_at hl 0 rfl) ?_
                    refine va_get (D := D) (ci := 4) (v := .int (vw 0 X q1 4)) (C := RX4) (T := TX4) (N := 10) hx hb hts inX4 hown hK.1 (SR.mk1 (TR.st hR (by decide)) (c := q1) (fk_X3_stationOf  hq1).1 (bS_4 (fk_X3_stationOf  hq1).2)) 0 rfl rfl 4 (by decide) lk144 (fun _ h9 => h9) rfl dX8_station_125 ?_
                    exact gm_iret hx hb hr hlocks hS (by (try simp only [f_X8_station, ↓if_neg c_2, ↓if_neg c_3, ↓if_neg c_4, ↓if_neg c_5, ↓if_neg c_6, ↓if_neg c_7, ↓if_neg c_8, ↓if_pos c_9, ↓gOpt_s hq1]); (try rfl)) trivial dX8_station_128
                  · skip
                    rcases Decidable.em (a2 = 8) with c_10 | c_10
                    · refine lv_tableIn (tgt := 129) hx hb dX8_station_16 (by rw [c_10]; decide) (by rw [c_10]; decide) (by rw [c_10]; rfl) (by decide) ?_
                      refine lv_aload_n hx hb dX8_station_129 rfl (lv_at hl 1 rfl) ?_
                      refine va_get (D := D) (ci := 8) (v := .ref (β + off 0)) (C := RX8) (T := TX8) (N := 8) hx hb hts inX8 hown hK.1 (TR.mk0 hR) 0 rfl rfl 0 (by decide) lk10 (fun _ h9 => h9) rfl dX8_station_130 ?_
                      refine lv_aload_n hx hb dX8_station_133 rfl (lv_at hl 0 rfl) ?_
                      refine gm_cq (gm_call (As := [.ref (β + off 0 + q1)]) (rest := []) (ci := 3) (q := (RX3, TX3, 14)) ⟨hx, hb, hml, hown, hts⟩ hK (c_X3_nextToBoard l D cy (β + off 0) (vw 0 X) q1 (fk_X3_stationOf  hq1).1 (fk_X3_stationOf  hq1).2) (cwV 1 hts gX8_station_X3_nextToBoard rfl rfl rfl (by decide +kernel) ⟨Nat.le_of_ble_eq_true rfl, Nat.le_of_ble_eq_true rfl⟩) (SR.mk0 (TR.st hR (by decide))) rfl (TR.st hR (by decide)) rfl hl.1 rfl (Nat.le_of_ble_eq_true rfl) dX8_station_134 (Nat.zero_le _) (Nat.zero_le _)) hS (fun _ h => h.elim) (fun H locs _ _ hfr hS => ?_)
                      have hR := gRep.keep hR hfr (fun _ _ h => h)
                      rcases hq11 : f_X3_nextToBoard (vw 0 X) q1 with _ | q11
                      · refine W.eq (g2 := F0 m 137 ls [.null]) rfl ?_
                        refine gm_ci (gm_callS (As := [.null]) (rest := []) ⟨hx, hb, hml, hown, hts⟩ hK (c_X8_numberOf_N l D cy ) (va_cwS 1 hts gX8_station_X8_numberOf rfl rfl rfl (by decide +kernel) ⟨Nat.le_of_ble_eq_true rfl, Nat.le_of_ble_eq_true rfl⟩) trivial rfl hl.1 rfl (Nat.le_of_ble_eq_true rfl) dX8_station_137 (Nat.zero_le _) (Nat.zero_le _)) hS (fun _ h => h.elim) (fun H locs _ _ hfr hS => ?_)
                        have hR := gRep.keep hR hfr (fun _ _ h => h)
                        exact gm_iret hx hb hr hlocks hS (by (try simp only [f_X8_station, ↓if_neg c_2, ↓if_neg c_3, ↓if_neg c_4, ↓if_neg c_5, ↓if_neg c_6, ↓if_neg c_7, ↓if_neg c_8, ↓if_neg c_9, ↓if_pos c_10, ↓gOpt_s hq1, ↓gOpt_n hq11]); (try rfl)) trivial dX8_station_140
                      · refine W.eq (g2 := F0 m 137 ls [.ref (β + off 0 + q11)]) rfl ?_
                        refine gm_ci (gm_callS (As := [.ref (β + off 0 + q11)]) (rest := []) ⟨hx, hb, hml, hown, hts⟩ hK (c_X8_numberOf_R l D cy (β + off 0) (vw 0 X) q11 (fk_X3_nextToBoard (fk_X3_stationOf  hq1).1 (fk_X3_stationOf  hq1).2 hq11).1 (fk_X3_nextToBoard (fk_X3_stationOf  hq1).1 (fk_X3_stationOf  hq1).2 hq11).2) (va_cwS 1 hts gX8_station_X8_numberOf rfl rfl rfl (by decide +kernel) ⟨Nat.le_of_ble_eq_true rfl, Nat.le_of_ble_eq_true rfl⟩) (TR.st hR (by decide)) rfl hl.1 rfl (Nat.le_of_ble_eq_true rfl) dX8_station_137 (Nat.zero_le _) (Nat.zero_le _)) hS (fun _ h => h.elim) (fun H locs _ _ hfr hS => ?_)
                        have hR := gRep.keep hR hfr (fun _ _ h => h)
                        exact gm_iret hx hb hr hlocks hS (by (try simp only [f_X8_station, ↓if_neg c_2, ↓if_neg c_3, ↓if_neg c_4, ↓if_neg c_5, ↓if_neg c_6, ↓if_neg c_7, ↓if_neg c_8, ↓if_neg c_9, ↓if_pos c_10, ↓gOpt_s hq1, ↓gOpt_s hq11]); (try rfl)) trivial dX8_station_140
                    · skip
                      refine lv_tableOut (tgt := 141) hx hb dX8_station_16 (g_sw0_8 c_2 c_3 c_4 c_5 c_6 c_7 c_8 c_9 c_10) (by decide) ?_
                      refine lv_bipush (v := (-2)) hx hb dX8_station_141 (by decide) ?_
                      exact gm_iret hx hb hr hlocks hS (by (try simp only [f_X8_station, ↓if_neg c_2, ↓if_neg c_3, ↓if_neg c_4, ↓if_neg c_5, ↓if_neg c_6, ↓if_neg c_7, ↓if_neg c_8, ↓if_neg c_9, ↓if_neg c_10, ↓gOpt_s hq1]); (try rfl)) trivial dX8_station_143
def f_X8_waiting (X : gM) (a1 : Int32) (a2 : Int32) : Int32 :=
  gOpt (f_X3_stationOf (vw 0 X) a1) (
    (-1)) (fun q1 =>
    if 0 ≤ a2 then
      gOpt (f_X3_inQueue (vw 0 X) (nI (10 * nLin q1 + nSta q1)) a2) (
        f_X8_numberOf_N) (fun q3 =>
        f_X8_numberOf_R (vw 0 X) q3)
    else
      (-2))
set_option maxHeartbeats 4000000 in
set_option maxRecDepth 100000 in
theorem c_X8_waiting (l : Launch) (D : va_G) (cy : Nat → ClassId) (β : Nat) (X : gM) (a1 : Int32) (a2 : Int32)  : Met l yX8_waiting wsX8_waiting ({ frames := 3, cells := 0, slots := 0, locals := 65 }) (gP [.ref β, .int a1, .int a2] D cy (TR D cy β X)) (gQi (f_X8_waiting X a1 a2) (fun _ => True) gNo) 0 0 gNo := by
  refine gm_met (cc := cX8_waiting) (maxL := 4) (ret := (some .int)) [.ref β, .int a1, .int a2] (by decide) rfl (Nat.le_of_ble_eq_true rfl) ?_
  intro p e s m args below meth c0 ls C hR hl
  obtain ⟨hx, hb, hr, hts, hown, hlocks, hml, hK⟩ := C
  have hl : lv_has ls 4 [(0, .ref β), (1, .int a1), (2, .int a2)] := hl
  have hS : va_S gNo s.heap s.heap [] := va_S.rf
  have lk10 := hts (.fieldLink RX8 10 "MercuryLine" "now" "LMercuryLine$State;") (by decide +kernel)
  have inX8 : ∀ w ∈ u_ws RX8 TX8 8, w ∈ wsX8_waiting := by decide +kernel
  have lk254 := hts (.fieldLink RX8 254 "MercuryLine$Station" "code" "I") (by decide +kernel)
  have inX4 : ∀ w ∈ u_ws RX4 TX4 10, w ∈ wsX8_waiting := by decide +kernel
  refine lv_aload_n hx hb dX8_waiting_0 rfl (lv_at hl 0 rfl) ?_
  refine va_get (D := D) (ci := 8) (v := .ref (β + off 0)) (C := RX8) (T := TX8) (N := 8) hx hb hts inX8 hown hK.1 (TR.mk0 hR) 0 rfl rfl 0 (by decide) lk10 (fun _ h9 => h9) rfl dX8_waiting_1 ?_
  refine lv_iload_n hx hb dX8_waiting_4 rfl (lv_at hl 1 rfl) ?_
  refine gm_cq (gm_call (As := [.int a1]) (rest := []) (ci := 3) (q := (RX3, TX3, 14)) ⟨hx, hb, hml, hown, hts⟩ hK (c_X3_stationOf l D cy (β + off 0) (vw 0 X) a1) (cwV 1 hts gX8_waiting_X3_stationOf rfl rfl rfl (by decide +kernel) ⟨Nat.le_of_ble_eq_true rfl, Nat.le_of_ble_eq_true rfl⟩) (SR.mk0 (TR.st hR (by decide))) rfl (TR.st hR (by decide)) rfl hl.1 rfl (Nat.le_of_ble_eq_true rfl) dX8_waiting_5 (Nat.zero_le _) (Nat.zero_le _)) hS (fun _ h => h.elim) (fun H locs _ _ hfr hS => ?_)
  have hR := gRep.keep hR hfr (fun _ _ h => h)
  rcases hq1 : f_X3_stationOf (vw 0 X) a1 with _ | q1
  · refine W.eq (g2 := F0 m 8 ls [.null]) rfl ?_
    refine lv_astore_nN (lv' := [(3, .null), (0, .ref β), (1, .int a1), (2, .int a2)]) hx hb dX8_waiting_8 rfl hl (by decide) rfl (fun ls hl => ?_)
    refine lv_aload_nN hx hb dX8_waiting_9 rfl (lv_at hl 0 rfl) ?_
    refine lv_ifnonnullN hx hb dX8_waiting_10 ?_
    refine lv_iconst (v := (-1)) hx hb dX8_waiting_13 (by decide) ?_
    exact gm_iret hx hb hr hlocks hS (by (try simp only [f_X8_waiting, ↓gOpt_n hq1]); (try rfl)) trivial dX8_waiting_14
  · refine W.eq (g2 := F0 m 8 ls [.ref (β + off 0 + q1)]) rfl ?_
    refine lv_astore_n (lv' := [(3, .ref (β + off 0 + q1)), (0, .ref β), (1, .int a1), (2, .int a2)]) hx hb dX8_waiting_8 rfl hl (by decide) rfl (fun ls hl => ?_)
    refine lv_aload_n hx hb dX8_waiting_9 rfl (lv_at hl 0 rfl) ?_
    refine lv_ifnonnull (tgt := 15) hx hb dX8_waiting_10 (by decide) ?_
    refine lv_iload_n hx hb dX8_waiting_15 rfl (lv_at hl 3 rfl) ?_
    refine lv_if_ge (tgt := 24) hx hb dX8_waiting_16 (by decide) (fun c_2 => ?_) (fun c_2 => ?_)
    · refine lv_aload_n hx hb dX8_waiting_24 rfl (lv_at hl 1 rfl) ?_
      refine va_get (D := D) (ci := 8) (v := .ref (β + off 0)) (C := RX8) (T := TX8) (N := 8) hx hb hts inX8 hown hK.1 (TR.mk0 hR) 0 rfl rfl 0 (by decide) lk10 (fun _ h9 => h9) rfl dX8_waiting_25 ?_
      refine lv_aload_n hx hb dX8_waiting_28 rfl (lv_at hl 0 rfl) ?_
      refine va_get (D := D) (ci := 4) (v := .int (nI (10 * nLin q1 + nSta q1))) (C := RX4) (T := TX4) (N := 10) hx hb hts inX4 hown hK.1 (SR.mk1 (TR.st hR (by decide)) (c := q1) (fk_X3_stationOf  hq1).1 (bS_4 (fk_X3_stationOf  hq1).2)) 0 rfl rfl 1 (by decide) lk254 (fun _ h9 => h9) rfl dX8_waiting_29 ?_
      refine lv_iload_n hx hb dX8_waiting_32 rfl (lv_at hl 3 rfl) ?_
      refine gm_cq (gm_call (As := [.int (nI (10 * nLin q1 + nSta q1)), .int a2]) (rest := []) (ci := 3) (q := (RX3, TX3, 14)) ⟨hx, hb, hml, hown, hts⟩ hK (c_X3_inQueue l D cy (β + off 0) (vw 0 X) (nI (10 * nLin q1 + nSta q1)) a2) (cwV 2 hts gX8_waiting_X3_inQueue rfl rfl rfl (by decide +kernel) ⟨Nat.le_of_ble_eq_true rfl, Nat.le_of_ble_eq_true rfl⟩) (SR.mk0 (TR.st hR (by decide))) rfl (TR.st hR (by decide)) rfl hl.1 rfl (Nat.le_of_ble_eq_true rfl) dX8_waiting_33 (Nat.zero_le _) (Nat.zero_le _)) hS (fun _ h => h.elim) (fun H locs _ _ hfr hS => ?_)
      have hR := gRep.keep hR hfr (fun _ _ h => h)
      rcases hq3 : f_X3_inQueue (vw 0 X) (nI (10 * nLin q1 + nSta q1)) a2 with _ | q3
      · refine W.eq (g2 := F0 m 36 ls [.null]) rfl ?_
        refine gm_ci (gm_callS (As := [.null]) (rest := []) ⟨hx, hb, hml, hown, hts⟩ hK (c_X8_numberOf_N l D cy ) (va_cwS 1 hts gX8_waiting_X8_numberOf rfl rfl rfl (by decide +kernel) ⟨Nat.le_of_ble_eq_true rfl, Nat.le_of_ble_eq_true rfl⟩) trivial rfl hl.1 rfl (Nat.le_of_ble_eq_true rfl) dX8_waiting_36 (Nat.zero_le _) (Nat.zero_le _)) hS (fun _ h => h.elim) (fun H locs _ _ hfr hS => ?_)
        have hR := gRep.keep hR hfr (fun _ _ h => h)
        exact gm_iret hx hb hr hlocks hS (by (try simp only [f_X8_waiting, ↓if_pos c_2, ↓gOpt_s hq1, ↓gOpt_n hq3]); (try rfl)) trivial dX8_waiting_39
      · refine W.eq (g2 := F0 m 36 ls [.ref (β + off 0 + q3)]) rfl ?_
        refine gm_ci (gm_callS (As := [.ref (β + off 0 + q3)]) (rest := []) ⟨hx, hb, hml, hown, hts⟩ hK (c_X8_numberOf_R l D cy (β + off 0) (vw 0 X) q3 (fk_X3_inQueue  hq3).1 (fk_X3_inQueue  hq3).2) (va_cwS 1 hts gX8_waiting_X8_numberOf rfl rfl rfl (by decide +kernel) ⟨Nat.le_of_ble_eq_true rfl, Nat.le_of_ble_eq_true rfl⟩) (TR.st hR (by decide)) rfl hl.1 rfl (Nat.le_of_ble_eq_true rfl) dX8_waiting_36 (Nat.zero_le _) (Nat.zero_le _)) hS (fun _ h => h.elim) (fun H locs _ _ hfr hS => ?_)
        have hR := gRep.keep hR hfr (fun _ _ h => h)
        exact gm_iret hx hb hr hlocks hS (by (try simp only [f_X8_waiting, ↓if_pos c_2, ↓gOpt_s hq1, ↓gOpt_s hq3]); (try rfl)) trivial dX8_waiting_39
    · refine lv_bipush (v := (-2)) hx hb dX8_waiting_19 (by decide) ?_
      refine lv_goto (tgt := 39) hx hb dX8_waiting_21 (by decide) ?_
      exact gm_iret hx hb hr hlocks hS (by (try simp only [f_X8_waiting, ↓if_neg c_2, ↓gOpt_s hq1]); (try rfl)) trivial dX8_waiting_39
def f_X8_calls (X : gM) (a1 : Int32) (a2 : Int32) : Int32 :=
  gOpt (f_X3_stationOf (vw 0 X) a1) (
    (-1)) (fun q1 =>
    if 0 ≤ a2 then
      f_X4_callAt (vw 0 X) q1 a2
    else
      (-2))
set_option maxHeartbeats 4000000 in
set_option maxRecDepth 100000 in
theorem c_X8_calls (l : Launch) (D : va_G) (cy : Nat → ClassId) (β : Nat) (X : gM) (a1 : Int32) (a2 : Int32)  : Met l yX8_calls wsX8_calls ({ frames := 3, cells := 0, slots := 0, locals := 65 }) (gP [.ref β, .int a1, .int a2] D cy (TR D cy β X)) (gQi (f_X8_calls X a1 a2) (fun _ => True) gNo) 0 0 gNo := by
  refine gm_met (cc := cX8_calls) (maxL := 4) (ret := (some .int)) [.ref β, .int a1, .int a2] (by decide) rfl (Nat.le_of_ble_eq_true rfl) ?_
  intro p e s m args below meth c0 ls C hR hl
  obtain ⟨hx, hb, hr, hts, hown, hlocks, hml, hK⟩ := C
  have hl : lv_has ls 4 [(0, .ref β), (1, .int a1), (2, .int a2)] := hl
  have hS : va_S gNo s.heap s.heap [] := va_S.rf
  have lk10 := hts (.fieldLink RX8 10 "MercuryLine" "now" "LMercuryLine$State;") (by decide +kernel)
  have inX8 : ∀ w ∈ u_ws RX8 TX8 8, w ∈ wsX8_calls := by decide +kernel
  refine lv_aload_n hx hb dX8_calls_0 rfl (lv_at hl 0 rfl) ?_
  refine va_get (D := D) (ci := 8) (v := .ref (β + off 0)) (C := RX8) (T := TX8) (N := 8) hx hb hts inX8 hown hK.1 (TR.mk0 hR) 0 rfl rfl 0 (by decide) lk10 (fun _ h9 => h9) rfl dX8_calls_1 ?_
  refine lv_iload_n hx hb dX8_calls_4 rfl (lv_at hl 1 rfl) ?_
  refine gm_cq (gm_call (As := [.int a1]) (rest := []) (ci := 3) (q := (RX3, TX3, 14)) ⟨hx, hb, hml, hown, hts⟩ hK (c_X3_stationOf l D cy (β + off 0) (vw 0 X) a1) (cwV 1 hts gX8_calls_X3_stationOf rfl rfl rfl (by decide +kernel) ⟨Nat.le_of_ble_eq_true rfl, Nat.le_of_ble_eq_true rfl⟩) (SR.mk0 (TR.st hR (by decide))) rfl (TR.st hR (by decide)) rfl hl.1 rfl (Nat.le_of_ble_eq_true rfl) dX8_calls_5 (Nat.zero_le _) (Nat.zero_le _)) hS (fun _ h => h.elim) (fun H locs _ _ hfr hS => ?_)
  have hR := gRep.keep hR hfr (fun _ _ h => h)
  rcases hq1 : f_X3_stationOf (vw 0 X) a1 with _ | q1
  · refine W.eq (g2 := F0 m 8 ls [.null]) rfl ?_
    refine lv_astore_nN (lv' := [(3, .null), (0, .ref β), (1, .int a1), (2, .int a2)]) hx hb dX8_calls_8 rfl hl (by decide) rfl (fun ls hl => ?_)
    refine lv_aload_nN hx hb dX8_calls_9 rfl (lv_at hl 0 rfl) ?_
    refine lv_ifnonnullN hx hb dX8_calls_10 ?_
    refine lv_iconst (v := (-1)) hx hb dX8_calls_13 (by decide) ?_
    exact gm_iret hx hb hr hlocks hS (by (try simp only [f_X8_calls, ↓gOpt_n hq1]); (try rfl)) trivial dX8_calls_14
  · refine W.eq (g2 := F0 m 8 ls [.ref (β + off 0 + q1)]) rfl ?_
    refine lv_astore_n (lv' := [(3, .ref (β + off 0 + q1)), (0, .ref β), (1, .int a1), (2, .int a2)]) hx hb dX8_calls_8 rfl hl (by decide) rfl (fun ls hl => ?_)
    refine lv_aload_n hx hb dX8_calls_9 rfl (lv_at hl 0 rfl) ?_
    refine lv_ifnonnull (tgt := 15) hx hb dX8_calls_10 (by decide) ?_
    refine lv_iload_n hx hb dX8_calls_15 rfl (lv_at hl 3 rfl) ?_
    refine lv_if_ge (tgt := 24) hx hb dX8_calls_16 (by decide) (fun c_2 => ?_) (fun c_2 => ?_)
    · refine lv_aload_n hx hb dX8_calls_24 rfl (lv_at hl 0 rfl) ?_
      refine lv_iload_n hx hb dX8_calls_25 rfl (lv_at hl 3 rfl) ?_
      refine gm_ci (gm_call (As := [.int a2]) (rest := []) (ci := 4) (q := (RX4, TX4, 10)) ⟨hx, hb, hml, hown, hts⟩ hK (c_X4_callAt l D cy (β + off 0) (vw 0 X) q1 a2 (fk_X3_stationOf  hq1).1 (fk_X3_stationOf  hq1).2) (cwV 1 hts gX8_calls_X4_callAt rfl rfl rfl (by decide +kernel) ⟨Nat.le_of_ble_eq_true rfl, Nat.le_of_ble_eq_true rfl⟩) (SR.mk1 (TR.st hR (by decide)) (c := q1) (fk_X3_stationOf  hq1).1 (bS_4 (fk_X3_stationOf  hq1).2)) rfl (TR.st hR (by decide)) rfl hl.1 rfl (Nat.le_of_ble_eq_true rfl) dX8_calls_26 (Nat.zero_le _) (Nat.zero_le _)) hS (fun _ h => h.elim) (fun H locs _ _ hfr hS => ?_)
      have hR := gRep.keep hR hfr (fun _ _ h => h)
      exact gm_iret hx hb hr hlocks hS (by (try simp only [f_X8_calls, ↓if_pos c_2, ↓gOpt_s hq1]); (try rfl)) trivial dX8_calls_29
    · refine lv_bipush (v := (-2)) hx hb dX8_calls_19 (by decide) ?_
      refine lv_goto (tgt := 29) hx hb dX8_calls_21 (by decide) ?_
      exact gm_iret hx hb hr hlocks hS (by (try simp only [f_X8_calls, ↓if_neg c_2, ↓gOpt_s hq1]); (try rfl)) trivial dX8_calls_29
def f_X8_ticket (X : gM) (a1 : Int32) (a2 : Int32) : Int32 :=
  gOpt (f_X3_ticketOf (vw 0 X) a1) (
    (-1)) (fun q1 =>
    if a2 = 0 then
      vw 0 X (q1 + 1) 0
    else
      if a2 = 1 then
        vw 0 X (q1 + 1) 1
      else
        if a2 = 2 then
          vw 0 X (q1 + 1) 2
        else
          if a2 = 3 then
            vw 0 X (q1 + 1) 3
          else
            if a2 = 4 then
              vw 0 X q1 2
            else
              if a2 = 5 then
                vw 0 X q1 3
              else
                if a2 = 6 then
                  vw 0 X q1 4
                else
                  if a2 = 7 then
                    vw 0 X q1 5
                  else
                    if a2 = 8 then
                      vw 0 X q1 6
                    else
                      if a2 = 9 then
                        vw 0 X q1 7
                      else
                        if a2 = 10 then
                          vw 0 X q1 8
                        else
                          if a2 = 11 then
                            vw 0 X q1 9
                          else
                            if a2 = 12 then
                              vw 0 X q1 10
                            else
                              if a2 = 13 then
                                vw 0 X q1 11
                              else
                                (-2))
set_option maxHeartbeats 4000000 in
set_option maxRecDepth 100000 in
theorem c_X8_ticket (l : Launch) (D : va_G) (cy : Nat → ClassId) (β : Nat) (X : gM) (a1 : Int32) (a2 : Int32)  : Met l yX8_ticket wsX8_ticket ({ frames := 2, cells := 0, slots := 0, locals := 44 }) (gP [.ref β, .int a1, .int a2] D cy (TR D cy β X)) (gQi (f_X8_ticket X a1 a2) (fun _ => True) gNo) 0 0 gNo := by
  refine gm_met (cc := cX8_ticket) (maxL := 4) (ret := (some .int)) [.ref β, .int a1, .int a2] (by decide) rfl (Nat.le_of_ble_eq_true rfl) ?_
  intro p e s m args below meth c0 ls C hR hl
  obtain ⟨hx, hb, hr, hts, hown, hlocks, hml, hK⟩ := C
  have hl : lv_has ls 4 [(0, .ref β), (1, .int a1), (2, .int a2)] := hl
  have hS : va_S gNo s.heap s.heap [] := va_S.rf
  have lk10 := hts (.fieldLink RX8 10 "MercuryLine" "now" "LMercuryLine$State;") (by decide +kernel)
  have inX8 : ∀ w ∈ u_ws RX8 TX8 8, w ∈ wsX8_ticket := by decide +kernel
  have lk161 := hts (.fieldLink RX8 161 "MercuryLine$Ticket" "trip" "LMercuryLine$Trip;") (by decide +kernel)
  have inX5 : ∀ w ∈ u_ws RX5 TX5 14, w ∈ wsX8_ticket := by decide +kernel
  have lk100 := hts (.fieldLink RX8 100 "MercuryLine$Trip" "value" "I") (by decide +kernel)
  have inX7 : ∀ w ∈ u_ws RX7 TX7 5, w ∈ wsX8_ticket := by decide +kernel
  have lk103 := hts (.fieldLink RX8 103 "MercuryLine$Trip" "kind" "I") (by decide +kernel)
  have lk106 := hts (.fieldLink RX8 106 "MercuryLine$Trip" "from" "I") (by decide +kernel)
  have lk109 := hts (.fieldLink RX8 109 "MercuryLine$Trip" "to" "I") (by decide +kernel)
  have lk283 := hts (.fieldLink RX8 283 "MercuryLine$Ticket" "lapsLeft" "I") (by decide +kernel)
  have lk286 := hts (.fieldLink RX8 286 "MercuryLine$Ticket" "paid" "I") (by decide +kernel)
  have lk287 := hts (.fieldLink RX8 287 "MercuryLine$Ticket" "state" "I") (by decide +kernel)
  have lk290 := hts (.fieldLink RX8 290 "MercuryLine$Ticket" "line" "I") (by decide +kernel)
  have lk291 := hts (.fieldLink RX8 291 "MercuryLine$Ticket" "slot" "I") (by decide +kernel)
  have lk294 := hts (.fieldLink RX8 294 "MercuryLine$Ticket" "bookedIn" "I") (by decide +kernel)
  have lk297 := hts (.fieldLink RX8 297 "MercuryLine$Ticket" "boardedIn" "I") (by decide +kernel)
  have lk300 := hts (.fieldLink RX8 300 "MercuryLine$Ticket" "endedIn" "I") (by decide +kernel)
  have lk303 := hts (.fieldLink RX8 303 "MercuryLine$Ticket" "endedAt" "I") (by decide +kernel)
  have lk306 := hts (.fieldLink RX8 306 "MercuryLine$Ticket" "shovedBy" "I") (by decide +kernel)
  refine lv_aload_n hx hb dX8_ticket_0 rfl (lv_at hl 0 rfl) ?_
  refine va_get (D := D) (ci := 8) (v := .ref (β + off 0)) (C := RX8) (T := TX8) (N := 8) hx hb hts inX8 hown hK.1 (TR.mk0 hR) 0 rfl rfl 0 (by decide) lk10 (fun _ h9 => h9) rfl dX8_ticket_1 ?_
  refine lv_iload_n hx hb dX8_ticket_4 rfl (lv_at hl 1 rfl) ?_
  refine gm_cq (gm_call (As := [.int a1]) (rest := []) (ci := 3) (q := (RX3, TX3, 14)) ⟨hx, hb, hml, hown, hts⟩ hK (c_X3_ticketOf l D cy (β + off 0) (vw 0 X) a1) (cwV 1 hts gX8_ticket_X3_ticketOf rfl rfl rfl (by decide +kernel) ⟨Nat.le_of_ble_eq_true rfl, Nat.le_of_ble_eq_true rfl⟩) (SR.mk0 (TR.st hR (by decide))) rfl (TR.st hR (by decide)) rfl hl.1 rfl (Nat.le_of_ble_eq_true rfl) dX8_ticket_5 (Nat.zero_le _) (Nat.zero_le _)) hS (fun _ h => h.elim) (fun H locs _ _ hfr hS => ?_)
  have hR := gRep.keep hR hfr (fun _ _ h => h)
  rcases hq1 : f_X3_ticketOf (vw 0 X) a1 with _ | q1
  · refine W.eq (g2 := F0 m 8 ls [.null]) rfl ?_
    refine lv_astore_nN (lv' := [(3, .null), (0, .ref β), (1, .int a1), (2, .int a2)]) hx hb dX8_ticket_8 rfl hl (by decide) rfl (fun ls hl => ?_)
    refine lv_aload_nN hx hb dX8_ticket_9 rfl (lv_at hl 0 rfl) ?_
    refine lv_ifnonnullN hx hb dX8_ticket_10 ?_
    refine lv_iconst (v := (-1)) hx hb dX8_ticket_13 (by decide) ?_
    exact gm_iret hx hb hr hlocks hS (by (try simp only [f_X8_ticket, ↓gOpt_n hq1]); (try rfl)) trivial dX8_ticket_14
  · refine W.eq (g2 := F0 m 8 ls [.ref (β + off 0 + q1)]) rfl ?_
    refine lv_astore_n (lv' := [(3, .ref (β + off 0 + q1)), (0, .ref β), (1, .int a1), (2, .int a2)]) hx hb dX8_ticket_8 rfl hl (by decide) rfl (fun ls hl => ?_)
    refine lv_aload_n hx hb dX8_ticket_9 rfl (lv_at hl 0 rfl) ?_
    refine lv_ifnonnull (tgt := 15) hx hb dX8_ticket_10 (by decide) ?_
    refine lv_iload_n hx hb dX8_ticket_15 rfl (lv_at hl 3 rfl) ?_
    rcases Decidable.em (a2 = 0) with c_2 | c_2
    · refine lv_tableIn (tgt := 88) hx hb dX8_ticket_16 (by rw [c_2]; decide) (by rw [c_2]; decide) (by rw [c_2]; rfl) (by decide) ?_
      refine lv_aload_n hx hb dX8_ticket_88 rfl (lv_at hl 0 rfl) ?_
      refine va_get (D := D) (ci := 5) (v := .ref (β + off 0 + (q1 + 1))) (C := RX5) (T := TX5) (N := 14) hx hb hts inX5 hown hK.1 (SR.mk1 (TR.st hR (by decide)) (c := q1) (fk_X3_ticketOf  hq1).1 (bS_5 (fk_X3_ticketOf  hq1).2)) 0 rfl rfl 1 (by decide) lk161 (fun _ h9 => h9) rfl dX8_ticket_89 ?_
      refine va_get (D := D) (ci := 7) (v := .int (vw 0 X (q1 + 1) 0)) (C := RX7) (T := TX7) (N := 5) hx hb hts inX7 hown hK.1 (SR.mk1 (TR.st hR (by decide)) (c := q1 + 1) (kd_5 q1 (fk_X3_ticketOf  hq1).1 (fk_X3_ticketOf  hq1).2).1 (bS_7 (kd_5 q1 (fk_X3_ticketOf  hq1).1 (fk_X3_ticketOf  hq1).2).2)) 0 rfl rfl 0 (by decide) lk100 (fun _ h9 => h9) rfl dX8_ticket_92 ?_
      exact gm_iret hx hb hr hlocks hS (by (try simp only [f_X8_ticket, ↓if_pos c_2, ↓gOpt_s hq1]); (try rfl)) trivial dX8_ticket_95
    · skip
      rcases Decidable.em (a2 = 1) with c_3 | c_3
      · refine lv_tableIn (tgt := 96) hx hb dX8_ticket_16 (by rw [c_3]; decide) (by rw [c_3]; decide) (by rw [c_3]; rfl) (by decide) ?_
        refine lv_aload_n hx hb dX8_ticket_96 rfl (lv_at hl 0 rfl) ?_
        refine va_get (D := D) (ci := 5) (v := .ref (β + off 0 + (q1 + 1))) (C := RX5) (T := TX5) (N := 14) hx hb hts inX5 hown hK.1 (SR.mk1 (TR.st hR (by decide)) (c := q1) (fk_X3_ticketOf  hq1).1 (bS_5 (fk_X3_ticketOf  hq1).2)) 0 rfl rfl 1 (by decide) lk161 (fun _ h9 => h9) rfl dX8_ticket_97 ?_
        refine va_get (D := D) (ci := 7) (v := .int (vw 0 X (q1 + 1) 1)) (C := RX7) (T := TX7) (N := 5) hx hb hts inX7 hown hK.1 (SR.mk1 (TR.st hR (by decide)) (c := q1 + 1) (kd_5 q1 (fk_X3_ticketOf  hq1).1 (fk_X3_ticketOf  hq1).2).1 (bS_7 (kd_5 q1 (fk_X3_ticketOf  hq1).1 (fk_X3_ticketOf  hq1).2).2)) 0 rfl rfl 1 (by decide) lk103 (fun _ h9 => h9) rfl dX8_ticket_100 ?_
        exact gm_iret hx hb hr hlocks hS (by (try simp only [f_X8_ticket, ↓if_neg c_2, ↓if_pos c_3, ↓gOpt_s hq1]); (try rfl)) trivial dX8_ticket_103
      · skip
        rcases Decidable.em (a2 = 2) with c_4 | c_4
        · refine lv_tableIn (tgt := 104) hx hb dX8_ticket_16 (by rw [c_4]; decide) (by rw [c_4]; decide) (by rw [c_4]; rfl) (by decide) ?_
          refine lv_aload_n hx hb dX8_ticket_104 rfl (lv_at hl 0 rfl) ?_
          refine va_get (D := D) (ci := 5) (v := .ref (β + off 0 + (q1 + 1))) (C := RX5) (T := TX5) (N := 14) hx hb hts inX5 hown hK.1 (SR.mk1 (TR.st hR (by decide)) (c := q1) (fk_X3_ticketOf  hq1).1 (bS_5 (fk_X3_ticketOf  hq1).2)) 0 rfl rfl 1 (by decide) lk161 (fun _ h9 => h9) rfl dX8_ticket_105 ?_
          refine va_get (D := D) (ci := 7) (v := .int (vw 0 X (q1 + 1) 2)) (C := RX7) (T := TX7) (N := 5) hx hb hts inX7 hown hK.1 (SR.mk1 (TR.st hR (by decide)) (c := q1 + 1) (kd_5 q1 (fk_X3_ticketOf  hq1).1 (fk_X3_ticketOf  hq1).2).1 (bS_7 (kd_5 q1 (fk_X3_ticketOf  hq1).1 (fk_X3_ticketOf  hq1).2).2)) 0 rfl rfl 2 (by decide) lk106 (fun _ h9 => h9) rfl dX8_ticket_108 ?_
          exact gm_iret hx hb hr hlocks hS (by (try simp only [f_X8_ticket, ↓if_neg c_2, ↓if_neg c_3, ↓if_pos c_4, ↓gOpt_s hq1]); (try rfl)) trivial dX8_ticket_111
        · skip
          rcases Decidable.em (a2 = 3) with c_5 | c_5
          · refine lv_tableIn (tgt := 112) hx hb dX8_ticket_16 (by rw [c_5]; decide) (by rw [c_5]; decide) (by rw [c_5]; rfl) (by decide) ?_
            refine lv_aload_n hx hb dX8_ticket_112 rfl (lv_at hl 0 rfl) ?_
            refine va_get (D := D) (ci := 5) (v := .ref (β + off 0 + (q1 + 1))) (C := RX5) (T := TX5) (N := 14) hx hb hts inX5 hown hK.1 (SR.mk1 (TR.st hR (by decide)) (c := q1) (fk_X3_ticketOf  hq1).1 (bS_5 (fk_X3_ticketOf  hq1).2)) 0 rfl rfl 1 (by decide) lk161 (fun _ h9 => h9) rfl dX8_ticket_113 ?_
            refine va_get (D := D) (ci := 7) (v := .int (vw 0 X (q1 + 1) 3)) (C := RX7) (T := TX7) (N := 5) hx hb hts inX7 hown hK.1 (SR.mk1 (TR.st hR (by decide)) (c := q1 + 1) (kd_5 q1 (fk_X3_ticketOf  hq1).1 (fk_X3_ticketOf  hq1).2).1 (bS_7 (kd_5 q1 (fk_X3_ticketOf  hq1).1 (fk_X3_ticketOf  hq1).2).2)) 0 rfl rfl 3 (by decide) lk109 (fun _ h9 => h9) rfl dX8_ticket_116 ?_
            exact gm_iret hx hb hr hlocks hS (by (try simp only [f_X8_ticket, ↓if_neg c_2, ↓if_neg c_3, ↓if_neg c_4, ↓if_pos c_5, ↓gOpt_s hq1]); (try rfl)) trivial dX8_ticket_119
          · skip
            rcases Decidable.em (a2 = 4) with c_6 | c_6
            · refine lv_tableIn (tgt := 120) hx hb dX8_ticket_16 (by rw [c_6]; decide) (by rw [c_6]; decide) (by rw [c_6]; rfl) (by decide) ?_
              refine lv_aload_n hx hb dX8_ticket_120 rfl (lv_at hl 0 rfl) ?_
              refine va_get (D := D) (ci := 5) (v := .int (vw 0 X q1 2)) (C := RX5) (T := TX5) (N := 14) hx hb hts inX5 hown hK.1 (SR.mk1 (TR.st hR (by decide)) (c := q1) (fk_X3_ticketOf  hq1).1 (bS_5 (fk_X3_ticketOf  hq1).2)) 0 rfl rfl 2 (by decide) lk283 (fun _ h9 => h9) rfl dX8_ticket_121 ?_
              exact gm_iret hx hb hr hlocks hS (by (try simp only [f_X8_ticket, ↓if_neg c_2, ↓if_neg c_3, ↓if_neg c_4, ↓if_neg c_5, ↓if_pos c_6, ↓gOpt_s hq1]); (try rfl)) trivial dX8_ticket_124
            · skip
              rcases Decidable.em (a2 = 5) with c_7 | c_7
              · refine lv_tableIn (tgt := 125) hx hb dX8_ticket_16 (by rw [c_7]; decide) (by rw [c_7]; decide) (by rw [c_7]; rfl) (by decide) ?_
                refine lv_aload_n hx hb dX8_ticket_125 rfl (lv_at hl 0 rfl) ?_
                refine va_get (D := D) (ci := 5) (v := .int (vw 0 X q1 3)) (C := RX5) (T := TX5) (N := 14) hx hb hts inX5 hown hK.1 (SR.mk1 (TR.st hR (by decide)) (c := q1) (fk_X3_ticketOf  hq1).1 (bS_5 (fk_X3_ticketOf  hq1).2)) 0 rfl rfl 3 (by decide) lk286 (fun _ h9 => h9) rfl dX8_ticket_126 ?_
                exact gm_iret hx hb hr hlocks hS (by (try simp only [f_X8_ticket, ↓if_neg c_2, ↓if_neg c_3, ↓if_neg c_4, ↓if_neg c_5, ↓if_neg c_6, ↓if_pos c_7, ↓gOpt_s hq1]); (try rfl)) trivial dX8_ticket_129
              · skip
                rcases Decidable.em (a2 = 6) with c_8 | c_8
                · refine lv_tableIn (tgt := 130) hx hb dX8_ticket_16 (by rw [c_8]; decide) (by rw [c_8]; decide) (by rw [c_8]; rfl) (by decide) ?_
                  refine lv_aload_n hx hb dX8_ticket_130 rfl (lv_at hl 0 rfl) ?_
                  refine va_get (D := D) (ci := 5) (v := .int (vw 0 X q1 4)) (C := RX5) (T := TX5) (N := 14) hx hb hts inX5 hown hK.1 (SR.mk1 (TR.st hR (by decide)) (c := q1) (fk_X3_ticketOf  hq1).1 (bS_5 (fk_X3_ticketOf  hq1).2)) 0 rfl rfl 4 (by decide) lk287 (fun _ h9 => h9) rfl dX8_ticket_131 ?_
                  exact gm_iret hx hb hr hlocks hS (by (try simp only [f_X8_ticket, ↓if_neg c_2, ↓if_neg c_3, ↓if_neg c_4, ↓if_neg c_5, ↓if_neg c_6, ↓if_neg c_7, ↓if_pos c_8, ↓gOpt_s hq1]); (try rfl)) trivial dX8_ticket_134
                · skip
                  rcases Decidable.em (a2 = 7) with c_9 | c_9
                  · refine lv_tableIn (tgt := 135) hx hb dX8_ticket_16 (by rw [c_9]; decide) (by rw [c_9]; decide) (by rw [c_9]; rfl) (by decide) ?_
                    refine lv_aload_n hx hb dX8_ticket_135 rfl (lv_at hl 0 rfl) ?_
                    refine va_get (D := D) (ci := 5) (v := .int (vw 0 X q1 5)) (C := RX5) (T := TX5) (N := 14) hx hb hts inX5 hown hK.1 (SR.mk1 (TR.st hR (by decide)) (c := q1) (fk_X3_ticketOf  hq1).1 (bS_5 (fk_X3_ticketOf  hq1).2)) 0 rfl rfl 5 (by decide) lk290 (fun _ h9 => h9) rfl dX8_ticket_136 ?_
                    exact gm_iret hx hb hr hlocks hS (by (try simp only [f_X8_ticket, ↓if_neg c_2, ↓if_neg c_3, ↓if_neg c_4, ↓if_neg c_5, ↓if_neg c_6, ↓if_neg c_7, ↓if_neg c_8, ↓if_pos c_9, ↓gOpt_s hq1]); (try rfl)) trivial dX8_ticket_139
                  · skip
                    rcases Decidable.em (a2 = 8) with c_10 | c_10
                    · refine lv_tableIn (tgt := 140) hx hb dX8_ticket_16 (by rw [c_10]; decide) (by rw [c_10]; decide) (by rw [c_10]; rfl) (by decide) ?_
                      refine lv_aload_n hx hb dX8_ticket_140 rfl (lv_at hl 0 rfl) ?_
                      refine va_get (D := D) (ci := 5) (v := .int (vw 0 X q1 6)) (C := RX5) (T := TX5) (N := 14) hx hb hts inX5 hown hK.1 (SR.mk1 (TR.st hR (by decide)) (c := q1) (fk_X3_ticketOf  hq1).1 (bS_5 (fk_X3_ticketOf  hq1).2)) 0 rfl rfl 6 (by decide) lk291 (fun _ h9 => h9) rfl dX8_ticket_141 ?_
                      exact gm_iret hx hb hr hlocks hS (by (try simp only [f_X8_ticket, ↓if_neg c_2, ↓if_neg c_3, ↓if_neg c_4, ↓if_neg c_5, ↓if_neg c_6, ↓if_neg c_7, ↓if_neg c_8, ↓if_neg c_9, ↓if_pos c_10, ↓gOpt_s hq1]); (try rfl)) trivial dX8_ticket_144
                    · skip
                      rcases Decidable.em (a2 = 9) with c_11 | c_11
                      · refine lv_tableIn (tgt := 145) hx hb dX8_ticket_16 (by rw [c_11]; decide) (by rw [c_11]; decide) (by rw [c_11]; rfl) (by decide) ?_
                        refine lv_aload_n hx hb dX8_ticket_145 rfl (lv_at hl 0 rfl) ?_
                        refine va_get (D := D) (ci := 5) (v := .int (vw 0 X q1 7)) (C := RX5) (T := TX5) (N := 14) hx hb hts inX5 hown hK.1 (SR.mk1 (TR.st hR (by decide)) (c := q1) (fk_X3_ticketOf  hq1).1 (bS_5 (fk_X3_ticketOf  hq1).2)) 0 rfl rfl 7 (by decide) lk294 (fun _ h9 => h9) rfl dX8_ticket_146 ?_
                        exact gm_iret hx hb hr hlocks hS (by (try simp only [f_X8_ticket, ↓if_neg c_2, ↓if_neg c_3, ↓if_neg c_4, ↓if_neg c_5, ↓if_neg c_6, ↓if_neg c_7, ↓if_neg c_8, ↓if_neg c_9, ↓if_neg c_10, ↓if_pos c_11, ↓gOpt_s hq1]); (try rfl)) trivial dX8_ticket_149
                      · skip
                        rcases Decidable.em (a2 = 10) with c_12 | c_12
                        · refine lv_tableIn (tgt := 150) hx hb dX8_ticket_16 (by rw [c_12]; decide) (by rw [c_12]; decide) (by rw [c_12]; rfl) (by decide) ?_
                          refine lv_aload_n hx hb dX8_ticket_150 rfl (lv_at hl 0 rfl) ?_
                          refine va_get (D := D) (ci := 5) (v := .int (vw 0 X q1 8)) (C := RX5) (T := TX5) (N := 14) hx hb hts inX5 hown hK.1 (SR.mk1 (TR.st hR (by decide)) (c := q1) (fk_X3_ticketOf  hq1).1 (bS_5 (fk_X3_ticketOf  hq1).2)) 0 rfl rfl 8 (by decide) lk297 (fun _ h9 => h9) rfl dX8_ticket_151 ?_
                          exact gm_iret hx hb hr hlocks hS (by (try simp only [f_X8_ticket, ↓if_neg c_2, ↓if_neg c_3, ↓if_neg c_4, ↓if_neg c_5, ↓if_neg c_6, ↓if_neg c_7, ↓if_neg c_8, ↓if_neg c_9, ↓if_neg c_10, ↓if_neg c_11, ↓if_pos c_12, ↓gOpt_s hq1]); (try rfl)) trivial dX8_ticket_154
                        · skip
                          rcases Decidable.em (a2 = 11) with c_13 | c_13
                          · refine lv_tableIn (tgt := 155) hx hb dX8_ticket_16 (by rw [c_13]; decide) (by rw [c_13]; decide) (by rw [c_13]; rfl) (by decide) ?_
                            refine lv_aload_n hx hb dX8_ticket_155 rfl (lv_at hl 0 rfl) ?_
                            refine va_get (D := D) (ci := 5) (v := .int (vw 0 X q1 9)) (C := RX5) (T := TX5) (N := 14) hx hb hts inX5 hown hK.1 (SR.mk1 (TR.st hR (by decide)) (c := q1) (fk_X3_ticketOf  hq1).1 (bS_5 (fk_X3_ticketOf  hq1).2)) 0 rfl rfl 9 (by decide) lk300 (fun _ h9 => h9) rfl dX8_ticket_156 ?_
                            exact gm_iret hx hb hr hlocks hS (by (try simp only [f_X8_ticket, ↓if_neg c_2, ↓if_neg c_3, ↓if_neg c_4, ↓if_neg c_5, ↓if_neg c_6, ↓if_neg c_7, ↓if_neg c_8, ↓if_neg c_9, ↓if_neg c_10, ↓if_neg c_11, ↓if_neg c_12, ↓if_pos c_13, ↓gOpt_s hq1]); (try rfl)) trivial dX8_ticket_159
                          · skip
                            rcases Decidable.em (a2 = 12) with c_14 | c_14
                            · refine lv_tableIn (tgt := 160) hx hb dX8_ticket_16 (by rw [c_14]; decide) (by rw [c_14]; decide) (by rw [c_14]; rfl) (by decide) ?_
                              refine lv_aload_n hx hb dX8_ticket_160 rfl (lv_at hl 0 rfl) ?_
                              refine va_get (D := D) (ci := 5) (v := .int (vw 0 X q1 10)) (C := RX5) (T := TX5) (N := 14) hx hb hts inX5 hown hK.1 (SR.mk1 (TR.st hR (by decide)) (c := q1) (fk_X3_ticketOf  hq1).1 (bS_5 (fk_X3_ticketOf  hq1).2)) 0 rfl rfl 10 (by decide) lk303 (fun _ h9 => h9) rfl dX8_ticket_161 ?_
                              exact gm_iret hx hb hr hlocks hS (by (try simp only [f_X8_ticket, ↓if_neg c_2, ↓if_neg c_3, ↓if_neg c_4, ↓if_neg c_5, ↓if_neg c_6, ↓if_neg c_7, ↓if_neg c_8, ↓if_neg c_9, ↓if_neg c_10, ↓if_neg c_11, ↓if_neg c_12, ↓if_neg c_13, ↓if_pos c_14, ↓gOpt_s hq1]); (try rfl)) trivial dX8_ticket_164
                            · skip
                              rcases Decidable.em (a2 = 13) with c_15 | c_15
                              · refine lv_tableIn (tgt := 165) hx hb dX8_ticket_16 (by rw [c_15]; decide) (by rw [c_15]; decide) (by rw [c_15]; rfl) (by decide) ?_
                                refine lv_aload_n hx hb dX8_ticket_165 rfl (lv_at hl 0 rfl) ?_
                                refine va_get (D := D) (ci := 5) (v := .int (vw 0 X q1 11)) (C := RX5) (T := TX5) (N := 14) hx hb hts inX5 hown hK.1 (SR.mk1 (TR.st hR (by decide)) (c := q1) (fk_X3_ticketOf  hq1).1 (bS_5 (fk_X3_ticketOf  hq1).2)) 0 rfl rfl 11 (by decide) lk306 (fun _ h9 => h9) rfl dX8_ticket_166 ?_
                                exact gm_iret hx hb hr hlocks hS (by (try simp only [f_X8_ticket, ↓if_neg c_2, ↓if_neg c_3, ↓if_neg c_4, ↓if_neg c_5, ↓if_neg c_6, ↓if_neg c_7, ↓if_neg c_8, ↓if_neg c_9, ↓if_neg c_10, ↓if_neg c_11, ↓if_neg c_12, ↓if_neg c_13, ↓if_neg c_14, ↓if_pos c_15, ↓gOpt_s hq1]); (try rfl)) trivial dX8_ticket_169
                              · skip
                                refine lv_tableOut (tgt := 170) hx hb dX8_ticket_16 (g_sw0_13 c_2 c_3 c_4 c_5 c_6 c_7 c_8 c_9 c_10 c_11 c_12 c_13 c_14 c_15) (by decide) ?_
                                refine lv_bipush (v := (-2)) hx hb dX8_ticket_170 (by decide) ?_
                                exact gm_iret hx hb hr hlocks hS (by (try simp only [f_X8_ticket, ↓if_neg c_2, ↓if_neg c_3, ↓if_neg c_4, ↓if_neg c_5, ↓if_neg c_6, ↓if_neg c_7, ↓if_neg c_8, ↓if_neg c_9, ↓if_neg c_10, ↓if_neg c_11, ↓if_neg c_12, ↓if_neg c_13, ↓if_neg c_14, ↓if_neg c_15, ↓gOpt_s hq1]); (try rfl)) trivial dX8_ticket_172
def f_X8_ordered (X : gM) (a1 : Int32) (a2 : Int32) : Int32 :=
  gOpt (f_X3_orderOf (vw 0 X) a1) (
    (-1)) (fun q1 =>
    if a2 = 0 then
      vw 0 X q1 1
    else
      if a2 = 1 then
        vw 0 X q1 2
      else
        if a2 = 2 then
          vw 0 X q1 3
        else
          if a2 = 3 then
            vw 0 X q1 4
          else
            if a2 = 4 then
              if gBit (vw 0 X q1 5) = 0 then
                0
              else
                1
            else
              if a2 = 5 then
                vw 0 X (q1 + 1) 0
              else
                if a2 = 6 then
                  vw 0 X (q1 + 1) 2
                else
                  (-2))
set_option maxHeartbeats 4000000 in
set_option maxRecDepth 100000 in
theorem c_X8_ordered (l : Launch) (D : va_G) (cy : Nat → ClassId) (β : Nat) (X : gM) (a1 : Int32) (a2 : Int32)  : Met l yX8_ordered wsX8_ordered ({ frames := 2, cells := 0, slots := 0, locals := 44 }) (gP [.ref β, .int a1, .int a2] D cy (TR D cy β X)) (gQi (f_X8_ordered X a1 a2) (fun _ => True) gNo) 0 0 gNo := by
  refine gm_met (cc := cX8_ordered) (maxL := 4) (ret := (some .int)) [.ref β, .int a1, .int a2] (by decide) rfl (Nat.le_of_ble_eq_true rfl) ?_
  intro p e s m args below meth c0 ls C hR hl
  obtain ⟨hx, hb, hr, hts, hown, hlocks, hml, hK⟩ := C
  have hl : lv_has ls 4 [(0, .ref β), (1, .int a1), (2, .int a2)] := hl
  have hS : va_S gNo s.heap s.heap [] := va_S.rf
  have lk10 := hts (.fieldLink RX8 10 "MercuryLine" "now" "LMercuryLine$State;") (by decide +kernel)
  have inX8 : ∀ w ∈ u_ws RX8 TX8 8, w ∈ wsX8_ordered := by decide +kernel
  have lk309 := hts (.fieldLink RX8 309 "MercuryLine$Order" "period" "I") (by decide +kernel)
  have inX2 : ∀ w ∈ u_ws RX2 TX2 6, w ∈ wsX8_ordered := by decide +kernel
  have lk312 := hts (.fieldLink RX8 312 "MercuryLine$Order" "givenIn" "I") (by decide +kernel)
  have lk178 := hts (.fieldLink RX8 178 "MercuryLine$Order" "booked" "I") (by decide +kernel)
  have lk315 := hts (.fieldLink RX8 315 "MercuryLine$Order" "skipped" "I") (by decide +kernel)
  have lk172 := hts (.fieldLink RX8 172 "MercuryLine$Order" "ended" "Z") (by decide +kernel)
  have lk316 := hts (.fieldLink RX8 316 "MercuryLine$Order" "trip" "LMercuryLine$Trip;") (by decide +kernel)
  have lk100 := hts (.fieldLink RX8 100 "MercuryLine$Trip" "value" "I") (by decide +kernel)
  have inX7 : ∀ w ∈ u_ws RX7 TX7 5, w ∈ wsX8_ordered := by decide +kernel
  have lk106 := hts (.fieldLink RX8 106 "MercuryLine$Trip" "from" "I") (by decide +kernel)
  refine lv_aload_n hx hb dX8_ordered_0 rfl (lv_at hl 0 rfl) ?_
  refine va_get (D := D) (ci := 8) (v := .ref (β + off 0)) (C := RX8) (T := TX8) (N := 8) hx hb hts inX8 hown hK.1 (TR.mk0 hR) 0 rfl rfl 0 (by decide) lk10 (fun _ h9 => h9) rfl dX8_ordered_1 ?_
  refine lv_iload_n hx hb dX8_ordered_4 rfl (lv_at hl 1 rfl) ?_
  refine gm_cq (gm_call (As := [.int a1]) (rest := []) (ci := 3) (q := (RX3, TX3, 14)) ⟨hx, hb, hml, hown, hts⟩ hK (c_X3_orderOf l D cy (β + off 0) (vw 0 X) a1) (cwV 1 hts gX8_ordered_X3_orderOf rfl rfl rfl (by decide +kernel) ⟨Nat.le_of_ble_eq_true rfl, Nat.le_of_ble_eq_true rfl⟩) (SR.mk0 (TR.st hR (by decide))) rfl (TR.st hR (by decide)) rfl hl.1 rfl (Nat.le_of_ble_eq_true rfl) dX8_ordered_5 (Nat.zero_le _) (Nat.zero_le _)) hS (fun _ h => h.elim) (fun H locs _ _ hfr hS => ?_)
  have hR := gRep.keep hR hfr (fun _ _ h => h)
  rcases hq1 : f_X3_orderOf (vw 0 X) a1 with _ | q1
  · refine W.eq (g2 := F0 m 8 ls [.null]) rfl ?_
    refine lv_astore_nN (lv' := [(3, .null), (0, .ref β), (1, .int a1), (2, .int a2)]) hx hb dX8_ordered_8 rfl hl (by decide) rfl (fun ls hl => ?_)
    refine lv_aload_nN hx hb dX8_ordered_9 rfl (lv_at hl 0 rfl) ?_
    refine lv_ifnonnullN hx hb dX8_ordered_10 ?_
    refine lv_iconst (v := (-1)) hx hb dX8_ordered_13 (by decide) ?_
    exact gm_iret hx hb hr hlocks hS (by (try simp only [f_X8_ordered, ↓gOpt_n hq1]); (try rfl)) trivial dX8_ordered_14
  · refine W.eq (g2 := F0 m 8 ls [.ref (β + off 0 + q1)]) rfl ?_
    refine lv_astore_n (lv' := [(3, .ref (β + off 0 + q1)), (0, .ref β), (1, .int a1), (2, .int a2)]) hx hb dX8_ordered_8 rfl hl (by decide) rfl (fun ls hl => ?_)
    refine lv_aload_n hx hb dX8_ordered_9 rfl (lv_at hl 0 rfl) ?_
    refine lv_ifnonnull (tgt := 15) hx hb dX8_ordered_10 (by decide) ?_
    refine lv_iload_n hx hb dX8_ordered_15 rfl (lv_at hl 3 rfl) ?_
    rcases Decidable.em (a2 = 0) with c_2 | c_2
    · refine lv_tableIn (tgt := 60) hx hb dX8_ordered_16 (by rw [c_2]; decide) (by rw [c_2]; decide) (by rw [c_2]; rfl) (by decide) ?_
      refine lv_aload_n hx hb dX8_ordered_60 rfl (lv_at hl 0 rfl) ?_
      refine va_get (D := D) (ci := 2) (v := .int (vw 0 X q1 1)) (C := RX2) (T := TX2) (N := 6) hx hb hts inX2 hown hK.1 (SR.mk1 (TR.st hR (by decide)) (c := q1) (fk_X3_orderOf  hq1).1 (bS_2 (fk_X3_orderOf  hq1).2)) 0 rfl rfl 1 (by decide) lk309 (fun _ h9 => h9) rfl dX8_ordered_61 ?_
      exact gm_iret hx hb hr hlocks hS (by (try simp only [f_X8_ordered, ↓if_pos c_2, ↓gOpt_s hq1]); (try rfl)) trivial dX8_ordered_64
    · skip
      rcases Decidable.em (a2 = 1) with c_3 | c_3
      · refine lv_tableIn (tgt := 65) hx hb dX8_ordered_16 (by rw [c_3]; decide) (by rw [c_3]; decide) (by rw [c_3]; rfl) (by decide) ?_
        refine lv_aload_n hx hb dX8_ordered_65 rfl (lv_at hl 0 rfl) ?_
        refine va_get (D := D) (ci := 2) (v := .int (vw 0 X q1 2)) (C := RX2) (T := TX2) (N := 6) hx hb hts inX2 hown hK.1 (SR.mk1 (TR.st hR (by decide)) (c := q1) (fk_X3_orderOf  hq1).1 (bS_2 (fk_X3_orderOf  hq1).2)) 0 rfl rfl 2 (by decide) lk312 (fun _ h9 => h9) rfl dX8_ordered_66 ?_
        exact gm_iret hx hb hr hlocks hS (by (try simp only [f_X8_ordered, ↓if_neg c_2, ↓if_pos c_3, ↓gOpt_s hq1]); (try rfl)) trivial dX8_ordered_69
      · skip
        rcases Decidable.em (a2 = 2) with c_4 | c_4
        · refine lv_tableIn (tgt := 70) hx hb dX8_ordered_16 (by rw [c_4]; decide) (by rw [c_4]; decide) (by rw [c_4]; rfl) (by decide) ?_
          refine lv_aload_n hx hb dX8_ordered_70 rfl (lv_at hl 0 rfl) ?_
          refine va_get (D := D) (ci := 2) (v := .int (vw 0 X q1 3)) (C := RX2) (T := TX2) (N := 6) hx hb hts inX2 hown hK.1 (SR.mk1 (TR.st hR (by decide)) (c := q1) (fk_X3_orderOf  hq1).1 (bS_2 (fk_X3_orderOf  hq1).2)) 0 rfl rfl 3 (by decide) lk178 (fun _ h9 => h9) rfl dX8_ordered_71 ?_
          exact gm_iret hx hb hr hlocks hS (by (try simp only [f_X8_ordered, ↓if_neg c_2, ↓if_neg c_3, ↓if_pos c_4, ↓gOpt_s hq1]); (try rfl)) trivial dX8_ordered_74
        · skip
          rcases Decidable.em (a2 = 3) with c_5 | c_5
          · refine lv_tableIn (tgt := 75) hx hb dX8_ordered_16 (by rw [c_5]; decide) (by rw [c_5]; decide) (by rw [c_5]; rfl) (by decide) ?_
            refine lv_aload_n hx hb dX8_ordered_75 rfl (lv_at hl 0 rfl) ?_
            refine va_get (D := D) (ci := 2) (v := .int (vw 0 X q1 4)) (C := RX2) (T := TX2) (N := 6) hx hb hts inX2 hown hK.1 (SR.mk1 (TR.st hR (by decide)) (c := q1) (fk_X3_orderOf  hq1).1 (bS_2 (fk_X3_orderOf  hq1).2)) 0 rfl rfl 4 (by decide) lk315 (fun _ h9 => h9) rfl dX8_ordered_76 ?_
            exact gm_iret hx hb hr hlocks hS (by (try simp only [f_X8_ordered, ↓if_neg c_2, ↓if_neg c_3, ↓if_neg c_4, ↓if_pos c_5, ↓gOpt_s hq1]); (try rfl)) trivial dX8_ordered_79
          · skip
            rcases Decidable.em (a2 = 4) with c_6 | c_6
            · refine lv_tableIn (tgt := 80) hx hb dX8_ordered_16 (by rw [c_6]; decide) (by rw [c_6]; decide) (by rw [c_6]; rfl) (by decide) ?_
              refine lv_aload_n hx hb dX8_ordered_80 rfl (lv_at hl 0 rfl) ?_
              refine va_get (D := D) (ci := 2) (v := .int (gBit (vw 0 X q1 5))) (C := RX2) (T := TX2) (N := 6) hx hb hts inX2 hown hK.1 (SR.mk1 (TR.st hR (by decide)) (c := q1) (fk_X3_orderOf  hq1).1 (bS_2 (fk_X3_orderOf  hq1).2)) 0 rfl rfl 5 (by decide) lk172 (fun _ h9 => h9) rfl dX8_ordered_81 ?_
              refine lv_if_eq (tgt := 91) hx hb dX8_ordered_84 (by decide) (fun c_7 => ?_) (fun c_7 => ?_)
              · refine lv_iconst (v := 0) hx hb dX8_ordered_91 (by decide) ?_
                exact gm_iret hx hb hr hlocks hS (by (try simp only [f_X8_ordered, ↓if_neg c_2, ↓if_neg c_3, ↓if_neg c_4, ↓if_neg c_5, ↓if_pos c_6, ↓if_pos c_7, ↓gOpt_s hq1]); (try rfl)) trivial dX8_ordered_92
              · refine lv_iconst (v := 1) hx hb dX8_ordered_87 (by decide) ?_
                refine lv_goto (tgt := 92) hx hb dX8_ordered_88 (by decide) ?_
                exact gm_iret hx hb hr hlocks hS (by (try simp only [f_X8_ordered, ↓if_neg c_2, ↓if_neg c_3, ↓if_neg c_4, ↓if_neg c_5, ↓if_pos c_6, ↓if_neg c_7, ↓gOpt_s hq1]); (try rfl)) trivial dX8_ordered_92
            · skip
              rcases Decidable.em (a2 = 5) with c_8 | c_8
              · refine lv_tableIn (tgt := 93) hx hb dX8_ordered_16 (by rw [c_8]; decide) (by rw [c_8]; decide) (by rw [c_8]; rfl) (by decide) ?_
                refine lv_aload_n hx hb dX8_ordered_93 rfl (lv_at hl 0 rfl) ?_
                refine va_get (D := D) (ci := 2) (v := .ref (β + off 0 + (q1 + 1))) (C := RX2) (T := TX2) (N := 6) hx hb hts inX2 hown hK.1 (SR.mk1 (TR.st hR (by decide)) (c := q1) (fk_X3_orderOf  hq1).1 (bS_2 (fk_X3_orderOf  hq1).2)) 0 rfl rfl 0 (by decide) lk316 (fun _ h9 => h9) rfl dX8_ordered_94 ?_
                refine va_get (D := D) (ci := 7) (v := .int (vw 0 X (q1 + 1) 0)) (C := RX7) (T := TX7) (N := 5) hx hb hts inX7 hown hK.1 (SR.mk1 (TR.st hR (by decide)) (c := q1 + 1) (kd_2 q1 (fk_X3_orderOf  hq1).1 (fk_X3_orderOf  hq1).2).1 (bS_7 (kd_2 q1 (fk_X3_orderOf  hq1).1 (fk_X3_orderOf  hq1).2).2)) 0 rfl rfl 0 (by decide) lk100 (fun _ h9 => h9) rfl dX8_ordered_97 ?_
                exact gm_iret hx hb hr hlocks hS (by (try simp only [f_X8_ordered, ↓if_neg c_2, ↓if_neg c_3, ↓if_neg c_4, ↓if_neg c_5, ↓if_neg c_6, ↓if_pos c_8, ↓gOpt_s hq1]); (try rfl)) trivial dX8_ordered_100
              · skip
                rcases Decidable.em (a2 = 6) with c_9 | c_9
                · refine lv_tableIn (tgt := 101) hx hb dX8_ordered_16 (by rw [c_9]; decide) (by rw [c_9]; decide) (by rw [c_9]; rfl) (by decide) ?_
                  refine lv_aload_n hx hb dX8_ordered_101 rfl (lv_at hl 0 rfl) ?_
                  refine va_get (D := D) (ci := 2) (v := .ref (β + off 0 + (q1 + 1))) (C := RX2) (T := TX2) (N := 6) hx hb hts inX2 hown hK.1 (SR.mk1 (TR.st hR (by decide)) (c := q1) (fk_X3_orderOf  hq1).1 (bS_2 (fk_X3_orderOf  hq1).2)) 0 rfl rfl 0 (by decide) lk316 (fun _ h9 => h9) rfl dX8_ordered_102 ?_
                  refine va_get (D := D) (ci := 7) (v := .int (vw 0 X (q1 + 1) 2)) (C := RX7) (T := TX7) (N := 5) hx hb hts inX7 hown hK.1 (SR.mk1 (TR.st hR (by decide)) (c := q1 + 1) (kd_2 q1 (fk_X3_orderOf  hq1).1 (fk_X3_orderOf  hq1).2).1 (bS_7 (kd_2 q1 (fk_X3_orderOf  hq1).1 (fk_X3_orderOf  hq1).2).2)) 0 rfl rfl 2 (by decide) lk106 (fun _ h9 => h9) rfl dX8_ordered_105 ?_
                  exact gm_iret hx hb hr hlocks hS (by (try simp only [f_X8_ordered, ↓if_neg c_2, ↓if_neg c_3, ↓if_neg c_4, ↓if_neg c_5, ↓if_neg c_6, ↓if_neg c_8, ↓if_pos c_9, ↓gOpt_s hq1]); (try rfl)) trivial dX8_ordered_108
                · skip
                  refine lv_tableOut (tgt := 109) hx hb dX8_ordered_16 (g_sw0_6 c_2 c_3 c_4 c_5 c_6 c_8 c_9) (by decide) ?_
                  refine lv_bipush (v := (-2)) hx hb dX8_ordered_109 (by decide) ?_
                  exact gm_iret hx hb hr hlocks hS (by (try simp only [f_X8_ordered, ↓if_neg c_2, ↓if_neg c_3, ↓if_neg c_4, ↓if_neg c_5, ↓if_neg c_6, ↓if_neg c_8, ↓if_neg c_9, ↓gOpt_s hq1]); (try rfl)) trivial dX8_ordered_111
def f_X8_price (X : gM) (a1 : Int32) (a2 : Int32) : Int32 :=
  if f_X8_within a1 1 3 = 0 then
    (-2)
  else
    if f_X8_within a2 1 9 = 0 then
      (-2)
    else
      f_X3_priceOf (vw 0 X) a1 a2
set_option maxHeartbeats 4000000 in
set_option maxRecDepth 100000 in
theorem c_X8_price (l : Launch) (D : va_G) (cy : Nat → ClassId) (β : Nat) (X : gM) (a1 : Int32) (a2 : Int32)  : Met l yX8_price wsX8_price ({ frames := 1, cells := 0, slots := 0, locals := 22 }) (gP [.ref β, .int a1, .int a2] D cy (TR D cy β X)) (gQi (f_X8_price X a1 a2) (fun _ => True) gNo) 0 0 gNo := by
  refine gm_met (cc := cX8_price) (maxL := 3) (ret := (some .int)) [.ref β, .int a1, .int a2] (by decide) rfl (Nat.le_of_ble_eq_true rfl) ?_
  intro p e s m args below meth c0 ls C hR hl
  obtain ⟨hx, hb, hr, hts, hown, hlocks, hml, hK⟩ := C
  have hl : lv_has ls 3 [(0, .ref β), (1, .int a1), (2, .int a2)] := hl
  have hS : va_S gNo s.heap s.heap [] := va_S.rf
  have lk10 := hts (.fieldLink RX8 10 "MercuryLine" "now" "LMercuryLine$State;") (by decide +kernel)
  have inX8 : ∀ w ∈ u_ws RX8 TX8 8, w ∈ wsX8_price := by decide +kernel
  refine lv_iload_n hx hb dX8_price_0 rfl (lv_at hl 1 rfl) ?_
  refine lv_iconst (v := 1) hx hb dX8_price_1 (by decide) ?_
  refine lv_iconst (v := 3) hx hb dX8_price_2 (by decide) ?_
  refine gm_ci (gm_callS (As := [.int a1, .int 1, .int 3]) (rest := []) ⟨hx, hb, hml, hown, hts⟩ hK (c_X8_within l D cy a1 1 3) (va_cwS 3 hts gX8_price_X8_within rfl rfl rfl (by decide +kernel) ⟨Nat.le_of_ble_eq_true rfl, Nat.le_of_ble_eq_true rfl⟩) trivial rfl hl.1 rfl (Nat.le_of_ble_eq_true rfl) dX8_price_3 (Nat.zero_le _) (Nat.zero_le _)) hS (fun _ h => h.elim) (fun H locs _ _ hfr hS => ?_)
  have hR := gRep.keep hR hfr (fun _ _ h => h)
  refine lv_if_eq (tgt := 19) hx hb dX8_price_6 (by decide) (fun c_1 => ?_) (fun c_1 => ?_)
  · refine lv_bipush (v := (-2)) hx hb dX8_price_19 (by decide) ?_
    exact gm_iret hx hb hr hlocks hS (by (try simp only [f_X8_price, ↓if_pos c_1]); (try rfl)) trivial dX8_price_21
  · refine lv_iload_n hx hb dX8_price_9 rfl (lv_at hl 2 rfl) ?_
    refine lv_iconst (v := 1) hx hb dX8_price_10 (by decide) ?_
    refine lv_bipush (v := 9) hx hb dX8_price_11 (by decide) ?_
    refine gm_ci (gm_callS (As := [.int a2, .int 1, .int 9]) (rest := []) ⟨hx, hb, hml, hown, hts⟩ hK (c_X8_within l D cy a2 1 9) (va_cwS 3 hts gX8_price_X8_within rfl rfl rfl (by decide +kernel) ⟨Nat.le_of_ble_eq_true rfl, Nat.le_of_ble_eq_true rfl⟩) trivial rfl hl.1 rfl (Nat.le_of_ble_eq_true rfl) dX8_price_13 (Nat.zero_le _) (Nat.zero_le _)) hS (fun _ h => h.elim) (fun H locs _ _ hfr hS => ?_)
    have hR := gRep.keep hR hfr (fun _ _ h => h)
    refine lv_if_ne (tgt := 22) hx hb dX8_price_16 (by decide) (fun c_2 => ?_) (fun c_2 => ?_)
    · refine lv_aload_n hx hb dX8_price_22 rfl (lv_at hl 0 rfl) ?_
      refine va_get (D := D) (ci := 8) (v := .ref (β + off 0)) (C := RX8) (T := TX8) (N := 8) hx hb hts inX8 hown hK.1 (TR.mk0 hR) 0 rfl rfl 0 (by decide) lk10 (fun _ h9 => h9) rfl dX8_price_23 ?_
      refine lv_iload_n hx hb dX8_price_26 rfl (lv_at hl 1 rfl) ?_
      refine lv_iload_n hx hb dX8_price_27 rfl (lv_at hl 2 rfl) ?_
      refine gm_ci (gm_call (As := [.int a1, .int a2]) (rest := []) (ci := 3) (q := (RX3, TX3, 14)) ⟨hx, hb, hml, hown, hts⟩ hK (c_X3_priceOf l D cy (β + off 0) (vw 0 X) a1 a2) (cwV 2 hts gX8_price_X3_priceOf rfl rfl rfl (by decide +kernel) ⟨Nat.le_of_ble_eq_true rfl, Nat.le_of_ble_eq_true rfl⟩) (SR.mk0 (TR.st hR (by decide))) rfl (TR.st hR (by decide)) rfl hl.1 rfl (Nat.le_of_ble_eq_true rfl) dX8_price_28 (Nat.zero_le _) (Nat.zero_le _)) hS (fun _ h => h.elim) (fun H locs _ _ hfr hS => ?_)
      have hR := gRep.keep hR hfr (fun _ _ h => h)
      exact gm_iret hx hb hr hlocks hS (by (try simp only [f_X8_price, ↓if_neg c_1, ↓if_neg c_2]); (try rfl)) trivial dX8_price_31
    · refine lv_bipush (v := (-2)) hx hb dX8_price_19 (by decide) ?_
      exact gm_iret hx hb hr hlocks hS (by (try simp only [f_X8_price, ↓if_neg c_1, ↓if_pos c_2]); (try rfl)) trivial dX8_price_21
def f_X8_count (X : gM) (a1 : Int32) : Int32 :=
  if f_X8_within a1 2 10 = 0 then
    if a1 = 0 then
      vw 0 X 0 7
    else
      if a1 = 1 then
        vw 0 X 0 5
      else
        if a1 = 2 then
          (-2)
        else
          if a1 = 3 then
            (-2)
          else
            if a1 = 4 then
              (-2)
            else
              if a1 = 5 then
                (-2)
              else
                if a1 = 6 then
                  (-2)
                else
                  if a1 = 7 then
                    (-2)
                  else
                    if a1 = 8 then
                      (-2)
                    else
                      if a1 = 9 then
                        (-2)
                      else
                        if a1 = 10 then
                          (-2)
                        else
                          if a1 = 11 then
                            vw 0 X 0 10
                          else
                            if a1 = 12 then
                              vw 0 X 0 11
                            else
                              if a1 = 13 then
                                vw 0 X 0 12
                              else
                                if a1 = 14 then
                                  ((vw 0 X 0 10) - (vw 0 X 0 11)) - (vw 0 X 0 12)
                                else
                                  if a1 = 15 then
                                    vw 0 X 0 8
                                  else
                                    if a1 = 16 then
                                      vw 0 X 0 9
                                    else
                                      if a1 = 17 then
                                        vw 0 X 0 6
                                      else
                                        if a1 = 18 then
                                          vw 0 X 0 13
                                        else
                                          if a1 = 19 then
                                            X 0 6
                                          else
                                            if a1 = 20 then
                                              vx X 0 2
                                            else
                                              (-2)
  else
    f_X3_countIn (vw 0 X) (a1 - 2)
set_option maxHeartbeats 4000000 in
set_option maxRecDepth 100000 in
theorem c_X8_count (l : Launch) (D : va_G) (cy : Nat → ClassId) (β : Nat) (X : gM) (a1 : Int32)  : Met l yX8_count wsX8_count ({ frames := 1, cells := 0, slots := 0, locals := 23 }) (gP [.ref β, .int a1] D cy (TR D cy β X)) (gQi (f_X8_count X a1) (fun _ => True) gNo) 0 0 gNo := by
  refine gm_met (cc := cX8_count) (maxL := 2) (ret := (some .int)) [.ref β, .int a1] (by decide) rfl (Nat.le_of_ble_eq_true rfl) ?_
  intro p e s m args below meth c0 ls C hR hl
  obtain ⟨hx, hb, hr, hts, hown, hlocks, hml, hK⟩ := C
  have hl : lv_has ls 2 [(0, .ref β), (1, .int a1)] := hl
  have hS : va_S gNo s.heap s.heap [] := va_S.rf
  have lk10 := hts (.fieldLink RX8 10 "MercuryLine" "now" "LMercuryLine$State;") (by decide +kernel)
  have inX8 : ∀ w ∈ u_ws RX8 TX8 8, w ∈ wsX8_count := by decide +kernel
  have lk220 := hts (.fieldLink RX8 220 "MercuryLine$State" "tick" "I") (by decide +kernel)
  have inX3 : ∀ w ∈ u_ws RX3 TX3 14, w ∈ wsX8_count := by decide +kernel
  have lk346 := hts (.fieldLink RX8 346 "MercuryLine$State" "ticketCount" "I") (by decide +kernel)
  have lk203 := hts (.fieldLink RX8 203 "MercuryLine$State" "paid" "I") (by decide +kernel)
  have lk349 := hts (.fieldLink RX8 349 "MercuryLine$State" "earned" "I") (by decide +kernel)
  have lk352 := hts (.fieldLink RX8 352 "MercuryLine$State" "refunded" "I") (by decide +kernel)
  have lk90 := hts (.fieldLink RX8 90 "MercuryLine$State" "fare" "I") (by decide +kernel)
  have lk93 := hts (.fieldLink RX8 93 "MercuryLine$State" "patience" "I") (by decide +kernel)
  have lk158 := hts (.fieldLink RX8 158 "MercuryLine$State" "orderCount" "I") (by decide +kernel)
  have lk355 := hts (.fieldLink RX8 355 "MercuryLine$State" "arrivedValues" "I") (by decide +kernel)
  have lk210 := hts (.fieldLink RX8 210 "MercuryLine" "recorded" "I") (by decide +kernel)
  have lk29 := hts (.fieldLink RX8 29 "MercuryLine" "text" "LMercuryLine$TicketText;") (by decide +kernel)
  have lk191 := hts (.fieldLink RX8 191 "MercuryLine$TicketText" "length" "I") (by decide +kernel)
  have inX6 : ∀ w ∈ u_ws RX6 TX6 5, w ∈ wsX8_count := by decide +kernel
  refine lv_iload_n hx hb dX8_count_0 rfl (lv_at hl 1 rfl) ?_
  refine lv_iconst (v := 2) hx hb dX8_count_1 (by decide) ?_
  refine lv_bipush (v := 10) hx hb dX8_count_2 (by decide) ?_
  refine gm_ci (gm_callS (As := [.int a1, .int 2, .int 10]) (rest := []) ⟨hx, hb, hml, hown, hts⟩ hK (c_X8_within l D cy a1 2 10) (va_cwS 3 hts gX8_count_X8_within rfl rfl rfl (by decide +kernel) ⟨Nat.le_of_ble_eq_true rfl, Nat.le_of_ble_eq_true rfl⟩) trivial rfl hl.1 rfl (Nat.le_of_ble_eq_true rfl) dX8_count_4 (Nat.zero_le _) (Nat.zero_le _)) hS (fun _ h => h.elim) (fun H locs _ _ hfr hS => ?_)
  have hR := gRep.keep hR hfr (fun _ _ h => h)
  refine lv_if_eq (tgt := 21) hx hb dX8_count_7 (by decide) (fun c_1 => ?_) (fun c_1 => ?_)
  · refine lv_iload_n hx hb dX8_count_21 rfl (lv_at hl 1 rfl) ?_
    rcases Decidable.em (a1 = 0) with c_2 | c_2
    · refine lv_tableIn (tgt := 120) hx hb dX8_count_22 (by rw [c_2]; decide) (by rw [c_2]; decide) (by rw [c_2]; rfl) (by decide) ?_
      refine lv_aload_n hx hb dX8_count_120 rfl (lv_at hl 0 rfl) ?_
      refine va_get (D := D) (ci := 8) (v := .ref (β + off 0)) (C := RX8) (T := TX8) (N := 8) hx hb hts inX8 hown hK.1 (TR.mk0 hR) 0 rfl rfl 0 (by decide) lk10 (fun _ h9 => h9) rfl dX8_count_121 ?_
      refine va_get (D := D) (ci := 3) (v := .int (vw 0 X 0 7)) (C := RX3) (T := TX3) (N := 14) hx hb hts inX3 hown hK.1 (SR.mk0 (TR.st hR (by decide))) 0 rfl rfl 7 (by decide) lk220 (fun _ h9 => h9) rfl dX8_count_124 ?_
      exact gm_iret hx hb hr hlocks hS (by (try simp only [f_X8_count, ↓if_pos c_1, ↓if_pos c_2]); (try rfl)) trivial dX8_count_127
    · skip
      rcases Decidable.em (a1 = 1) with c_3 | c_3
      · refine lv_tableIn (tgt := 128) hx hb dX8_count_22 (by rw [c_3]; decide) (by rw [c_3]; decide) (by rw [c_3]; rfl) (by decide) ?_
        refine lv_aload_n hx hb dX8_count_128 rfl (lv_at hl 0 rfl) ?_
        refine va_get (D := D) (ci := 8) (v := .ref (β + off 0)) (C := RX8) (T := TX8) (N := 8) hx hb hts inX8 hown hK.1 (TR.mk0 hR) 0 rfl rfl 0 (by decide) lk10 (fun _ h9 => h9) rfl dX8_count_129 ?_
        refine va_get (D := D) (ci := 3) (v := .int (vw 0 X 0 5)) (C := RX3) (T := TX3) (N := 14) hx hb hts inX3 hown hK.1 (SR.mk0 (TR.st hR (by decide))) 0 rfl rfl 5 (by decide) lk346 (fun _ h9 => h9) rfl dX8_count_132 ?_
        exact gm_iret hx hb hr hlocks hS (by (try simp only [f_X8_count, ↓if_pos c_1, ↓if_neg c_2, ↓if_pos c_3]); (try rfl)) trivial dX8_count_135
      · skip
        rcases Decidable.em (a1 = 2) with c_4 | c_4
        · refine lv_tableIn (tgt := 229) hx hb dX8_count_22 (by rw [c_4]; decide) (by rw [c_4]; decide) (by rw [c_4]; rfl) (by decide) ?_
          refine lv_bipush (v := (-2)) hx hb dX8_count_229 (by decide) ?_
          exact gm_iret hx hb hr hlocks hS (by (try simp only [f_X8_count, ↓if_pos c_1, ↓if_neg c_2, ↓if_neg c_3, ↓if_pos c_4]); (try rfl)) trivial dX8_count_231
        · skip
          rcases Decidable.em (a1 = 3) with c_5 | c_5
          · refine lv_tableIn (tgt := 229) hx hb dX8_count_22 (by rw [c_5]; decide) (by rw [c_5]; decide) (by rw [c_5]; rfl) (by decide) ?_
            refine lv_bipush (v := (-2)) hx hb dX8_count_229 (by decide) ?_
            exact gm_iret hx hb hr hlocks hS (by (try simp only [f_X8_count, ↓if_pos c_1, ↓if_neg c_2, ↓if_neg c_3, ↓if_neg c_4, ↓if_pos c_5]); (try rfl)) trivial dX8_count_231
          · skip
            rcases Decidable.em (a1 = 4) with c_6 | c_6
            · refine lv_tableIn (tgt := 229) hx hb dX8_count_22 (by rw [c_6]; decide) (by rw [c_6]; decide) (by rw [c_6]; rfl) (by decide) ?_
              refine lv_bipush (v := (-2)) hx hb dX8_count_229 (by decide) ?_
              exact gm_iret hx hb hr hlocks hS (by (try simp only [f_X8_count, ↓if_pos c_1, ↓if_neg c_2, ↓if_neg c_3, ↓if_neg c_4, ↓if_neg c_5, ↓if_pos c_6]); (try rfl)) trivial dX8_count_231
            · skip
              rcases Decidable.em (a1 = 5) with c_7 | c_7
              · refine lv_tableIn (tgt := 229) hx hb dX8_count_22 (by rw [c_7]; decide) (by rw [c_7]; decide) (by rw [c_7]; rfl) (by decide) ?_
                refine lv_bipush (v := (-2)) hx hb dX8_count_229 (by decide) ?_
                exact gm_iret hx hb hr hlocks hS (by (try simp only [f_X8_count, ↓if_pos c_1, ↓if_neg c_2, ↓if_neg c_3, ↓if_neg c_4, ↓if_neg c_5, ↓if_neg c_6, ↓if_pos c_7]); (try rfl)) trivial dX8_count_231
              · skip
                rcases Decidable.em (a1 = 6) with c_8 | c_8
                · refine lv_tableIn (tgt := 229) hx hb dX8_count_22 (by rw [c_8]; decide) (by rw [c_8]; decide) (by rw [c_8]; rfl) (by decide) ?_
                  refine lv_bipush (v := (-2)) hx hb dX8_count_229 (by decide) ?_
                  exact gm_iret hx hb hr hlocks hS (by (try simp only [f_X8_count, ↓if_pos c_1, ↓if_neg c_2, ↓if_neg c_3, ↓if_neg c_4, ↓if_neg c_5, ↓if_neg c_6, ↓if_neg c_7, ↓if_pos c_8]); (try rfl)) trivial dX8_count_231
                · skip
                  rcases Decidable.em (a1 = 7) with c_9 | c_9
                  · refine lv_tableIn (tgt := 229) hx hb dX8_count_22 (by rw [c_9]; decide) (by rw [c_9]; decide) (by rw [c_9]; rfl) (by decide) ?_
                    refine lv_bipush (v := (-2)) hx hb dX8_count_229 (by decide) ?_
                    exact gm_iret hx hb hr hlocks hS (by (try simp only [f_X8_count, ↓if_pos c_1, ↓if_neg c_2, ↓if_neg c_3, ↓if_neg c_4, ↓if_neg c_5, ↓if_neg c_6, ↓if_neg c_7, ↓if_neg c_8, ↓if_pos c_9]); (try rfl)) trivial dX8_count_231
                  · skip
                    rcases Decidable.em (a1 = 8) with c_10 | c_10
                    · refine lv_tableIn (tgt := 229) hx hb dX8_count_22 (by rw [c_10]; decide) (by rw [c_10]; decide) (by rw [c_10]; rfl) (by decide) ?_
                      refine lv_bipush (v := (-2)) hx hb dX8_count_229 (by decide) ?_
                      exact gm_iret hx hb hr hlocks hS (by (try simp only [f_X8_count, ↓if_pos c_1, ↓if_neg c_2, ↓if_neg c_3, ↓if_neg c_4, ↓if_neg c_5, ↓if_neg c_6, ↓if_neg c_7, ↓if_neg c_8, ↓if_neg c_9, ↓if_pos c_10]); (try rfl)) trivial dX8_count_231
                    · skip
                      rcases Decidable.em (a1 = 9) with c_11 | c_11
                      · refine lv_tableIn (tgt := 229) hx hb dX8_count_22 (by rw [c_11]; decide) (by rw [c_11]; decide) (by rw [c_11]; rfl) (by decide) ?_
                        refine lv_bipush (v := (-2)) hx hb dX8_count_229 (by decide) ?_
                        exact gm_iret hx hb hr hlocks hS (by (try simp only [f_X8_count, ↓if_pos c_1, ↓if_neg c_2, ↓if_neg c_3, ↓if_neg c_4, ↓if_neg c_5, ↓if_neg c_6, ↓if_neg c_7, ↓if_neg c_8, ↓if_neg c_9, ↓if_neg c_10, ↓if_pos c_11]); (try rfl)) trivial dX8_count_231
                      · skip
                        rcases Decidable.em (a1 = 10) with c_12 | c_12
                        · refine lv_tableIn (tgt := 229) hx hb dX8_count_22 (by rw [c_12]; decide) (by rw [c_12]; decide) (by rw [c_12]; rfl) (by decide) ?_
                          refine lv_bipush (v := (-2)) hx hb dX8_count_229 (by decide) ?_
                          exact gm_iret hx hb hr hlocks hS (by (try simp only [f_X8_count, ↓if_pos c_1, ↓if_neg c_2, ↓if_neg c_3, ↓if_neg c_4, ↓if_neg c_5, ↓if_neg c_6, ↓if_neg c_7, ↓if_neg c_8, ↓if_neg c_9, ↓if_neg c_10, ↓if_neg c_11, ↓if_pos c_12]); (try rfl)) trivial dX8_count_231
                        · skip
                          rcases Decidable.em (a1 = 11) with c_13 | c_13
                          · refine lv_tableIn (tgt := 136) hx hb dX8_count_22 (by rw [c_13]; decide) (by rw [c_13]; decide) (by rw [c_13]; rfl) (by decide) ?_
                            refine lv_aload_n hx hb dX8_count_136 rfl (lv_at hl 0 rfl) ?_
                            refine va_get (D := D) (ci := 8) (v := .ref (β + off 0)) (C := RX8) (T := TX8) (N := 8) hx hb hts inX8 hown hK.1 (TR.mk0 hR) 0 rfl rfl 0 (by decide) lk10 (fun _ h9 => h9) rfl dX8_count_137 ?_
                            refine va_get (D := D) (ci := 3) (v := .int (vw 0 X 0 10)) (C := RX3) (T := TX3) (N := 14) hx hb hts inX3 hown hK.1 (SR.mk0 (TR.st hR (by decide))) 0 rfl rfl 10 (by decide) lk203 (fun _ h9 => h9) rfl dX8_count_140 ?_
                            exact gm_iret hx hb hr hlocks hS (by (try simp only [f_X8_count, ↓if_pos c_1, ↓if_neg c_2, ↓if_neg c_3, ↓if_neg c_4, ↓if_neg c_5, ↓if_neg c_6, ↓if_neg c_7, ↓if_neg c_8, ↓if_neg c_9, ↓if_neg c_10, ↓if_neg c_11, ↓if_neg c_12, ↓if_pos c_13]); (try rfl)) trivial dX8_count_143
                          · skip
                            rcases Decidable.em (a1 = 12) with c_14 | c_14
                            · refine lv_tableIn (tgt := 144) hx hb dX8_count_22 (by rw [c_14]; decide) (by rw [c_14]; decide) (by rw [c_14]; rfl) (by decide) ?_
                              refine lv_aload_n hx hb dX8_count_144 rfl (lv_at hl 0 rfl) ?_
                              refine va_get (D := D) (ci := 8) (v := .ref (β + off 0)) (C := RX8) (T := TX8) (N := 8) hx hb hts inX8 hown hK.1 (TR.mk0 hR) 0 rfl rfl 0 (by decide) lk10 (fun _ h9 => h9) rfl dX8_count_145 ?_
                              refine va_get (D := D) (ci := 3) (v := .int (vw 0 X 0 11)) (C := RX3) (T := TX3) (N := 14) hx hb hts inX3 hown hK.1 (SR.mk0 (TR.st hR (by decide))) 0 rfl rfl 11 (by decide) lk349 (fun _ h9 => h9) rfl dX8_count_148 ?_
                              exact gm_iret hx hb hr hlocks hS (by (try simp only [f_X8_count, ↓if_pos c_1, ↓if_neg c_2, ↓if_neg c_3, ↓if_neg c_4, ↓if_neg c_5, ↓if_neg c_6, ↓if_neg c_7, ↓if_neg c_8, ↓if_neg c_9, ↓if_neg c_10, ↓if_neg c_11, ↓if_neg c_12, ↓if_neg c_13, ↓if_pos c_14]); (try rfl)) trivial dX8_count_151
                            · skip
                              rcases Decidable.em (a1 = 13) with c_15 | c_15
                              · refine lv_tableIn (tgt := 152) hx hb dX8_count_22 (by rw [c_15]; decide) (by rw [c_15]; decide) (by rw [c_15]; rfl) (by decide) ?_
                                refine lv_aload_n hx hb dX8_count_152 rfl (lv_at hl 0 rfl) ?_
                                refine va_get (D := D) (ci := 8) (v := .ref (β + off 0)) (C := RX8) (T := TX8) (N := 8) hx hb hts inX8 hown hK.1 (TR.mk0 hR) 0 rfl rfl 0 (by decide) lk10 (fun _ h9 => h9) rfl dX8_count_153 ?_
                                refine va_get (D := D) (ci := 3) (v := .int (vw 0 X 0 12)) (C := RX3) (T := TX3) (N := 14) hx hb hts inX3 hown hK.1 (SR.mk0 (TR.st hR (by decide))) 0 rfl rfl 12 (by decide) lk352 (fun _ h9 => h9) rfl dX8_count_156 ?_
                                exact gm_iret hx hb hr hlocks hS (by (try simp only [f_X8_count, ↓if_pos c_1, ↓if_neg c_2, ↓if_neg c_3, ↓if_neg c_4, ↓if_neg c_5, ↓if_neg c_6, ↓if_neg c_7, ↓if_neg c_8, ↓if_neg c_9, ↓if_neg c_10, ↓if_neg c_11, ↓if_neg c_12, ↓if_neg c_13, ↓if_neg c_14, ↓if_pos c_15]); (try rfl)) trivial dX8_count_159
                              · skip
                                rcases Decidable.em (a1 = 14) with c_16 | c_16
                                · refine lv_tableIn (tgt := 160) hx hb dX8_count_22 (by rw [c_16]; decide) (by rw [c_16]; decide) (by rw [c_16]; rfl) (by decide) ?_
                                  refine lv_aload_n hx hb dX8_count_160 rfl (lv_at hl 0 rfl) ?_
                                  refine va_get (D := D) (ci := 8) (v := .ref (β + off 0)) (C := RX8) (T := TX8) (N := 8) hx hb hts inX8 hown hK.1 (TR.mk0 hR) 0 rfl rfl 0 (by decide) lk10 (fun _ h9 => h9) rfl dX8_count_161 ?_
                                  refine va_get (D := D) (ci := 3) (v := .int (vw 0 X 0 10)) (C := RX3) (T := TX3) (N := 14) hx hb hts inX3 hown hK.1 (SR.mk0 (TR.st hR (by decide))) 0 rfl rfl 10 (by decide) lk203 (fun _ h9 => h9) rfl dX8_count_164 ?_
                                  refine lv_aload_n hx hb dX8_count_167 rfl (lv_at hl 0 rfl) ?_
                                  refine va_get (D := D) (ci := 8) (v := .ref (β + off 0)) (C := RX8) (T := TX8) (N := 8) hx hb hts inX8 hown hK.1 (TR.mk0 hR) 0 rfl rfl 0 (by decide) lk10 (fun _ h9 => h9) rfl dX8_count_168 ?_
                                  refine va_get (D := D) (ci := 3) (v := .int (vw 0 X 0 11)) (C := RX3) (T := TX3) (N := 14) hx hb hts inX3 hown hK.1 (SR.mk0 (TR.st hR (by decide))) 0 rfl rfl 11 (by decide) lk349 (fun _ h9 => h9) rfl dX8_count_171 ?_
                                  refine lv_isub hx hb dX8_count_174 ?_
                                  refine lv_aload_n hx hb dX8_count_175 rfl (lv_at hl 0 rfl) ?_
                                  refine va_get (D := D) (ci := 8) (v := .ref (β + off 0)) (C := RX8) (T := TX8) (N := 8) hx hb hts inX8 hown hK.1 (TR.mk0 hR) 0 rfl rfl 0 (by decide) lk10 (fun _ h9 => h9) rfl dX8_count_176 ?_
                                  refine va_get (D := D) (ci := 3) (v := .int (vw 0 X 0 12)) (C := RX3) (T := TX3) (N := 14) hx hb hts inX3 hown hK.1 (SR.mk0 (TR.st hR (by decide))) 0 rfl rfl 12 (by decide) lk352 (fun _ h9 => h9) rfl dX8_count_179 ?_
                                  refine lv_isub hx hb dX8_count_182 ?_
                                  exact gm_iret hx hb hr hlocks hS (by (try simp only [f_X8_count, ↓if_pos c_1, ↓if_neg c_2, ↓if_neg c_3, ↓if_neg c_4, ↓if_neg c_5, ↓if_neg c_6, ↓if_neg c_7, ↓if_neg c_8, ↓if_neg c_9, ↓if_neg c_10, ↓if_neg c_11, ↓if_neg c_12, ↓if_neg c_13, ↓if_neg c_14, ↓if_neg c_15, ↓if_pos c_16]); (try rfl)) trivial dX8_count_183
                                · skip
                                  rcases Decidable.em (a1 = 15) with c_17 | c_17
                                  · refine lv_tableIn (tgt := 184) hx hb dX8_count_22 (by rw [c_17]; decide) (by rw [c_17]; decide) (by rw [c_17]; rfl) (by decide) ?_
                                    refine lv_aload_n hx hb dX8_count_184 rfl (lv_at hl 0 rfl) ?_
                                    refine va_get (D := D) (ci := 8) (v := .ref (β + off 0)) (C := RX8) (T := TX8) (N := 8) hx hb hts inX8 hown hK.1 (TR.mk0 hR) 0 rfl rfl 0 (by decide) lk10 (fun _ h9 => h9) rfl dX8_count_185 ?_
                                    refine va_get (D := D) (ci := 3) (v := .int (vw 0 X 0 8)) (C := RX3) (T := TX3) (N := 14) hx hb hts inX3 hown hK.1 (SR.mk0 (TR.st hR (by decide))) 0 rfl rfl 8 (by decide) lk90 (fun _ h9 => h9) rfl dX8_count_188 ?_
                                    exact gm_iret hx hb hr hlocks hS (by (try simp only [f_X8_count, ↓if_pos c_1, ↓if_neg c_2, ↓if_neg c_3, ↓if_neg c_4, ↓if_neg c_5, ↓if_neg c_6, ↓if_neg c_7, ↓if_neg c_8, ↓if_neg c_9, ↓if_neg c_10, ↓if_neg c_11, ↓if_neg c_12, ↓if_neg c_13, ↓if_neg c_14, ↓if_neg c_15, ↓if_neg c_16, ↓if_pos c_17]); (try rfl)) trivial dX8_count_191
                                  · skip
                                    rcases Decidable.em (a1 = 16) with c_18 | c_18
                                    · refine lv_tableIn (tgt := 192) hx hb dX8_count_22 (by rw [c_18]; decide) (by rw [c_18]; decide) (by rw [c_18]; rfl) (by decide) ?_
                                      refine lv_aload_n hx hb dX8_count_192 rfl (lv_at hl 0 rfl) ?_
                                      refine va_get (D := D) (ci := 8) (v := .ref (β + off 0)) (C := RX8) (T := TX8) (N := 8) hx hb hts inX8 hown hK.1 (TR.mk0 hR) 0 rfl rfl 0 (by decide) lk10 (fun _ h9 => h9) rfl dX8_count_193 ?_
                                      refine va_get (D := D) (ci := 3) (v := .int (vw 0 X 0 9)) (C := RX3) (T := TX3) (N := 14) hx hb hts inX3 hown hK.1 (SR.mk0 (TR.st hR (by decide))) 0 rfl rfl 9 (by decide) lk93 (fun _ h9 => h9) rfl dX8_count_196 ?_
                                      exact gm_iret hx hb hr hlocks hS (by (try simp only [f_X8_count, ↓if_pos c_1, ↓if_neg c_2, ↓if_neg c_3, ↓if_neg c_4, ↓if_neg c_5, ↓if_neg c_6, ↓if_neg c_7, ↓if_neg c_8, ↓if_neg c_9, ↓if_neg c_10, ↓if_neg c_11, ↓if_neg c_12, ↓if_neg c_13, ↓if_neg c_14, ↓if_neg c_15, ↓if_neg c_16, ↓if_neg c_17, ↓if_pos c_18]); (try rfl)) trivial dX8_count_199
                                    · skip
                                      rcases Decidable.em (a1 = 17) with c_19 | c_19
                                      · refine lv_tableIn (tgt := 200) hx hb dX8_count_22 (by rw [c_19]; decide) (by rw [c_19]; decide) (by rw [c_19]; rfl) (by decide) ?_
                                        refine lv_aload_n hx hb dX8_count_200 rfl (lv_at hl 0 rfl) ?_
                                        refine va_get (D := D) (ci := 8) (v := .ref (β + off 0)) (C := RX8) (T := TX8) (N := 8) hx hb hts inX8 hown hK.1 (TR.mk0 hR) 0 rfl rfl 0 (by decide) lk10 (fun _ h9 => h9) rfl dX8_count_201 ?_
                                        refine va_get (D := D) (ci := 3) (v := .int (vw 0 X 0 6)) (C := RX3) (T := TX3) (N := 14) hx hb hts inX3 hown hK.1 (SR.mk0 (TR.st hR (by decide))) 0 rfl rfl 6 (by decide) lk158 (fun _ h9 => h9) rfl dX8_count_204 ?_
                                        exact gm_iret hx hb hr hlocks hS (by (try simp only [f_X8_count, ↓if_pos c_1, ↓if_neg c_2, ↓if_neg c_3, ↓if_neg c_4, ↓if_neg c_5, ↓if_neg c_6, ↓if_neg c_7, ↓if_neg c_8, ↓if_neg c_9, ↓if_neg c_10, ↓if_neg c_11, ↓if_neg c_12, ↓if_neg c_13, ↓if_neg c_14, ↓if_neg c_15, ↓if_neg c_16, ↓if_neg c_17, ↓if_neg c_18, ↓if_pos c_19]); (try rfl)) trivial dX8_count_207
                                      · skip
                                        rcases Decidable.em (a1 = 18) with c_20 | c_20
                                        · refine lv_tableIn (tgt := 208) hx hb dX8_count_22 (by rw [c_20]; decide) (by rw [c_20]; decide) (by rw [c_20]; rfl) (by decide) ?_
                                          refine lv_aload_n hx hb dX8_count_208 rfl (lv_at hl 0 rfl) ?_
                                          refine va_get (D := D) (ci := 8) (v := .ref (β + off 0)) (C := RX8) (T := TX8) (N := 8) hx hb hts inX8 hown hK.1 (TR.mk0 hR) 0 rfl rfl 0 (by decide) lk10 (fun _ h9 => h9) rfl dX8_count_209 ?_
                                          refine va_get (D := D) (ci := 3) (v := .int (vw 0 X 0 13)) (C := RX3) (T := TX3) (N := 14) hx hb hts inX3 hown hK.1 (SR.mk0 (TR.st hR (by decide))) 0 rfl rfl 13 (by decide) lk355 (fun _ h9 => h9) rfl dX8_count_212 ?_
                                          exact gm_iret hx hb hr hlocks hS (by (try simp only [f_X8_count, ↓if_pos c_1, ↓if_neg c_2, ↓if_neg c_3, ↓if_neg c_4, ↓if_neg c_5, ↓if_neg c_6, ↓if_neg c_7, ↓if_neg c_8, ↓if_neg c_9, ↓if_neg c_10, ↓if_neg c_11, ↓if_neg c_12, ↓if_neg c_13, ↓if_neg c_14, ↓if_neg c_15, ↓if_neg c_16, ↓if_neg c_17, ↓if_neg c_18, ↓if_neg c_19, ↓if_pos c_20]); (try rfl)) trivial dX8_count_215
                                        · skip
                                          rcases Decidable.em (a1 = 19) with c_21 | c_21
                                          · refine lv_tableIn (tgt := 216) hx hb dX8_count_22 (by rw [c_21]; decide) (by rw [c_21]; decide) (by rw [c_21]; rfl) (by decide) ?_
                                            refine lv_aload_n hx hb dX8_count_216 rfl (lv_at hl 0 rfl) ?_
                                            refine va_get (D := D) (ci := 8) (v := .int (X 0 6)) (C := RX8) (T := TX8) (N := 8) hx hb hts inX8 hown hK.1 (TR.mk0 hR) 0 rfl rfl 6 (by decide) lk210 (fun _ h9 => h9) rfl dX8_count_217 ?_
                                            exact gm_iret hx hb hr hlocks hS (by (try simp only [f_X8_count, ↓if_pos c_1, ↓if_neg c_2, ↓if_neg c_3, ↓if_neg c_4, ↓if_neg c_5, ↓if_neg c_6, ↓if_neg c_7, ↓if_neg c_8, ↓if_neg c_9, ↓if_neg c_10, ↓if_neg c_11, ↓if_neg c_12, ↓if_neg c_13, ↓if_neg c_14, ↓if_neg c_15, ↓if_neg c_16, ↓if_neg c_17, ↓if_neg c_18, ↓if_neg c_19, ↓if_neg c_20, ↓if_pos c_21]); (try rfl)) trivial dX8_count_220
                                          · skip
                                            rcases Decidable.em (a1 = 20) with c_22 | c_22
                                            · refine lv_tableIn (tgt := 221) hx hb dX8_count_22 (by rw [c_22]; decide) (by rw [c_22]; decide) (by rw [c_22]; rfl) (by decide) ?_
                                              refine lv_aload_n hx hb dX8_count_221 rfl (lv_at hl 0 rfl) ?_
                                              refine va_get (D := D) (ci := 8) (v := .ref (β + 371)) (C := RX8) (T := TX8) (N := 8) hx hb hts inX8 hown hK.1 (TR.mk0 hR) 0 rfl rfl 4 (by decide) lk29 (fun _ h9 => h9) rfl dX8_count_222 ?_
                                              refine va_get (D := D) (ci := 6) (v := .int (vx X 0 2)) (C := RX6) (T := TX6) (N := 5) hx hb hts inX6 hown hK.1 (XR.mk0 (TR.tx hR)) 0 rfl rfl 2 (by decide) lk191 (fun _ h9 => h9) rfl dX8_count_225 ?_
                                              exact gm_iret hx hb hr hlocks hS (by (try simp only [f_X8_count, ↓if_pos c_1, ↓if_neg c_2, ↓if_neg c_3, ↓if_neg c_4, ↓if_neg c_5, ↓if_neg c_6, ↓if_neg c_7, ↓if_neg c_8, ↓if_neg c_9, ↓if_neg c_10, ↓if_neg c_11, ↓if_neg c_12, ↓if_neg c_13, ↓if_neg c_14, ↓if_neg c_15, ↓if_neg c_16, ↓if_neg c_17, ↓if_neg c_18, ↓if_neg c_19, ↓if_neg c_20, ↓if_neg c_21, ↓if_pos c_22]); (try rfl)) trivial dX8_count_228
                                            · skip
                                              refine lv_tableOut (tgt := 229) hx hb dX8_count_22 (g_sw0_20 c_2 c_3 c_4 c_5 c_6 c_7 c_8 c_9 c_10 c_11 c_12 c_13 c_14 c_15 c_16 c_17 c_18 c_19 c_20 c_21 c_22) (by decide) ?_
                                              refine lv_bipush (v := (-2)) hx hb dX8_count_229 (by decide) ?_
                                              exact gm_iret hx hb hr hlocks hS (by (try simp only [f_X8_count, ↓if_pos c_1, ↓if_neg c_2, ↓if_neg c_3, ↓if_neg c_4, ↓if_neg c_5, ↓if_neg c_6, ↓if_neg c_7, ↓if_neg c_8, ↓if_neg c_9, ↓if_neg c_10, ↓if_neg c_11, ↓if_neg c_12, ↓if_neg c_13, ↓if_neg c_14, ↓if_neg c_15, ↓if_neg c_16, ↓if_neg c_17, ↓if_neg c_18, ↓if_neg c_19, ↓if_neg c_20, ↓if_neg c_21, ↓if_neg c_22]); (try rfl)) trivial dX8_count_231
  · refine lv_aload_n hx hb dX8_count_10 rfl (lv_at hl 0 rfl) ?_
    refine va_get (D := D) (ci := 8) (v := .ref (β + off 0)) (C := RX8) (T := TX8) (N := 8) hx hb hts inX8 hown hK.1 (TR.mk0 hR) 0 rfl rfl 0 (by decide) lk10 (fun _ h9 => h9) rfl dX8_count_11 ?_
    refine lv_iload_n hx hb dX8_count_14 rfl (lv_at hl 1 rfl) ?_
    refine lv_iconst (v := 2) hx hb dX8_count_15 (by decide) ?_
    refine lv_isub hx hb dX8_count_16 ?_
    refine gm_ci (gm_call (As := [.int (a1 - 2)]) (rest := []) (ci := 3) (q := (RX3, TX3, 14)) ⟨hx, hb, hml, hown, hts⟩ hK (c_X3_countIn l D cy (β + off 0) (vw 0 X) (a1 - 2)) (cwV 1 hts gX8_count_X3_countIn rfl rfl rfl (by decide +kernel) ⟨Nat.le_of_ble_eq_true rfl, Nat.le_of_ble_eq_true rfl⟩) (SR.mk0 (TR.st hR (by decide))) rfl (TR.st hR (by decide)) rfl hl.1 rfl (Nat.le_of_ble_eq_true rfl) dX8_count_17 (Nat.zero_le _) (Nat.zero_le _)) hS (fun _ h => h.elim) (fun H locs _ _ hfr hS => ?_)
    have hR := gRep.keep hR hfr (fun _ _ h => h)
    exact gm_iret hx hb hr hlocks hS (by (try simp only [f_X8_count, ↓if_neg c_1]); (try rfl)) trivial dX8_count_20
def p_X8_type (X : gM) (a1 : Int32) : Int32 × gM :=
  let X1 := putX X ((p_X6_append (vx X) a1).2)
  ((p_X6_append (vx X) a1).1, X1)
set_option maxHeartbeats 4000000 in
set_option maxRecDepth 100000 in
theorem c_X8_type (l : Launch) (D : va_G) (cy : Nat → ClassId) (β : Nat) (X : gM) (a1 : Int32)  : Met l yX8_type wsX8_type ({ frames := 2, cells := 0, slots := 0, locals := 43 }) (gP [.ref β, .int a1] D cy (TR D cy β X)) (gQi (p_X8_type X a1).1 (TR D cy β (p_X8_type X a1).2) (TA β)) 0 0 (TA β) := by
  refine gm_met (cc := cX8_type) (maxL := 2) (ret := (some .int)) [.ref β, .int a1] (by decide) rfl (Nat.le_of_ble_eq_true rfl) ?_
  intro p e s m args below meth c0 ls C hR hl
  obtain ⟨hx, hb, hr, hts, hown, hlocks, hml, hK⟩ := C
  have hl : lv_has ls 2 [(0, .ref β), (1, .int a1)] := hl
  have hS : va_S (TA β) s.heap s.heap [] := va_S.rf
  have lk29 := hts (.fieldLink RX8 29 "MercuryLine" "text" "LMercuryLine$TicketText;") (by decide +kernel)
  have inX8 : ∀ w ∈ u_ws RX8 TX8 8, w ∈ wsX8_type := by decide +kernel
  refine lv_aload_n hx hb dX8_type_0 rfl (lv_at hl 0 rfl) ?_
  refine va_get (D := D) (ci := 8) (v := .ref (β + 371)) (C := RX8) (T := TX8) (N := 8) hx hb hts inX8 hown hK.1 (TR.mk0 hR) 0 rfl rfl 4 (by decide) lk29 (fun _ h9 => h9) rfl dX8_type_1 ?_
  refine lv_iload_n hx hb dX8_type_4 rfl (lv_at hl 1 rfl) ?_
  refine gm_ci (gm_call (As := [.int a1]) (rest := []) (ci := 6) (q := (RX6, TX6, 5)) ⟨hx, hb, hml, hown, hts⟩ hK (c_X6_append l D cy (β + 371) (vx X) a1) (cwV 1 hts gX8_type_X6_append rfl rfl rfl (by decide +kernel) ⟨Nat.le_of_ble_eq_true rfl, Nat.le_of_ble_eq_true rfl⟩) (XR.mk0 (TR.tx hR)) rfl (TR.tx hR) rfl hl.1 rfl (Nat.le_of_ble_eq_true rfl) dX8_type_5 (Nat.zero_le _) (Nat.zero_le _)) hS TA_X (fun H locs hRR _ hfr hS => ?_)
  have hR := TR.mrgX hR hRR hfr
  obtain ⟨X1, eX1⟩ : ∃ Y : gM, Y = putX X ((p_X6_append (vx X) a1).2) := ⟨_, rfl⟩
  rw [← eX1] at hR
  exact gm_iret hx hb hr hlocks hS (by (try simp only [p_X8_type, ← eX1]); (try rfl)) (by (try simp only [p_X8_type, ← eX1]); exact hR) dX8_type_8
def p_X8_clearText (X : gM) : Int32 × gM :=
  let X1 := updM X (371 + 0) 2 0
  (vx X 0 2, X1)
set_option maxHeartbeats 4000000 in
set_option maxRecDepth 100000 in
theorem c_X8_clearText (l : Launch) (D : va_G) (cy : Nat → ClassId) (β : Nat) (X : gM)  : Met l yX8_clearText wsX8_clearText ({ frames := 0, cells := 0, slots := 0, locals := 0 }) (gP [.ref β] D cy (TR D cy β X)) (gQi (p_X8_clearText X).1 (TR D cy β (p_X8_clearText X).2) (TA β)) 0 0 (TA β) := by
  refine gm_met (cc := cX8_clearText) (maxL := 2) (ret := (some .int)) [.ref β] (by decide) rfl (Nat.le_of_ble_eq_true rfl) ?_
  intro p e s m args below meth c0 ls C hR hl
  obtain ⟨hx, hb, hr, hts, hown, hlocks, hml, hK⟩ := C
  have hl : lv_has ls 2 [(0, .ref β)] := hl
  have hS : va_S (TA β) s.heap s.heap [] := va_S.rf
  have lk29 := hts (.fieldLink RX8 29 "MercuryLine" "text" "LMercuryLine$TicketText;") (by decide +kernel)
  have inX8 : ∀ w ∈ u_ws RX8 TX8 8, w ∈ wsX8_clearText := by decide +kernel
  have lk191 := hts (.fieldLink RX8 191 "MercuryLine$TicketText" "length" "I") (by decide +kernel)
  have inX6 : ∀ w ∈ u_ws RX6 TX6 5, w ∈ wsX8_clearText := by decide +kernel
  refine lv_aload_n hx hb dX8_clearText_0 rfl (lv_at hl 0 rfl) ?_
  refine va_get (D := D) (ci := 8) (v := .ref (β + 371)) (C := RX8) (T := TX8) (N := 8) hx hb hts inX8 hown hK.1 (TR.mk0 hR) 0 rfl rfl 4 (by decide) lk29 (fun _ h9 => h9) rfl dX8_clearText_1 ?_
  refine va_get (D := D) (ci := 6) (v := .int (vx X 0 2)) (C := RX6) (T := TX6) (N := 5) hx hb hts inX6 hown hK.1 (XR.mk0 (TR.tx hR)) 0 rfl rfl 2 (by decide) lk191 (fun _ h9 => h9) rfl dX8_clearText_4 ?_
  refine lv_istore_n (lv' := [(1, .int (vx X 0 2)), (0, .ref β)]) hx hb dX8_clearText_7 rfl hl (by decide) rfl (fun ls hl => ?_)
  refine lv_aload_n hx hb dX8_clearText_8 rfl (lv_at hl 1 rfl) ?_
  refine va_get (D := D) (ci := 8) (v := .ref (β + 371)) (C := RX8) (T := TX8) (N := 8) hx hb hts inX8 hown hK.1 (TR.mk0 hR) 0 rfl rfl 4 (by decide) lk29 (fun _ h9 => h9) rfl dX8_clearText_9 ?_
  refine lv_iconst (v := 0) hx hb dX8_clearText_12 (by decide) ?_
  refine gm_put (v := .int 0) (ty := .int) (ci := 6) (C := RX6) (T := TX6) (N := 5) hx hb hts inX6 tyX6 tyX6_ok nmX6 hown hK.1 hR injT hS (a := 371 + 0) (Nat.lt_of_lt_of_le (Nat.add_lt_add_left (show 0 < 8 from (by decide)) 371) (by decide)) rfl ((bT_X (show 0 < 8 from (by decide))).trans (bX_6 (by decide))) rfl 2 (by decide) lk191 (fun _ h9 => h9) rfl (by decide +kernel) rfl rfl (Nat.le_of_ble_eq_true rfl) (j := 2) (x := 0) (by rw [(bT_X (show 0 < 8 from (by decide))).trans (bX_6 (by decide))]; rfl) dX8_clearText_13 (fun H locs hR hS => ?_)
  obtain ⟨X1, eX1⟩ : ∃ Y : gM, Y = updM X (371 + 0) 2 0 := ⟨_, rfl⟩
  rw [← eX1] at hR
  refine lv_iload_n hx hb dX8_clearText_16 rfl (lv_at hl 0 rfl) ?_
  exact gm_iret hx hb hr hlocks hS (by (try simp only [p_X8_clearText, ← eX1]); (try rfl)) (by (try simp only [p_X8_clearText, ← eX1]); exact hR) dX8_clearText_17
