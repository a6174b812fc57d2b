theorem g_sw4_14 {x : Int32} (h4 : ¬ x = 4) (h5 : ¬ x = 5) (h6 : ¬ x = 6) (h7 : ¬ x = 7) (h8 : ¬ x = 8) (h9 : ¬ x = 9) (h10 : ¬ x = 10) (h11 : ¬ x = 11) (h12 : ¬ x = 12) (h13 : ¬ x = 13) (h14 : ¬ x = 14) : x.toInt < 4 ∨ 14 < x.toInt := by
  simp only [← Int32.toInt_inj, ti_4, ti_5, ti_6, ti_7, ti_8, ti_9, tx_10, ti_11, ti_12, ti_13, show (14 : Int32).toInt = 14 from by decide] at h4 h5 h6 h7 h8 h9 h10 h11 h12 h13 h14
  omega
def p_L_change (X : gM) (a2 : Int32) : Int32 × gM :=
  if f_X8_count X 1 = 0 then
    if 2 ≤ f_X8_count X 1 then
      if f_L_part a2 15 = 4 then
        let X15 := (p_X8_build X (f_L_part (a2 >>> (4 &&& 31)) 2) ((2 : Int32) + (f_L_part (a2 >>> (6 &&& 31)) 12))).2
        ((p_X8_build X (f_L_part (a2 >>> (4 &&& 31)) 2) ((2 : Int32) + (f_L_part (a2 >>> (6 &&& 31)) 12))).1, X15)
      else
        if f_L_part a2 15 = 5 then
          let X16 := (p_X8_setHeat X (f_L_part (a2 >>> (4 &&& 31)) 2) ((f_L_part (a2 >>> (6 &&& 31)) 23) - 11)).2
          ((p_X8_setHeat X (f_L_part (a2 >>> (4 &&& 31)) 2) ((f_L_part (a2 >>> (6 &&& 31)) 23) - 11)).1, X16)
        else
          if f_L_part a2 15 = 6 then
            if f_L_part (a2 >>> (7 &&& 31)) 2 = 0 then
              let X18 := (p_X8_setFare X (f_L_part (a2 >>> (4 &&& 31)) 40)).2
              ((p_X8_setFare X (f_L_part (a2 >>> (4 &&& 31)) 40)).1, X18)
            else
              let X17 := (p_X8_setPatience X (f_L_part (a2 >>> (4 &&& 31)) 9)).2
              ((p_X8_setPatience X (f_L_part (a2 >>> (4 &&& 31)) 9)).1, X17)
          else
            if f_L_part a2 15 = 7 then
              let X19 := (p_X8_drain X (f_L_part (a2 >>> (4 &&& 31)) 2)).2
              ((p_X8_drain X (f_L_part (a2 >>> (4 &&& 31)) 2)).1, X19)
            else
              if f_L_part a2 15 = 8 then
                let X20 := (p_X8_cancel X 0).2
                ((p_X8_cancel X 0).1, X20)
              else
                if f_L_part a2 15 = 9 then
                  let X21 := (p_X8_call X (f_L_placeOf X (a2 >>> (4 &&& 31))) (f_L_part (a2 >>> (7 &&& 31)) 30)).2
                  ((p_X8_call X (f_L_placeOf X (a2 >>> (4 &&& 31))) (f_L_part (a2 >>> (7 &&& 31)) 30)).1, X21)
                else
                  if f_L_part a2 15 = 10 then
                    let X22 := (p_X8_callBack X (f_L_placeOf X (a2 >>> (4 &&& 31)))).2
                    ((p_X8_callBack X (f_L_placeOf X (a2 >>> (4 &&& 31)))).1, X22)
                  else
                    if f_L_part a2 15 = 11 then
                      let X23 := (p_X8_order X 0 (f_L_part (a2 >>> (7 &&& 31)) 9)).2
                      ((p_X8_order X 0 (f_L_part (a2 >>> (7 &&& 31)) 9)).1, X23)
                    else
                      if f_L_part a2 15 = 12 then
                        let X24 := (p_X8_endOrder X (f_L_part (a2 >>> (7 &&& 31)) 4)).2
                        ((p_X8_endOrder X (f_L_part (a2 >>> (7 &&& 31)) 4)).1, X24)
                      else
                        if f_L_part a2 15 = 13 then
                          let X25 := (p_X8_tick X ((1 : Int32) + (f_L_part (a2 >>> (6 &&& 31)) 9))).2
                          ((p_X8_tick X ((1 : Int32) + (f_L_part (a2 >>> (6 &&& 31)) 9))).1, X25)
                        else
                          if f_L_part a2 15 = 14 then
                            let X26 := (p_X8_tick X ((1 : Int32) + (f_L_part (a2 >>> (6 &&& 31)) 9))).2
                            ((p_X8_tick X ((1 : Int32) + (f_L_part (a2 >>> (6 &&& 31)) 9))).1, X26)
                          else
                            let X27 := (p_X8_book X (f_L_part (a2 >>> (3 &&& 31)) 30) ((1 : Int32) + (f_L_part (a2 >>> (6 &&& 31)) 3)) (f_L_placeOf X (a2 >>> (4 &&& 31))) (f_L_placeOf X (a2 >>> (8 &&& 31))) (f_L_part (a2 >>> (9 &&& 31)) 11)).2
                            ((p_X8_book X (f_L_part (a2 >>> (3 &&& 31)) 30) ((1 : Int32) + (f_L_part (a2 >>> (6 &&& 31)) 3)) (f_L_placeOf X (a2 >>> (4 &&& 31))) (f_L_placeOf X (a2 >>> (8 &&& 31))) (f_L_part (a2 >>> (9 &&& 31)) 11)).1, X27)
    else
      let X28 := (p_X8_book X (f_L_part (a2 >>> (3 &&& 31)) 30) ((1 : Int32) + (f_L_part (a2 >>> (6 &&& 31)) 3)) (f_L_placeOf X (a2 >>> (4 &&& 31))) (f_L_placeOf X (a2 >>> (8 &&& 31))) (f_L_part (a2 >>> (9 &&& 31)) 11)).2
      ((p_X8_book X (f_L_part (a2 >>> (3 &&& 31)) 30) ((1 : Int32) + (f_L_part (a2 >>> (6 &&& 31)) 3)) (f_L_placeOf X (a2 >>> (4 &&& 31))) (f_L_placeOf X (a2 >>> (8 &&& 31))) (f_L_part (a2 >>> (9 &&& 31)) 11)).1, X28)
  else
    if 2 ≤ f_X8_count X 1 then
      if f_L_part a2 15 = 4 then
        let X1 := (p_X8_build X (f_L_part (a2 >>> (4 &&& 31)) 2) ((2 : Int32) + (f_L_part (a2 >>> (6 &&& 31)) 12))).2
        ((p_X8_build X (f_L_part (a2 >>> (4 &&& 31)) 2) ((2 : Int32) + (f_L_part (a2 >>> (6 &&& 31)) 12))).1, X1)
      else
        if f_L_part a2 15 = 5 then
          let X2 := (p_X8_setHeat X (f_L_part (a2 >>> (4 &&& 31)) 2) ((f_L_part (a2 >>> (6 &&& 31)) 23) - 11)).2
          ((p_X8_setHeat X (f_L_part (a2 >>> (4 &&& 31)) 2) ((f_L_part (a2 >>> (6 &&& 31)) 23) - 11)).1, X2)
        else
          if f_L_part a2 15 = 6 then
            if f_L_part (a2 >>> (7 &&& 31)) 2 = 0 then
              let X4 := (p_X8_setFare X (f_L_part (a2 >>> (4 &&& 31)) 40)).2
              ((p_X8_setFare X (f_L_part (a2 >>> (4 &&& 31)) 40)).1, X4)
            else
              let X3 := (p_X8_setPatience X (f_L_part (a2 >>> (4 &&& 31)) 9)).2
              ((p_X8_setPatience X (f_L_part (a2 >>> (4 &&& 31)) 9)).1, X3)
          else
            if f_L_part a2 15 = 7 then
              let X5 := (p_X8_drain X (f_L_part (a2 >>> (4 &&& 31)) 2)).2
              ((p_X8_drain X (f_L_part (a2 >>> (4 &&& 31)) 2)).1, X5)
            else
              if f_L_part a2 15 = 8 then
                let X6 := (p_X8_cancel X (f_L_part (a2 >>> (5 &&& 31)) (f_X8_count X 1))).2
                ((p_X8_cancel X (f_L_part (a2 >>> (5 &&& 31)) (f_X8_count X 1))).1, X6)
              else
                if f_L_part a2 15 = 9 then
                  let X7 := (p_X8_call X (f_L_placeOf X (a2 >>> (4 &&& 31))) (f_L_part (a2 >>> (7 &&& 31)) 30)).2
                  ((p_X8_call X (f_L_placeOf X (a2 >>> (4 &&& 31))) (f_L_part (a2 >>> (7 &&& 31)) 30)).1, X7)
                else
                  if f_L_part a2 15 = 10 then
                    let X8 := (p_X8_callBack X (f_L_placeOf X (a2 >>> (4 &&& 31)))).2
                    ((p_X8_callBack X (f_L_placeOf X (a2 >>> (4 &&& 31)))).1, X8)
                  else
                    if f_L_part a2 15 = 11 then
                      let X9 := (p_X8_order X (f_L_part (a2 >>> (5 &&& 31)) (f_X8_count X 1)) (f_L_part (a2 >>> (7 &&& 31)) 9)).2
                      ((p_X8_order X (f_L_part (a2 >>> (5 &&& 31)) (f_X8_count X 1)) (f_L_part (a2 >>> (7 &&& 31)) 9)).1, X9)
                    else
                      if f_L_part a2 15 = 12 then
                        let X10 := (p_X8_endOrder X (f_L_part (a2 >>> (7 &&& 31)) 4)).2
                        ((p_X8_endOrder X (f_L_part (a2 >>> (7 &&& 31)) 4)).1, X10)
                      else
                        if f_L_part a2 15 = 13 then
                          let X11 := (p_X8_tick X ((1 : Int32) + (f_L_part (a2 >>> (6 &&& 31)) 9))).2
                          ((p_X8_tick X ((1 : Int32) + (f_L_part (a2 >>> (6 &&& 31)) 9))).1, X11)
                        else
                          if f_L_part a2 15 = 14 then
                            let X12 := (p_X8_tick X ((1 : Int32) + (f_L_part (a2 >>> (6 &&& 31)) 9))).2
                            ((p_X8_tick X ((1 : Int32) + (f_L_part (a2 >>> (6 &&& 31)) 9))).1, X12)
                          else
                            let X13 := (p_X8_book X (f_L_part (a2 >>> (3 &&& 31)) 30) ((1 : Int32) + (f_L_part (a2 >>> (6 &&& 31)) 3)) (f_L_placeOf X (a2 >>> (4 &&& 31))) (f_L_placeOf X (a2 >>> (8 &&& 31))) (f_L_part (a2 >>> (9 &&& 31)) 11)).2
                            ((p_X8_book X (f_L_part (a2 >>> (3 &&& 31)) 30) ((1 : Int32) + (f_L_part (a2 >>> (6 &&& 31)) 3)) (f_L_placeOf X (a2 >>> (4 &&& 31))) (f_L_placeOf X (a2 >>> (8 &&& 31))) (f_L_part (a2 >>> (9 &&& 31)) 11)).1, X13)
    else
      let X14 := (p_X8_book X (f_L_part (a2 >>> (3 &&& 31)) 30) ((1 : Int32) + (f_L_part (a2 >>> (6 &&& 31)) 3)) (f_L_placeOf X (a2 >>> (4 &&& 31))) (f_L_placeOf X (a2 >>> (8 &&& 31))) (f_L_part (a2 >>> (9 &&& 31)) 11)).2
      ((p_X8_book X (f_L_part (a2 >>> (3 &&& 31)) 30) ((1 : Int32) + (f_L_part (a2 >>> (6 &&& 31)) 3)) (f_L_placeOf X (a2 >>> (4 &&& 31))) (f_L_placeOf X (a2 >>> (8 &&& 31))) (f_L_part (a2 >>> (9 &&& 31)) 11)).1, X14)
set_option maxHeartbeats 4000000 in
set_option maxRecDepth 100000 in
theorem c_L_change (l : Launch) (D : va_G) (cy : Nat → ClassId) (β : Nat) (X : gM) (a2 : Int32) (hI : Iv X) : Met l yL_change wsK_change ({ frames := 7, cells := 0, slots := 0, locals := 162 }) (gP [.ref β, .int a2] D cy (TR D cy β X)) (gQi (p_L_change X a2).1 (TR D cy β (p_L_change X a2).2) (TA β)) 0 0 (TA β) := by
  refine gm_met (cc := cL_change) (maxL := 5) (ret := (some .int)) [.ref β, .int a2] (by decide) rfl (Nat.le_of_ble_eq_true rfl) ?_
  intro p e s m args below meth c0 ls C hR hl
  obtain ⟨hx, hb, hr, hts, hown, hlocks, hml, hK⟩ := C
  have hl : lv_has ls 5 [(0, .ref β), (1, .int a2)] := hl
  have hS : va_S (TA β) s.heap s.heap [] := va_S.rf
  refine lv_aload_n hx hb dL_change_0 rfl (lv_at hl 0 rfl) ?_
  refine lv_iconst (v := 1) hx hb dL_change_1 (by decide) ?_
  refine gm_ci (gm_call (As := [.int 1]) (rest := []) (ci := 8) (q := (RX8, TX8, 8)) ⟨hx, hb, hml, hown, hts⟩ hK (c_X8_count l D cy β X 1) (cwV 1 hts (kIn kv_count) rfl rfl rfl (by decide +kernel) ⟨Nat.le_of_ble_eq_true rfl, Nat.le_of_ble_eq_true rfl⟩) (TR.mk0 hR) rfl hR rfl hl.1 rfl (Nat.le_of_ble_eq_true rfl) dL_change_2 (Nat.zero_le _) (Nat.zero_le _)) hS (fun _ h => h.elim) (fun H locs _ _ hfr hS => ?_)
  have hR := gRep.keep hR hfr (fun _ _ h => h)
  refine lv_istore_n (lv' := [(2, .int (f_X8_count X 1)), (0, .ref β), (1, .int a2)]) hx hb dL_change_5 rfl hl (by decide) rfl (fun ls hl => ?_)
  refine lv_aload_n hx hb dL_change_6 rfl (lv_at hl 1 rfl) ?_
  refine lv_iload_n hx hb dL_change_7 rfl (lv_at hl 2 rfl) ?_
  refine lv_iconst (v := 4) hx hb dL_change_8 (by decide) ?_
  refine lv_ishr hx hb dL_change_9 ?_
  refine gm_ci (gm_callS (As := [.ref β, .int (a2 >>> (4 &&& 31))]) (rest := []) ⟨hx, hb, hml, hown, hts⟩ hK (c_L_placeOf l D cy β X (a2 >>> (4 &&& 31))) (va_cwS 2 hts (kIn ks_placeOf) rfl rfl rfl (by decide +kernel) ⟨Nat.le_of_ble_eq_true rfl, Nat.le_of_ble_eq_true rfl⟩) hR rfl hl.1 rfl (Nat.le_of_ble_eq_true rfl) dL_change_10 (Nat.zero_le _) (Nat.zero_le _)) hS (fun _ h => h.elim) (fun H locs _ _ hfr hS => ?_)
  have hR := gRep.keep hR hfr (fun _ _ h => h)
  refine lv_istore_n (lv' := [(3, .int (f_L_placeOf X (a2 >>> (4 &&& 31)))), (2, .int (f_X8_count X 1)), (0, .ref β), (1, .int a2)]) hx hb dL_change_13 rfl hl (by decide) rfl (fun ls hl => ?_)
  refine lv_iload_n hx hb dL_change_14 rfl (lv_at hl 1 rfl) ?_
  refine lv_if_ne (tgt := 22) hx hb dL_change_15 (by decide) (fun c_1 => ?_) (fun c_1 => ?_)
  · refine lv_iload_n hx hb dL_change_22 rfl (lv_at hl 3 rfl) ?_
    refine lv_iconst (v := 5) hx hb dL_change_23 (by decide) ?_
    refine lv_ishr hx hb dL_change_24 ?_
    refine lv_iload_n hx hb dL_change_25 rfl (lv_at hl 1 rfl) ?_
    refine gm_ci (gm_callS (As := [.int (a2 >>> (5 &&& 31)), .int (f_X8_count X 1)]) (rest := []) ⟨hx, hb, hml, hown, hts⟩ hK (c_L_part l D cy (a2 >>> (5 &&& 31)) (f_X8_count X 1) c_1) (va_cwS 2 hts (kIn ks_part) rfl rfl rfl (by decide +kernel) ⟨Nat.le_of_ble_eq_true rfl, Nat.le_of_ble_eq_true rfl⟩) trivial rfl hl.1 rfl (Nat.le_of_ble_eq_true rfl) dL_change_26 (Nat.zero_le _) (Nat.zero_le _)) hS (fun _ h => h.elim) (fun H locs _ _ hfr hS => ?_)
    have hR := gRep.keep hR hfr (fun _ _ h => h)
    refine lv_istore (lv' := [(4, .int (f_L_part (a2 >>> (5 &&& 31)) (f_X8_count X 1))), (3, .int (f_L_placeOf X (a2 >>> (4 &&& 31)))), (2, .int (f_X8_count X 1)), (0, .ref β), (1, .int a2)]) hx hb dL_change_29 hl (by decide) rfl (fun ls hl => ?_)
    refine lv_iload_n hx hb dL_change_31 rfl (lv_at hl 2 rfl) ?_
    refine lv_iconst (v := 2) hx hb dL_change_32 (by decide) ?_
    refine lv_icmp_ge (tgt := 40) hx hb dL_change_33 (by decide) (fun c_2 => ?_) (fun c_2 => ?_)
    · refine lv_iload_n hx hb dL_change_40 rfl (lv_at hl 4 rfl) ?_
      refine lv_bipush (v := 15) hx hb dL_change_41 (by decide) ?_
      refine gm_ci (gm_callS (As := [.int a2, .int 15]) (rest := []) ⟨hx, hb, hml, hown, hts⟩ hK (c_L_part l D cy a2 15 (by decide)) (va_cwS 2 hts (kIn ks_part) rfl rfl rfl (by decide +kernel) ⟨Nat.le_of_ble_eq_true rfl, Nat.le_of_ble_eq_true rfl⟩) trivial rfl hl.1 rfl (Nat.le_of_ble_eq_true rfl) dL_change_43 (Nat.zero_le _) (Nat.zero_le _)) hS (fun _ h => h.elim) (fun H locs _ _ hfr hS => ?_)
      have hR := gRep.keep hR hfr (fun _ _ h => h)
      rcases Decidable.em (f_L_part a2 15 = 4) with c_3 | c_3
      · refine lv_tableIn (tgt := 104) hx hb dL_change_46 (by rw [c_3]; decide) (by rw [c_3]; decide) (by rw [c_3]; rfl) (by decide) ?_
        refine lv_aload_n hx hb dL_change_104 rfl (lv_at hl 3 rfl) ?_
        refine lv_iload_n hx hb dL_change_105 rfl (lv_at hl 4 rfl) ?_
        refine lv_iconst (v := 4) hx hb dL_change_106 (by decide) ?_
        refine lv_ishr hx hb dL_change_107 ?_
        refine lv_iconst (v := 2) hx hb dL_change_108 (by decide) ?_
        refine gm_ci (gm_callS (As := [.int (a2 >>> (4 &&& 31)), .int 2]) (rest := [.ref β]) ⟨hx, hb, hml, hown, hts⟩ hK (c_L_part l D cy (a2 >>> (4 &&& 31)) 2 (by decide)) (va_cwS 2 hts (kIn ks_part) rfl rfl rfl (by decide +kernel) ⟨Nat.le_of_ble_eq_true rfl, Nat.le_of_ble_eq_true rfl⟩) trivial rfl hl.1 rfl (Nat.le_of_ble_eq_true rfl) dL_change_109 (Nat.zero_le _) (Nat.zero_le _)) hS (fun _ h => h.elim) (fun H locs _ _ hfr hS => ?_)
        have hR := gRep.keep hR hfr (fun _ _ h => h)
        refine lv_iconst (v := 2) hx hb dL_change_112 (by decide) ?_
        refine lv_iload_n hx hb dL_change_113 rfl (lv_at hl 4 rfl) ?_
        refine lv_bipush (v := 6) hx hb dL_change_114 (by decide) ?_
        refine lv_ishr hx hb dL_change_116 ?_
        refine lv_bipush (v := 12) hx hb dL_change_117 (by decide) ?_
        refine gm_ci (gm_callS (As := [.int (a2 >>> (6 &&& 31)), .int 12]) (rest := [.int 2, .int (f_L_part (a2 >>> (4 &&& 31)) 2), .ref β]) ⟨hx, hb, hml, hown, hts⟩ hK (c_L_part l D cy (a2 >>> (6 &&& 31)) 12 (by decide)) (va_cwS 2 hts (kIn ks_part) rfl rfl rfl (by decide +kernel) ⟨Nat.le_of_ble_eq_true rfl, Nat.le_of_ble_eq_true rfl⟩) trivial rfl hl.1 rfl (Nat.le_of_ble_eq_true rfl) dL_change_119 (Nat.zero_le _) (Nat.zero_le _)) hS (fun _ h => h.elim) (fun H locs _ _ hfr hS => ?_)
        have hR := gRep.keep hR hfr (fun _ _ h => h)
        refine lv_iadd hx hb dL_change_122 ?_
        refine gm_ci (gm_call (As := [.int (f_L_part (a2 >>> (4 &&& 31)) 2), .int ((2 : Int32) + (f_L_part (a2 >>> (6 &&& 31)) 12))]) (rest := []) (ci := 8) (q := (RX8, TX8, 8)) ⟨hx, hb, hml, hown, hts⟩ hK (c_X8_build l D cy β X (f_L_part (a2 >>> (4 &&& 31)) 2) ((2 : Int32) + (f_L_part (a2 >>> (6 &&& 31)) 12)) (Iv.ok hI)) (cwV 2 hts (kIn kv_build) rfl rfl rfl (by decide +kernel) ⟨Nat.le_of_ble_eq_true rfl, Nat.le_of_ble_eq_true rfl⟩) (TR.mk0 hR) rfl hR rfl hl.1 rfl (Nat.le_of_ble_eq_true rfl) dL_change_123 (Nat.zero_le _) (Nat.zero_le _)) hS (fun _ h => h) (fun H locs hR _ _ hS => ?_)
        obtain ⟨X1, eX1⟩ : ∃ Y : gM, Y = (p_X8_build X (f_L_part (a2 >>> (4 &&& 31)) 2) ((2 : Int32) + (f_L_part (a2 >>> (6 &&& 31)) 12))).2 := ⟨_, rfl⟩
        rw [← eX1] at hR
        have iX1 : Iv X1 := by rw [eX1]; exact I_build hI (f_L_part (a2 >>> (4 &&& 31)) 2) ((2 : Int32) + (f_L_part (a2 >>> (6 &&& 31)) 12))
        exact gm_iret hx hb hr hlocks hS (by (try simp only [p_L_change, ↓if_neg c_1, ↓if_pos c_2, ↓if_pos c_3, ← eX1]); (try rfl)) (by (try simp only [p_L_change, ↓if_neg c_1, ↓if_pos c_2, ↓if_pos c_3, ← eX1]); exact hR) dL_change_126
      · skip
        rcases Decidable.em (f_L_part a2 15 = 5) with c_4 | c_4
        · refine lv_tableIn (tgt := 127) hx hb dL_change_46 (by rw [c_4]; decide) (by rw [c_4]; decide) (by rw [c_4]; rfl) (by decide) ?_
          refine lv_aload_n hx hb dL_change_127 rfl (lv_at hl 3 rfl) ?_
          refine lv_iload_n hx hb dL_change_128 rfl (lv_at hl 4 rfl) ?_
          refine lv_iconst (v := 4) hx hb dL_change_129 (by decide) ?_
          refine lv_ishr hx hb dL_change_130 ?_
          refine lv_iconst (v := 2) hx hb dL_change_131 (by decide) ?_
          refine gm_ci (gm_callS (As := [.int (a2 >>> (4 &&& 31)), .int 2]) (rest := [.ref β]) ⟨hx, hb, hml, hown, hts⟩ hK (c_L_part l D cy (a2 >>> (4 &&& 31)) 2 (by decide)) (va_cwS 2 hts (kIn ks_part) rfl rfl rfl (by decide +kernel) ⟨Nat.le_of_ble_eq_true rfl, Nat.le_of_ble_eq_true rfl⟩) trivial rfl hl.1 rfl (Nat.le_of_ble_eq_true rfl) dL_change_132 (Nat.zero_le _) (Nat.zero_le _)) hS (fun _ h => h.elim) (fun H locs _ _ hfr hS => ?_)
          have hR := gRep.keep hR hfr (fun _ _ h => h)
          refine lv_iload_n hx hb dL_change_135 rfl (lv_at hl 4 rfl) ?_
          refine lv_bipush (v := 6) hx hb dL_change_136 (by decide) ?_
          refine lv_ishr hx hb dL_change_138 ?_
          refine lv_bipush (v := 23) hx hb dL_change_139 (by decide) ?_
          refine gm_ci (gm_callS (As := [.int (a2 >>> (6 &&& 31)), .int 23]) (rest := [.int (f_L_part (a2 >>> (4 &&& 31)) 2), .ref β]) ⟨hx, hb, hml, hown, hts⟩ hK (c_L_part l D cy (a2 >>> (6 &&& 31)) 23 (by decide)) (va_cwS 2 hts (kIn ks_part) rfl rfl rfl (by decide +kernel) ⟨Nat.le_of_ble_eq_true rfl, Nat.le_of_ble_eq_true rfl⟩) trivial rfl hl.1 rfl (Nat.le_of_ble_eq_true rfl) dL_change_141 (Nat.zero_le _) (Nat.zero_le _)) hS (fun _ h => h.elim) (fun H locs _ _ hfr hS => ?_)
          have hR := gRep.keep hR hfr (fun _ _ h => h)
          refine lv_bipush (v := 11) hx hb dL_change_144 (by decide) ?_
          refine lv_isub hx hb dL_change_146 ?_
          refine gm_ci (gm_call (As := [.int (f_L_part (a2 >>> (4 &&& 31)) 2), .int ((f_L_part (a2 >>> (6 &&& 31)) 23) - 11)]) (rest := []) (ci := 8) (q := (RX8, TX8, 8)) ⟨hx, hb, hml, hown, hts⟩ hK (c_X8_setHeat l D cy β X (f_L_part (a2 >>> (4 &&& 31)) 2) ((f_L_part (a2 >>> (6 &&& 31)) 23) - 11) (Iv.ok hI)) (cwV 2 hts (kIn kv_setHeat) rfl rfl rfl (by decide +kernel) ⟨Nat.le_of_ble_eq_true rfl, Nat.le_of_ble_eq_true rfl⟩) (TR.mk0 hR) rfl hR rfl hl.1 rfl (Nat.le_of_ble_eq_true rfl) dL_change_147 (Nat.zero_le _) (Nat.zero_le _)) hS (fun _ h => h) (fun H locs hR _ _ hS => ?_)
          obtain ⟨X2, eX2⟩ : ∃ Y : gM, Y = (p_X8_setHeat X (f_L_part (a2 >>> (4 &&& 31)) 2) ((f_L_part (a2 >>> (6 &&& 31)) 23) - 11)).2 := ⟨_, rfl⟩
          rw [← eX2] at hR
          have iX2 : Iv X2 := by rw [eX2]; exact I_setHeat hI (f_L_part (a2 >>> (4 &&& 31)) 2) ((f_L_part (a2 >>> (6 &&& 31)) 23) - 11)
          exact gm_iret hx hb hr hlocks hS (by (try simp only [p_L_change, ↓if_neg c_1, ↓if_pos c_2, ↓if_neg c_3, ↓if_pos c_4, ← eX2]); (try rfl)) (by (try simp only [p_L_change, ↓if_neg c_1, ↓if_pos c_2, ↓if_neg c_3, ↓if_pos c_4, ← eX2]); exact hR) dL_change_150
        · skip
          rcases Decidable.em (f_L_part a2 15 = 6) with c_5 | c_5
          · refine lv_tableIn (tgt := 151) hx hb dL_change_46 (by rw [c_5]; decide) (by rw [c_5]; decide) (by rw [c_5]; rfl) (by decide) ?_
            refine lv_iload_n hx hb dL_change_151 rfl (lv_at hl 4 rfl) ?_
            refine lv_bipush (v := 7) hx hb dL_change_152 (by decide) ?_
            refine lv_ishr hx hb dL_change_154 ?_
            refine lv_iconst (v := 2) hx hb dL_change_155 (by decide) ?_
            refine gm_ci (gm_callS (As := [.int (a2 >>> (7 &&& 31)), .int 2]) (rest := []) ⟨hx, hb, hml, hown, hts⟩ hK (c_L_part l D cy (a2 >>> (7 &&& 31)) 2 (by decide)) (va_cwS 2 hts (kIn ks_part) rfl rfl rfl (by decide +kernel) ⟨Nat.le_of_ble_eq_true rfl, Nat.le_of_ble_eq_true rfl⟩) trivial rfl hl.1 rfl (Nat.le_of_ble_eq_true rfl) dL_change_156 (Nat.zero_le _) (Nat.zero_le _)) hS (fun _ h => h.elim) (fun H locs _ _ hfr hS => ?_)
            have hR := gRep.keep hR hfr (fun _ _ h => h)
            refine lv_if_ne (tgt := 177) hx hb dL_change_159 (by decide) (fun c_6 => ?_) (fun c_6 => ?_)
            · refine lv_aload_n hx hb dL_change_177 rfl (lv_at hl 3 rfl) ?_
              refine lv_iload_n hx hb dL_change_178 rfl (lv_at hl 4 rfl) ?_
              refine lv_iconst (v := 4) hx hb dL_change_179 (by decide) ?_
              refine lv_ishr hx hb dL_change_180 ?_
              refine lv_bipush (v := 9) hx hb dL_change_181 (by decide) ?_
              refine gm_ci (gm_callS (As := [.int (a2 >>> (4 &&& 31)), .int 9]) (rest := [.ref β]) ⟨hx, hb, hml, hown, hts⟩ hK (c_L_part l D cy (a2 >>> (4 &&& 31)) 9 (by decide)) (va_cwS 2 hts (kIn ks_part) rfl rfl rfl (by decide +kernel) ⟨Nat.le_of_ble_eq_true rfl, Nat.le_of_ble_eq_true rfl⟩) trivial rfl hl.1 rfl (Nat.le_of_ble_eq_true rfl) dL_change_183 (Nat.zero_le _) (Nat.zero_le _)) hS (fun _ h => h.elim) (fun H locs _ _ hfr hS => ?_)
              have hR := gRep.keep hR hfr (fun _ _ h => h)
              refine gm_ci (gm_call (As := [.int (f_L_part (a2 >>> (4 &&& 31)) 9)]) (rest := []) (ci := 8) (q := (RX8, TX8, 8)) ⟨hx, hb, hml, hown, hts⟩ hK (c_X8_setPatience l D cy β X (f_L_part (a2 >>> (4 &&& 31)) 9) (Iv.ok hI)) (cwV 1 hts (kIn kv_setPatience) rfl rfl rfl (by decide +kernel) ⟨Nat.le_of_ble_eq_true rfl, Nat.le_of_ble_eq_true rfl⟩) (TR.mk0 hR) rfl hR rfl hl.1 rfl (Nat.le_of_ble_eq_true rfl) dL_change_186 (Nat.zero_le _) (Nat.zero_le _)) hS (fun _ h => h) (fun H locs hR _ _ hS => ?_)
              obtain ⟨X3, eX3⟩ : ∃ Y : gM, Y = (p_X8_setPatience X (f_L_part (a2 >>> (4 &&& 31)) 9)).2 := ⟨_, rfl⟩
              rw [← eX3] at hR
              have iX3 : Iv X3 := by rw [eX3]; exact I_setPatience hI (f_L_part (a2 >>> (4 &&& 31)) 9)
              exact gm_iret hx hb hr hlocks hS (by (try simp only [p_L_change, ↓if_neg c_1, ↓if_pos c_2, ↓if_neg c_3, ↓if_neg c_4, ↓if_pos c_5, ↓if_neg c_6, ← eX3]); (try rfl)) (by (try simp only [p_L_change, ↓if_neg c_1, ↓if_pos c_2, ↓if_neg c_3, ↓if_neg c_4, ↓if_pos c_5, ↓if_neg c_6, ← eX3]); exact hR) dL_change_189
            · refine lv_aload_n hx hb dL_change_162 rfl (lv_at hl 3 rfl) ?_
              refine lv_iload_n hx hb dL_change_163 rfl (lv_at hl 4 rfl) ?_
              refine lv_iconst (v := 4) hx hb dL_change_164 (by decide) ?_
              refine lv_ishr hx hb dL_change_165 ?_
              refine lv_bipush (v := 40) hx hb dL_change_166 (by decide) ?_
              refine gm_ci (gm_callS (As := [.int (a2 >>> (4 &&& 31)), .int 40]) (rest := [.ref β]) ⟨hx, hb, hml, hown, hts⟩ hK (c_L_part l D cy (a2 >>> (4 &&& 31)) 40 (by decide)) (va_cwS 2 hts (kIn ks_part) rfl rfl rfl (by decide +kernel) ⟨Nat.le_of_ble_eq_true rfl, Nat.le_of_ble_eq_true rfl⟩) trivial rfl hl.1 rfl (Nat.le_of_ble_eq_true rfl) dL_change_168 (Nat.zero_le _) (Nat.zero_le _)) hS (fun _ h => h.elim) (fun H locs _ _ hfr hS => ?_)
              have hR := gRep.keep hR hfr (fun _ _ h => h)
              refine gm_ci (gm_call (As := [.int (f_L_part (a2 >>> (4 &&& 31)) 40)]) (rest := []) (ci := 8) (q := (RX8, TX8, 8)) ⟨hx, hb, hml, hown, hts⟩ hK (c_X8_setFare l D cy β X (f_L_part (a2 >>> (4 &&& 31)) 40) (Iv.ok hI)) (cwV 1 hts (kIn kv_setFare) rfl rfl rfl (by decide +kernel) ⟨Nat.le_of_ble_eq_true rfl, Nat.le_of_ble_eq_true rfl⟩) (TR.mk0 hR) rfl hR rfl hl.1 rfl (Nat.le_of_ble_eq_true rfl) dL_change_171 (Nat.zero_le _) (Nat.zero_le _)) hS (fun _ h => h) (fun H locs hR _ _ hS => ?_)
              obtain ⟨X4, eX4⟩ : ∃ Y : gM, Y = (p_X8_setFare X (f_L_part (a2 >>> (4 &&& 31)) 40)).2 := ⟨_, rfl⟩
              rw [← eX4] at hR
              have iX4 : Iv X4 := by rw [eX4]; exact I_setFare hI (f_L_part (a2 >>> (4 &&& 31)) 40)
              refine lv_goto (tgt := 189) hx hb dL_change_174 (by decide) ?_
              exact gm_iret hx hb hr hlocks hS (by (try simp only [p_L_change, ↓if_neg c_1, ↓if_pos c_2, ↓if_neg c_3, ↓if_neg c_4, ↓if_pos c_5, ↓if_pos c_6, ← eX4]); (try rfl)) (by (try simp only [p_L_change, ↓if_neg c_1, ↓if_pos c_2, ↓if_neg c_3, ↓if_neg c_4, ↓if_pos c_5, ↓if_pos c_6, ← eX4]); exact hR) dL_change_189
          · skip
            rcases Decidable.em (f_L_part a2 15 = 7) with c_7 | c_7
            · refine lv_tableIn (tgt := 190) hx hb dL_change_46 (by rw [c_7]; decide) (by rw [c_7]; decide) (by rw [c_7]; rfl) (by decide) ?_
              refine lv_aload_n hx hb dL_change_190 rfl (lv_at hl 3 rfl) ?_
              refine lv_iload_n hx hb dL_change_191 rfl (lv_at hl 4 rfl) ?_
              refine lv_iconst (v := 4) hx hb dL_change_192 (by decide) ?_
              refine lv_ishr hx hb dL_change_193 ?_
              refine lv_iconst (v := 2) hx hb dL_change_194 (by decide) ?_
              refine gm_ci (gm_callS (As := [.int (a2 >>> (4 &&& 31)), .int 2]) (rest := [.ref β]) ⟨hx, hb, hml, hown, hts⟩ hK (c_L_part l D cy (a2 >>> (4 &&& 31)) 2 (by decide)) (va_cwS 2 hts (kIn ks_part) rfl rfl rfl (by decide +kernel) ⟨Nat.le_of_ble_eq_true rfl, Nat.le_of_ble_eq_true rfl⟩) trivial rfl hl.1 rfl (Nat.le_of_ble_eq_true rfl) dL_change_195 (Nat.zero_le _) (Nat.zero_le _)) hS (fun _ h => h.elim) (fun H locs _ _ hfr hS => ?_)
              have hR := gRep.keep hR hfr (fun _ _ h => h)
              refine gm_ci (gm_call (As := [.int (f_L_part (a2 >>> (4 &&& 31)) 2)]) (rest := []) (ci := 8) (q := (RX8, TX8, 8)) ⟨hx, hb, hml, hown, hts⟩ hK (c_X8_drain l D cy β X (f_L_part (a2 >>> (4 &&& 31)) 2) (Iv.ok hI)) (cwV 1 hts (kIn kv_drain) rfl rfl rfl (by decide +kernel) ⟨Nat.le_of_ble_eq_true rfl, Nat.le_of_ble_eq_true rfl⟩) (TR.mk0 hR) rfl hR rfl hl.1 rfl (Nat.le_of_ble_eq_true rfl) dL_change_198 (Nat.zero_le _) (Nat.zero_le _)) hS (fun _ h => h) (fun H locs hR _ _ hS => ?_)
              obtain ⟨X5, eX5⟩ : ∃ Y : gM, Y = (p_X8_drain X (f_L_part (a2 >>> (4 &&& 31)) 2)).2 := ⟨_, rfl⟩
              rw [← eX5] at hR
              have iX5 : Iv X5 := by rw [eX5]; exact I_drain hI (f_L_part (a2 >>> (4 &&& 31)) 2)
              exact gm_iret hx hb hr hlocks hS (by (try simp only [p_L_change, ↓if_neg c_1, ↓if_pos c_2, ↓if_neg c_3, ↓if_neg c_4, ↓if_neg c_5, ↓if_pos c_7, ← eX5]); (try rfl)) (by (try simp only [p_L_change, ↓if_neg c_1, ↓if_pos c_2, ↓if_neg c_3, ↓if_neg c_4, ↓if_neg c_5, ↓if_pos c_7, ← eX5]); exact hR) dL_change_201
            · skip
              rcases Decidable.em (f_L_part a2 15 = 8) with c_8 | c_8
              · refine lv_tableIn (tgt := 202) hx hb dL_change_46 (by rw [c_8]; decide) (by rw [c_8]; decide) (by rw [c_8]; rfl) (by decide) ?_
                refine lv_aload_n hx hb dL_change_202 rfl (lv_at hl 3 rfl) ?_
                refine lv_iload hx hb dL_change_203 (lv_at hl 0 rfl) ?_
                refine gm_ci (gm_call (As := [.int (f_L_part (a2 >>> (5 &&& 31)) (f_X8_count X 1))]) (rest := []) (ci := 8) (q := (RX8, TX8, 8)) ⟨hx, hb, hml, hown, hts⟩ hK (c_X8_cancel l D cy β X (f_L_part (a2 >>> (5 &&& 31)) (f_X8_count X 1)) (Iv.ok hI)) (cwV 1 hts (kIn kv_cancel) rfl rfl rfl (by decide +kernel) ⟨Nat.le_of_ble_eq_true rfl, Nat.le_of_ble_eq_true rfl⟩) (TR.mk0 hR) rfl hR rfl hl.1 rfl (Nat.le_of_ble_eq_true rfl) dL_change_205 (Nat.zero_le _) (Nat.zero_le _)) hS (fun _ h => h) (fun H locs hR _ _ hS => ?_)
                obtain ⟨X6, eX6⟩ : ∃ Y : gM, Y = (p_X8_cancel X (f_L_part (a2 >>> (5 &&& 31)) (f_X8_count X 1))).2 := ⟨_, rfl⟩
                rw [← eX6] at hR
                have iX6 : Iv X6 := by rw [eX6]; exact I_cancel hI (f_L_part (a2 >>> (5 &&& 31)) (f_X8_count X 1))
                exact gm_iret hx hb hr hlocks hS (by (try simp only [p_L_change, ↓if_neg c_1, ↓if_pos c_2, ↓if_neg c_3, ↓if_neg c_4, ↓if_neg c_5, ↓if_neg c_7, ↓if_pos c_8, ← eX6]); (try rfl)) (by (try simp only [p_L_change, ↓if_neg c_1, ↓if_pos c_2, ↓if_neg c_3, ↓if_neg c_4, ↓if_neg c_5, ↓if_neg c_7, ↓if_pos c_8, ← eX6]); exact hR) dL_change_208
              · skip
                rcases Decidable.em (f_L_part a2 15 = 9) with c_9 | c_9
                · refine lv_tableIn (tgt := 209) hx hb dL_change_46 (by rw [c_9]; decide) (by rw [c_9]; decide) (by rw [c_9]; rfl) (by decide) ?_
                  refine lv_aload_n hx hb dL_change_209 rfl (lv_at hl 3 rfl) ?_
                  refine lv_iload_n hx hb dL_change_210 rfl (lv_at hl 1 rfl) ?_
                  refine lv_iload_n hx hb dL_change_211 rfl (lv_at hl 4 rfl) ?_
                  refine lv_bipush (v := 7) hx hb dL_change_212 (by decide) ?_
                  refine lv_ishr hx hb dL_change_214 ?_
                  refine lv_bipush (v := 30) hx hb dL_change_215 (by decide) ?_
                  refine gm_ci (gm_callS (As := [.int (a2 >>> (7 &&& 31)), .int 30]) (rest := [.int (f_L_placeOf X (a2 >>> (4 &&& 31))), .ref β]) ⟨hx, hb, hml, hown, hts⟩ hK (c_L_part l D cy (a2 >>> (7 &&& 31)) 30 (by decide)) (va_cwS 2 hts (kIn ks_part) rfl rfl rfl (by decide +kernel) ⟨Nat.le_of_ble_eq_true rfl, Nat.le_of_ble_eq_true rfl⟩) trivial rfl hl.1 rfl (Nat.le_of_ble_eq_true rfl) dL_change_217 (Nat.zero_le _) (Nat.zero_le _)) hS (fun _ h => h.elim) (fun H locs _ _ hfr hS => ?_)
                  have hR := gRep.keep hR hfr (fun _ _ h => h)
                  refine gm_ci (gm_call (As := [.int (f_L_placeOf X (a2 >>> (4 &&& 31))), .int (f_L_part (a2 >>> (7 &&& 31)) 30)]) (rest := []) (ci := 8) (q := (RX8, TX8, 8)) ⟨hx, hb, hml, hown, hts⟩ hK (c_X8_call l D cy β X (f_L_placeOf X (a2 >>> (4 &&& 31))) (f_L_part (a2 >>> (7 &&& 31)) 30) (Iv.ok hI)) (cwV 2 hts (kIn kv_call) rfl rfl rfl (by decide +kernel) ⟨Nat.le_of_ble_eq_true rfl, Nat.le_of_ble_eq_true rfl⟩) (TR.mk0 hR) rfl hR rfl hl.1 rfl (Nat.le_of_ble_eq_true rfl) dL_change_220 (Nat.zero_le _) (Nat.zero_le _)) hS (fun _ h => h) (fun H locs hR _ _ hS => ?_)
                  obtain ⟨X7, eX7⟩ : ∃ Y : gM, Y = (p_X8_call X (f_L_placeOf X (a2 >>> (4 &&& 31))) (f_L_part (a2 >>> (7 &&& 31)) 30)).2 := ⟨_, rfl⟩
                  rw [← eX7] at hR
                  have iX7 : Iv X7 := by rw [eX7]; exact I_call hI (f_L_placeOf X (a2 >>> (4 &&& 31))) (f_L_part (a2 >>> (7 &&& 31)) 30)
                  exact gm_iret hx hb hr hlocks hS (by (try simp only [p_L_change, ↓if_neg c_1, ↓if_pos c_2, ↓if_neg c_3, ↓if_neg c_4, ↓if_neg c_5, ↓if_neg c_7, ↓if_neg c_8, ↓if_pos c_9, ← eX7]); (try rfl)) (by (try simp only [p_L_change, ↓if_neg c_1, ↓if_pos c_2, ↓if_neg c_3, ↓if_neg c_4, ↓if_neg c_5, ↓if_neg c_7, ↓if_neg c_8, ↓if_pos c_9, ← eX7]); exact hR) dL_change_223
                · skip
                  rcases Decidable.em (f_L_part a2 15 = 10) with c_10 | c_10
                  · refine lv_tableIn (tgt := 224) hx hb dL_change_46 (by rw [c_10]; decide) (by rw [c_10]; decide) (by rw [c_10]; rfl) (by decide) ?_
                    refine lv_aload_n hx hb dL_change_224 rfl (lv_at hl 3 rfl) ?_
                    refine lv_iload_n hx hb dL_change_225 rfl (lv_at hl 1 rfl) ?_
                    refine gm_ci (gm_call (As := [.int (f_L_placeOf X (a2 >>> (4 &&& 31)))]) (rest := []) (ci := 8) (q := (RX8, TX8, 8)) ⟨hx, hb, hml, hown, hts⟩ hK (c_X8_callBack l D cy β X (f_L_placeOf X (a2 >>> (4 &&& 31))) (Iv.ok hI)) (cwV 1 hts (kIn kv_callBack) rfl rfl rfl (by decide +kernel) ⟨Nat.le_of_ble_eq_true rfl, Nat.le_of_ble_eq_true rfl⟩) (TR.mk0 hR) rfl hR rfl hl.1 rfl (Nat.le_of_ble_eq_true rfl) dL_change_226 (Nat.zero_le _) (Nat.zero_le _)) hS (fun _ h => h) (fun H locs hR _ _ hS => ?_)
                    obtain ⟨X8, eX8⟩ : ∃ Y : gM, Y = (p_X8_callBack X (f_L_placeOf X (a2 >>> (4 &&& 31)))).2 := ⟨_, rfl⟩
                    rw [← eX8] at hR
                    have iX8 : Iv X8 := by rw [eX8]; exact I_callBack hI (f_L_placeOf X (a2 >>> (4 &&& 31)))
                    exact gm_iret hx hb hr hlocks hS (by (try simp only [p_L_change, ↓if_neg c_1, ↓if_pos c_2, ↓if_neg c_3, ↓if_neg c_4, ↓if_neg c_5, ↓if_neg c_7, ↓if_neg c_8, ↓if_neg c_9, ↓if_pos c_10, ← eX8]); (try rfl)) (by (try simp only [p_L_change, ↓if_neg c_1, ↓if_pos c_2, ↓if_neg c_3, ↓if_neg c_4, ↓if_neg c_5, ↓if_neg c_7, ↓if_neg c_8, ↓if_neg c_9, ↓if_pos c_10, ← eX8]); exact hR) dL_change_229
                  · skip
                    rcases Decidable.em (f_L_part a2 15 = 11) with c_11 | c_11
                    · refine lv_tableIn (tgt := 230) hx hb dL_change_46 (by rw [c_11]; decide) (by rw [c_11]; decide) (by rw [c_11]; rfl) (by decide) ?_
                      refine lv_aload_n hx hb dL_change_230 rfl (lv_at hl 3 rfl) ?_
                      refine lv_iload hx hb dL_change_231 (lv_at hl 0 rfl) ?_
                      refine lv_iload_n hx hb dL_change_233 rfl (lv_at hl 4 rfl) ?_
                      refine lv_bipush (v := 7) hx hb dL_change_234 (by decide) ?_
                      refine lv_ishr hx hb dL_change_236 ?_
                      refine lv_bipush (v := 9) hx hb dL_change_237 (by decide) ?_
                      refine gm_ci (gm_callS (As := [.int (a2 >>> (7 &&& 31)), .int 9]) (rest := [.int (f_L_part (a2 >>> (5 &&& 31)) (f_X8_count X 1)), .ref β]) ⟨hx, hb, hml, hown, hts⟩ hK (c_L_part l D cy (a2 >>> (7 &&& 31)) 9 (by decide)) (va_cwS 2 hts (kIn ks_part) rfl rfl rfl (by decide +kernel) ⟨Nat.le_of_ble_eq_true rfl, Nat.le_of_ble_eq_true rfl⟩) trivial rfl hl.1 rfl (Nat.le_of_ble_eq_true rfl) dL_change_239 (Nat.zero_le _) (Nat.zero_le _)) hS (fun _ h => h.elim) (fun H locs _ _ hfr hS => ?_)
                      have hR := gRep.keep hR hfr (fun _ _ h => h)
                      refine gm_ci (gm_call (As := [.int (f_L_part (a2 >>> (5 &&& 31)) (f_X8_count X 1)), .int (f_L_part (a2 >>> (7 &&& 31)) 9)]) (rest := []) (ci := 8) (q := (RX8, TX8, 8)) ⟨hx, hb, hml, hown, hts⟩ hK (c_X8_order l D cy β X (f_L_part (a2 >>> (5 &&& 31)) (f_X8_count X 1)) (f_L_part (a2 >>> (7 &&& 31)) 9) (Iv.ok hI)) (cwV 2 hts (kIn kv_order) rfl rfl rfl (by decide +kernel) ⟨Nat.le_of_ble_eq_true rfl, Nat.le_of_ble_eq_true rfl⟩) (TR.mk0 hR) rfl hR rfl hl.1 rfl (Nat.le_of_ble_eq_true rfl) dL_change_242 (Nat.zero_le _) (Nat.zero_le _)) hS (fun _ h => h) (fun H locs hR _ _ hS => ?_)
                      obtain ⟨X9, eX9⟩ : ∃ Y : gM, Y = (p_X8_order X (f_L_part (a2 >>> (5 &&& 31)) (f_X8_count X 1)) (f_L_part (a2 >>> (7 &&& 31)) 9)).2 := ⟨_, rfl⟩
                      rw [← eX9] at hR
                      have iX9 : Iv X9 := by rw [eX9]; exact I_order hI (f_L_part (a2 >>> (5 &&& 31)) (f_X8_count X 1)) (f_L_part (a2 >>> (7 &&& 31)) 9)
                      exact gm_iret hx hb hr hlocks hS (by (try simp only [p_L_change, ↓if_neg c_1, ↓if_pos c_2, ↓if_neg c_3, ↓if_neg c_4, ↓if_neg c_5, ↓if_neg c_7, ↓if_neg c_8, ↓if_neg c_9, ↓if_neg c_10, ↓if_pos c_11, ← eX9]); (try rfl)) (by (try simp only [p_L_change, ↓if_neg c_1, ↓if_pos c_2, ↓if_neg c_3, ↓if_neg c_4, ↓if_neg c_5, ↓if_neg c_7, ↓if_neg c_8, ↓if_neg c_9, ↓if_neg c_10, ↓if_pos c_11, ← eX9]); exact hR) dL_change_245
                    · skip
                      rcases Decidable.em (f_L_part a2 15 = 12) with c_12 | c_12
                      · refine lv_tableIn (tgt := 246) hx hb dL_change_46 (by rw [c_12]; decide) (by rw [c_12]; decide) (by rw [c_12]; rfl) (by decide) ?_
                        refine lv_aload_n hx hb dL_change_246 rfl (lv_at hl 3 rfl) ?_
                        refine lv_iload_n hx hb dL_change_247 rfl (lv_at hl 4 rfl) ?_
                        refine lv_bipush (v := 7) hx hb dL_change_248 (by decide) ?_
                        refine lv_ishr hx hb dL_change_250 ?_
                        refine lv_iconst (v := 4) hx hb dL_change_251 (by decide) ?_
                        refine gm_ci (gm_callS (As := [.int (a2 >>> (7 &&& 31)), .int 4]) (rest := [.ref β]) ⟨hx, hb, hml, hown, hts⟩ hK (c_L_part l D cy (a2 >>> (7 &&& 31)) 4 (by decide)) (va_cwS 2 hts (kIn ks_part) rfl rfl rfl (by decide +kernel) ⟨Nat.le_of_ble_eq_true rfl, Nat.le_of_ble_eq_true rfl⟩) trivial rfl hl.1 rfl (Nat.le_of_ble_eq_true rfl) dL_change_252 (Nat.zero_le _) (Nat.zero_le _)) hS (fun _ h => h.elim) (fun H locs _ _ hfr hS => ?_)
                        have hR := gRep.keep hR hfr (fun _ _ h => h)
                        refine gm_ci (gm_call (As := [.int (f_L_part (a2 >>> (7 &&& 31)) 4)]) (rest := []) (ci := 8) (q := (RX8, TX8, 8)) ⟨hx, hb, hml, hown, hts⟩ hK (c_X8_endOrder l D cy β X (f_L_part (a2 >>> (7 &&& 31)) 4) (Iv.ok hI)) (cwV 1 hts (kIn kv_endOrder) rfl rfl rfl (by decide +kernel) ⟨Nat.le_of_ble_eq_true rfl, Nat.le_of_ble_eq_true rfl⟩) (TR.mk0 hR) rfl hR rfl hl.1 rfl (Nat.le_of_ble_eq_true rfl) dL_change_255 (Nat.zero_le _) (Nat.zero_le _)) hS (fun _ h => h) (fun H locs hR _ _ hS => ?_)
                        obtain ⟨X10, eX10⟩ : ∃ Y : gM, Y = (p_X8_endOrder X (f_L_part (a2 >>> (7 &&& 31)) 4)).2 := ⟨_, rfl⟩
                        rw [← eX10] at hR
                        have iX10 : Iv X10 := by rw [eX10]; exact I_endOrder hI (f_L_part (a2 >>> (7 &&& 31)) 4)
                        exact gm_iret hx hb hr hlocks hS (by (try simp only [p_L_change, ↓if_neg c_1, ↓if_pos c_2, ↓if_neg c_3, ↓if_neg c_4, ↓if_neg c_5, ↓if_neg c_7, ↓if_neg c_8, ↓if_neg c_9, ↓if_neg c_10, ↓if_neg c_11, ↓if_pos c_12, ← eX10]); (try rfl)) (by (try simp only [p_L_change, ↓if_neg c_1, ↓if_pos c_2, ↓if_neg c_3, ↓if_neg c_4, ↓if_neg c_5, ↓if_neg c_7, ↓if_neg c_8, ↓if_neg c_9, ↓if_neg c_10, ↓if_neg c_11, ↓if_pos c_12, ← eX10]); exact hR) dL_change_258
                      · skip
                        rcases Decidable.em (f_L_part a2 15 = 13) with c_13 | c_13
                        · refine lv_tableIn (tgt := 259) hx hb dL_change_46 (by rw [c_13]; decide) (by rw [c_13]; decide) (by rw [c_13]; rfl) (by decide) ?_
                          refine lv_aload_n hx hb dL_change_259 rfl (lv_at hl 3 rfl) ?_
                          refine lv_iconst (v := 1) hx hb dL_change_260 (by decide) ?_
                          refine lv_iload_n hx hb dL_change_261 rfl (lv_at hl 4 rfl) ?_
                          refine lv_bipush (v := 6) hx hb dL_change_262 (by decide) ?_
                          refine lv_ishr hx hb dL_change_264 ?_
                          refine lv_bipush (v := 9) hx hb dL_change_265 (by decide) ?_
                          refine gm_ci (gm_callS (As := [.int (a2 >>> (6 &&& 31)), .int 9]) (rest := [.int 1, .ref β]) ⟨hx, hb, hml, hown, hts⟩ hK (c_L_part l D cy (a2 >>> (6 &&& 31)) 9 (by decide)) (va_cwS 2 hts (kIn ks_part) rfl rfl rfl (by decide +kernel) ⟨Nat.le_of_ble_eq_true rfl, Nat.le_of_ble_eq_true rfl⟩) trivial rfl hl.1 rfl (Nat.le_of_ble_eq_true rfl) dL_change_267 (Nat.zero_le _) (Nat.zero_le _)) hS (fun _ h => h.elim) (fun H locs _ _ hfr hS => ?_)
                          have hR := gRep.keep hR hfr (fun _ _ h => h)
                          refine lv_iadd hx hb dL_change_270 ?_
                          refine gm_ci (gm_call (As := [.int ((1 : Int32) + (f_L_part (a2 >>> (6 &&& 31)) 9))]) (rest := []) (ci := 8) (q := (RX8, TX8, 8)) ⟨hx, hb, hml, hown, hts⟩ hK (c_X8_tick l D cy β X ((1 : Int32) + (f_L_part (a2 >>> (6 &&& 31)) 9)) (Iv.ok hI)) (cwV 1 hts (kIn kv_tick) rfl rfl rfl (by decide +kernel) ⟨Nat.le_of_ble_eq_true rfl, Nat.le_of_ble_eq_true rfl⟩) (TR.mk0 hR) rfl hR rfl hl.1 rfl (Nat.le_of_ble_eq_true rfl) dL_change_271 (Nat.zero_le _) (Nat.zero_le _)) hS (fun _ h => h) (fun H locs hR _ _ hS => ?_)
                          obtain ⟨X11, eX11⟩ : ∃ Y : gM, Y = (p_X8_tick X ((1 : Int32) + (f_L_part (a2 >>> (6 &&& 31)) 9))).2 := ⟨_, rfl⟩
                          rw [← eX11] at hR
                          have iX11 : Iv X11 := by rw [eX11]; exact I_tick hI ((1 : Int32) + (f_L_part (a2 >>> (6 &&& 31)) 9))
                          exact gm_iret hx hb hr hlocks hS (by (try simp only [p_L_change, ↓if_neg c_1, ↓if_pos c_2, ↓if_neg c_3, ↓if_neg c_4, ↓if_neg c_5, ↓if_neg c_7, ↓if_neg c_8, ↓if_neg c_9, ↓if_neg c_10, ↓if_neg c_11, ↓if_neg c_12, ↓if_pos c_13, ← eX11]); (try rfl)) (by (try simp only [p_L_change, ↓if_neg c_1, ↓if_pos c_2, ↓if_neg c_3, ↓if_neg c_4, ↓if_neg c_5, ↓if_neg c_7, ↓if_neg c_8, ↓if_neg c_9, ↓if_neg c_10, ↓if_neg c_11, ↓if_neg c_12, ↓if_pos c_13, ← eX11]); exact hR) dL_change_274
                        · skip
                          rcases Decidable.em (f_L_part a2 15 = 14) with c_14 | c_14
                          · refine lv_tableIn (tgt := 259) hx hb dL_change_46 (by rw [c_14]; decide) (by rw [c_14]; decide) (by rw [c_14]; rfl) (by decide) ?_
                            refine lv_aload_n hx hb dL_change_259 rfl (lv_at hl 3 rfl) ?_
                            refine lv_iconst (v := 1) hx hb dL_change_260 (by decide) ?_
                            refine lv_iload_n hx hb dL_change_261 rfl (lv_at hl 4 rfl) ?_
                            refine lv_bipush (v := 6) hx hb dL_change_262 (by decide) ?_
                            refine lv_ishr hx hb dL_change_264 ?_
                            refine lv_bipush (v := 9) hx hb dL_change_265 (by decide) ?_
                            refine gm_ci (gm_callS (As := [.int (a2 >>> (6 &&& 31)), .int 9]) (rest := [.int 1, .ref β]) ⟨hx, hb, hml, hown, hts⟩ hK (c_L_part l D cy (a2 >>> (6 &&& 31)) 9 (by decide)) (va_cwS 2 hts (kIn ks_part) rfl rfl rfl (by decide +kernel) ⟨Nat.le_of_ble_eq_true rfl, Nat.le_of_ble_eq_true rfl⟩) trivial rfl hl.1 rfl (Nat.le_of_ble_eq_true rfl) dL_change_267 (Nat.zero_le _) (Nat.zero_le _)) hS (fun _ h => h.elim) (fun H locs _ _ hfr hS => ?_)
                            have hR := gRep.keep hR hfr (fun _ _ h => h)
                            refine lv_iadd hx hb dL_change_270 ?_
                            refine gm_ci (gm_call (As := [.int ((1 : Int32) + (f_L_part (a2 >>> (6 &&& 31)) 9))]) (rest := []) (ci := 8) (q := (RX8, TX8, 8)) ⟨hx, hb, hml, hown, hts⟩ hK (c_X8_tick l D cy β X ((1 : Int32) + (f_L_part (a2 >>> (6 &&& 31)) 9)) (Iv.ok hI)) (cwV 1 hts (kIn kv_tick) rfl rfl rfl (by decide +kernel) ⟨Nat.le_of_ble_eq_true rfl, Nat.le_of_ble_eq_true rfl⟩) (TR.mk0 hR) rfl hR rfl hl.1 rfl (Nat.le_of_ble_eq_true rfl) dL_change_271 (Nat.zero_le _) (Nat.zero_le _)) hS (fun _ h => h) (fun H locs hR _ _ hS => ?_)
                            obtain ⟨X12, eX12⟩ : ∃ Y : gM, Y = (p_X8_tick X ((1 : Int32) + (f_L_part (a2 >>> (6 &&& 31)) 9))).2 := ⟨_, rfl⟩
                            rw [← eX12] at hR
                            have iX12 : Iv X12 := by rw [eX12]; exact I_tick hI ((1 : Int32) + (f_L_part (a2 >>> (6 &&& 31)) 9))
                            exact gm_iret hx hb hr hlocks hS (by (try simp only [p_L_change, ↓if_neg c_1, ↓if_pos c_2, ↓if_neg c_3, ↓if_neg c_4, ↓if_neg c_5, ↓if_neg c_7, ↓if_neg c_8, ↓if_neg c_9, ↓if_neg c_10, ↓if_neg c_11, ↓if_neg c_12, ↓if_neg c_13, ↓if_pos c_14, ← eX12]); (try rfl)) (by (try simp only [p_L_change, ↓if_neg c_1, ↓if_pos c_2, ↓if_neg c_3, ↓if_neg c_4, ↓if_neg c_5, ↓if_neg c_7, ↓if_neg c_8, ↓if_neg c_9, ↓if_neg c_10, ↓if_neg c_11, ↓if_neg c_12, ↓if_neg c_13, ↓if_pos c_14, ← eX12]); exact hR) dL_change_274
                          · skip
                            refine lv_tableOut (tgt := 275) hx hb dL_change_46 (g_sw4_14 c_3 c_4 c_5 c_7 c_8 c_9 c_10 c_11 c_12 c_13 c_14) (by decide) ?_
                            refine lv_aload_n hx hb dL_change_275 rfl (lv_at hl 3 rfl) ?_
                            refine lv_iload_n hx hb dL_change_276 rfl (lv_at hl 4 rfl) ?_
                            refine lv_iconst (v := 3) hx hb dL_change_277 (by decide) ?_
                            refine lv_ishr hx hb dL_change_278 ?_
                            refine lv_bipush (v := 30) hx hb dL_change_279 (by decide) ?_
                            refine gm_ci (gm_callS (As := [.int (a2 >>> (3 &&& 31)), .int 30]) (rest := [.ref β]) ⟨hx, hb, hml, hown, hts⟩ hK (c_L_part l D cy (a2 >>> (3 &&& 31)) 30 (by decide)) (va_cwS 2 hts (kIn ks_part) rfl rfl rfl (by decide +kernel) ⟨Nat.le_of_ble_eq_true rfl, Nat.le_of_ble_eq_true rfl⟩) trivial rfl hl.1 rfl (Nat.le_of_ble_eq_true rfl) dL_change_281 (Nat.zero_le _) (Nat.zero_le _)) hS (fun _ h => h.elim) (fun H locs _ _ hfr hS => ?_)
                            have hR := gRep.keep hR hfr (fun _ _ h => h)
                            refine lv_iconst (v := 1) hx hb dL_change_284 (by decide) ?_
                            refine lv_iload_n hx hb dL_change_285 rfl (lv_at hl 4 rfl) ?_
                            refine lv_bipush (v := 6) hx hb dL_change_286 (by decide) ?_
                            refine lv_ishr hx hb dL_change_288 ?_
                            refine lv_iconst (v := 3) hx hb dL_change_289 (by decide) ?_
                            refine gm_ci (gm_callS (As := [.int (a2 >>> (6 &&& 31)), .int 3]) (rest := [.int 1, .int (f_L_part (a2 >>> (3 &&& 31)) 30), .ref β]) ⟨hx, hb, hml, hown, hts⟩ hK (c_L_part l D cy (a2 >>> (6 &&& 31)) 3 (by decide)) (va_cwS 2 hts (kIn ks_part) rfl rfl rfl (by decide +kernel) ⟨Nat.le_of_ble_eq_true rfl, Nat.le_of_ble_eq_true rfl⟩) trivial rfl hl.1 rfl (Nat.le_of_ble_eq_true rfl) dL_change_290 (Nat.zero_le _) (Nat.zero_le _)) hS (fun _ h => h.elim) (fun H locs _ _ hfr hS => ?_)
                            have hR := gRep.keep hR hfr (fun _ _ h => h)
                            refine lv_iadd hx hb dL_change_293 ?_
                            refine lv_iload_n hx hb dL_change_294 rfl (lv_at hl 1 rfl) ?_
                            refine lv_aload_n hx hb dL_change_295 rfl (lv_at hl 3 rfl) ?_
                            refine lv_iload_n hx hb dL_change_296 rfl (lv_at hl 4 rfl) ?_
                            refine lv_bipush (v := 8) hx hb dL_change_297 (by decide) ?_
                            refine lv_ishr hx hb dL_change_299 ?_
                            refine gm_ci (gm_callS (As := [.ref β, .int (a2 >>> (8 &&& 31))]) (rest := [.int (f_L_placeOf X (a2 >>> (4 &&& 31))), .int ((1 : Int32) + (f_L_part (a2 >>> (6 &&& 31)) 3)), .int (f_L_part (a2 >>> (3 &&& 31)) 30), .ref β]) ⟨hx, hb, hml, hown, hts⟩ hK (c_L_placeOf l D cy β X (a2 >>> (8 &&& 31))) (va_cwS 2 hts (kIn ks_placeOf) rfl rfl rfl (by decide +kernel) ⟨Nat.le_of_ble_eq_true rfl, Nat.le_of_ble_eq_true rfl⟩) hR rfl hl.1 rfl (Nat.le_of_ble_eq_true rfl) dL_change_300 (Nat.zero_le _) (Nat.zero_le _)) hS (fun _ h => h.elim) (fun H locs _ _ hfr hS => ?_)
                            have hR := gRep.keep hR hfr (fun _ _ h => h)
                            refine lv_iload_n hx hb dL_change_303 rfl (lv_at hl 4 rfl) ?_
                            refine lv_bipush (v := 9) hx hb dL_change_304 (by decide) ?_
                            refine lv_ishr hx hb dL_change_306 ?_
                            refine lv_bipush (v := 11) hx hb dL_change_307 (by decide) ?_
                            refine gm_ci (gm_callS (As := [.int (a2 >>> (9 &&& 31)), .int 11]) (rest := [.int (f_L_placeOf X (a2 >>> (8 &&& 31))), .int (f_L_placeOf X (a2 >>> (4 &&& 31))), .int ((1 : Int32) + (f_L_part (a2 >>> (6 &&& 31)) 3)), .int (f_L_part (a2 >>> (3 &&& 31)) 30), .ref β]) ⟨hx, hb, hml, hown, hts⟩ hK (c_L_part l D cy (a2 >>> (9 &&& 31)) 11 (by decide)) (va_cwS 2 hts (kIn ks_part) rfl rfl rfl (by decide +kernel) ⟨Nat.le_of_ble_eq_true rfl, Nat.le_of_ble_eq_true rfl⟩) trivial rfl hl.1 rfl (Nat.le_of_ble_eq_true rfl) dL_change_309 (Nat.zero_le _) (Nat.zero_le _)) hS (fun _ h => h.elim) (fun H locs _ _ hfr hS => ?_)
                            have hR := gRep.keep hR hfr (fun _ _ h => h)
                            refine gm_ci (gm_call (As := [.int (f_L_part (a2 >>> (3 &&& 31)) 30), .int ((1 : Int32) + (f_L_part (a2 >>> (6 &&& 31)) 3)), .int (f_L_placeOf X (a2 >>> (4 &&& 31))), .int (f_L_placeOf X (a2 >>> (8 &&& 31))), .int (f_L_part (a2 >>> (9 &&& 31)) 11)]) (rest := []) (ci := 8) (q := (RX8, TX8, 8)) ⟨hx, hb, hml, hown, hts⟩ hK (c_X8_book l D cy β X (f_L_part (a2 >>> (3 &&& 31)) 30) ((1 : Int32) + (f_L_part (a2 >>> (6 &&& 31)) 3)) (f_L_placeOf X (a2 >>> (4 &&& 31))) (f_L_placeOf X (a2 >>> (8 &&& 31))) (f_L_part (a2 >>> (9 &&& 31)) 11) (Iv.ok hI)) (cwV 5 hts (kIn kv_book) rfl rfl rfl (by decide +kernel) ⟨Nat.le_of_ble_eq_true rfl, Nat.le_of_ble_eq_true rfl⟩) (TR.mk0 hR) rfl hR rfl hl.1 rfl (Nat.le_of_ble_eq_true rfl) dL_change_312 (Nat.zero_le _) (Nat.zero_le _)) hS (fun _ h => h) (fun H locs hR _ _ hS => ?_)
                            obtain ⟨X13, eX13⟩ : ∃ Y : gM, Y = (p_X8_book X (f_L_part (a2 >>> (3 &&& 31)) 30) ((1 : Int32) + (f_L_part (a2 >>> (6 &&& 31)) 3)) (f_L_placeOf X (a2 >>> (4 &&& 31))) (f_L_placeOf X (a2 >>> (8 &&& 31))) (f_L_part (a2 >>> (9 &&& 31)) 11)).2 := ⟨_, rfl⟩
                            rw [← eX13] at hR
                            have iX13 : Iv X13 := by rw [eX13]; exact I_book hI (f_L_part (a2 >>> (3 &&& 31)) 30) ((1 : Int32) + (f_L_part (a2 >>> (6 &&& 31)) 3)) (f_L_placeOf X (a2 >>> (4 &&& 31))) (f_L_placeOf X (a2 >>> (8 &&& 31))) (f_L_part (a2 >>> (9 &&& 31)) 11)
                            exact gm_iret hx hb hr hlocks hS (by (try simp only [p_L_change, ↓if_neg c_1, ↓if_pos c_2, ↓if_neg c_3, ↓if_neg c_4, ↓if_neg c_5, ↓if_neg c_7, ↓if_neg c_8, ↓if_neg c_9, ↓if_neg c_10, ↓if_neg c_11, ↓if_neg c_12, ↓if_neg c_13, ↓if_neg c_14, ← eX13]); (try rfl)) (by (try simp only [p_L_change, ↓if_neg c_1, ↓if_pos c_2, ↓if_neg c_3, ↓if_neg c_4, ↓if_neg c_5, ↓if_neg c_7, ↓if_neg c_8, ↓if_neg c_9, ↓if_neg c_10, ↓if_neg c_11, ↓if_neg c_12, ↓if_neg c_13, ↓if_neg c_14, ← eX13]); exact hR) dL_change_315
    · refine lv_iconst (v := 0) hx hb dL_change_36 (by decide) ?_
      refine lv_goto (tgt := 46) hx hb dL_change_37 (by decide) ?_
      refine lv_tableOut (tgt := 275) hx hb dL_change_46 (g_sw4_14 (by decide) (by decide) (by decide) (by decide) (by decide) (by decide) (by decide) (by decide) (by decide) (by decide) (by decide)) (by decide) ?_
      refine lv_aload_n hx hb dL_change_275 rfl (lv_at hl 3 rfl) ?_
      refine lv_iload_n hx hb dL_change_276 rfl (lv_at hl 4 rfl) ?_
      refine lv_iconst (v := 3) hx hb dL_change_277 (by decide) ?_
      refine lv_ishr hx hb dL_change_278 ?_
      refine lv_bipush (v := 30) hx hb dL_change_279 (by decide) ?_
      refine gm_ci (gm_callS (As := [.int (a2 >>> (3 &&& 31)), .int 30]) (rest := [.ref β]) ⟨hx, hb, hml, hown, hts⟩ hK (c_L_part l D cy (a2 >>> (3 &&& 31)) 30 (by decide)) (va_cwS 2 hts (kIn ks_part) rfl rfl rfl (by decide +kernel) ⟨Nat.le_of_ble_eq_true rfl, Nat.le_of_ble_eq_true rfl⟩) trivial rfl hl.1 rfl (Nat.le_of_ble_eq_true rfl) dL_change_281 (Nat.zero_le _) (Nat.zero_le _)) hS (fun _ h => h.elim) (fun H locs _ _ hfr hS => ?_)
      have hR := gRep.keep hR hfr (fun _ _ h => h)
      refine lv_iconst (v := 1) hx hb dL_change_284 (by decide) ?_
      refine lv_iload_n hx hb dL_change_285 rfl (lv_at hl 4 rfl) ?_
      refine lv_bipush (v := 6) hx hb dL_change_286 (by decide) ?_
      refine lv_ishr hx hb dL_change_288 ?_
      refine lv_iconst (v := 3) hx hb dL_change_289 (by decide) ?_
      refine gm_ci (gm_callS (As := [.int (a2 >>> (6 &&& 31)), .int 3]) (rest := [.int 1, .int (f_L_part (a2 >>> (3 &&& 31)) 30), .ref β]) ⟨hx, hb, hml, hown, hts⟩ hK (c_L_part l D cy (a2 >>> (6 &&& 31)) 3 (by decide)) (va_cwS 2 hts (kIn ks_part) rfl rfl rfl (by decide +kernel) ⟨Nat.le_of_ble_eq_true rfl, Nat.le_of_ble_eq_true rfl⟩) trivial rfl hl.1 rfl (Nat.le_of_ble_eq_true rfl) dL_change_290 (Nat.zero_le _) (Nat.zero_le _)) hS (fun _ h => h.elim) (fun H locs _ _ hfr hS => ?_)
      have hR := gRep.keep hR hfr (fun _ _ h => h)
      refine lv_iadd hx hb dL_change_293 ?_
      refine lv_iload_n hx hb dL_change_294 rfl (lv_at hl 1 rfl) ?_
      refine lv_aload_n hx hb dL_change_295 rfl (lv_at hl 3 rfl) ?_
      refine lv_iload_n hx hb dL_change_296 rfl (lv_at hl 4 rfl) ?_
      refine lv_bipush (v := 8) hx hb dL_change_297 (by decide) ?_
      refine lv_ishr hx hb dL_change_299 ?_
      refine gm_ci (gm_callS (As := [.ref β, .int (a2 >>> (8 &&& 31))]) (rest := [.int (f_L_placeOf X (a2 >>> (4 &&& 31))), .int ((1 : Int32) + (f_L_part (a2 >>> (6 &&& 31)) 3)), .int (f_L_part (a2 >>> (3 &&& 31)) 30), .ref β]) ⟨hx, hb, hml, hown, hts⟩ hK (c_L_placeOf l D cy β X (a2 >>> (8 &&& 31))) (va_cwS 2 hts (kIn ks_placeOf) rfl rfl rfl (by decide +kernel) ⟨Nat.le_of_ble_eq_true rfl, Nat.le_of_ble_eq_true rfl⟩) hR rfl hl.1 rfl (Nat.le_of_ble_eq_true rfl) dL_change_300 (Nat.zero_le _) (Nat.zero_le _)) hS (fun _ h => h.elim) (fun H locs _ _ hfr hS => ?_)
      have hR := gRep.keep hR hfr (fun _ _ h => h)
      refine lv_iload_n hx hb dL_change_303 rfl (lv_at hl 4 rfl) ?_
      refine lv_bipush (v := 9) hx hb dL_change_304 (by decide) ?_
      refine lv_ishr hx hb dL_change_306 ?_
      refine lv_bipush (v := 11) hx hb dL_change_307 (by decide) ?_
      refine gm_ci (gm_callS (As := [.int (a2 >>> (9 &&& 31)), .int 11]) (rest := [.int (f_L_placeOf X (a2 >>> (8 &&& 31))), .int (f_L_placeOf X (a2 >>> (4 &&& 31))), .int ((1 : Int32) + (f_L_part (a2 >>> (6 &&& 31)) 3)), .int (f_L_part (a2 >>> (3 &&& 31)) 30), .ref β]) ⟨hx, hb, hml, hown, hts⟩ hK (c_L_part l D cy (a2 >>> (9 &&& 31)) 11 (by decide)) (va_cwS 2 hts (kIn ks_part) rfl rfl rfl (by decide +kernel) ⟨Nat.le_of_ble_eq_true rfl, Nat.le_of_ble_eq_true rfl⟩) trivial rfl hl.1 rfl (Nat.le_of_ble_eq_true rfl) dL_change_309 (Nat.zero_le _) (Nat.zero_le _)) hS (fun _ h => h.elim) (fun H locs _ _ hfr hS => ?_)
      have hR := gRep.keep hR hfr (fun _ _ h => h)
      refine gm_ci (gm_call (As := [.int (f_L_part (a2 >>> (3 &&& 31)) 30), .int ((1 : Int32) + (f_L_part (a2 >>> (6 &&& 31)) 3)), .int (f_L_placeOf X (a2 >>> (4 &&& 31))), .int (f_L_placeOf X (a2 >>> (8 &&& 31))), .int (f_L_part (a2 >>> (9 &&& 31)) 11)]) (rest := []) (ci := 8) (q := (RX8, TX8, 8)) ⟨hx, hb, hml, hown, hts⟩ hK (c_X8_book l D cy β X (f_L_part (a2 >>> (3 &&& 31)) 30) ((1 : Int32) + (f_L_part (a2 >>> (6 &&& 31)) 3)) (f_L_placeOf X (a2 >>> (4 &&& 31))) (f_L_placeOf X (a2 >>> (8 &&& 31))) (f_L_part (a2 >>> (9 &&& 31)) 11) (Iv.ok hI)) (cwV 5 hts (kIn kv_book) rfl rfl rfl (by decide +kernel) ⟨Nat.le_of_ble_eq_true rfl, Nat.le_of_ble_eq_true rfl⟩) (TR.mk0 hR) rfl hR rfl hl.1 rfl (Nat.le_of_ble_eq_true rfl) dL_change_312 (Nat.zero_le _) (Nat.zero_le _)) hS (fun _ h => h) (fun H locs hR _ _ hS => ?_)
      obtain ⟨X14, eX14⟩ : ∃ Y : gM, Y = (p_X8_book X (f_L_part (a2 >>> (3 &&& 31)) 30) ((1 : Int32) + (f_L_part (a2 >>> (6 &&& 31)) 3)) (f_L_placeOf X (a2 >>> (4 &&& 31))) (f_L_placeOf X (a2 >>> (8 &&& 31))) (f_L_part (a2 >>> (9 &&& 31)) 11)).2 := ⟨_, rfl⟩
      rw [← eX14] at hR
      have iX14 : Iv X14 := by rw [eX14]; exact I_book hI (f_L_part (a2 >>> (3 &&& 31)) 30) ((1 : Int32) + (f_L_part (a2 >>> (6 &&& 31)) 3)) (f_L_placeOf X (a2 >>> (4 &&& 31))) (f_L_placeOf X (a2 >>> (8 &&& 31))) (f_L_part (a2 >>> (9 &&& 31)) 11)
      exact gm_iret hx hb hr hlocks hS (by (try simp only [p_L_change, ↓if_neg c_1, ↓if_neg c_2, ← eX14]); (try rfl)) (by (try simp only [p_L_change, ↓if_neg c_1, ↓if_neg c_2, ← eX14]); exact hR) dL_change_315
  · refine lv_iconst (v := 0) hx hb dL_change_18 (by decide) ?_
    refine lv_goto (tgt := 29) hx hb dL_change_19 (by decide) ?_
    refine lv_istore (lv' := [(4, .int 0), (3, .int (f_L_placeOf X (a2 >>> (4 &&& 31)))), (2, .int (f_X8_count X 1)), (0, .ref β), (1, .int a2)]) hx hb dL_change_29 hl (by decide) rfl (fun ls hl => ?_)
    refine lv_iload_n hx hb dL_change_31 rfl (lv_at hl 2 rfl) ?_
    refine lv_iconst (v := 2) hx hb dL_change_32 (by decide) ?_
    refine lv_icmp_ge (tgt := 40) hx hb dL_change_33 (by decide) (fun c_15 => ?_) (fun c_15 => ?_)
    · refine lv_iload_n hx hb dL_change_40 rfl (lv_at hl 4 rfl) ?_
      refine lv_bipush (v := 15) hx hb dL_change_41 (by decide) ?_
      refine gm_ci (gm_callS (As := [.int a2, .int 15]) (rest := []) ⟨hx, hb, hml, hown, hts⟩ hK (c_L_part l D cy a2 15 (by decide)) (va_cwS 2 hts (kIn ks_part) rfl rfl rfl (by decide +kernel) ⟨Nat.le_of_ble_eq_true rfl, Nat.le_of_ble_eq_true rfl⟩) trivial rfl hl.1 rfl (Nat.le_of_ble_eq_true rfl) dL_change_43 (Nat.zero_le _) (Nat.zero_le _)) hS (fun _ h => h.elim) (fun H locs _ _ hfr hS => ?_)
      have hR := gRep.keep hR hfr (fun _ _ h => h)
      rcases Decidable.em (f_L_part a2 15 = 4) with c_16 | c_16
      · refine lv_tableIn (tgt := 104) hx hb dL_change_46 (by rw [c_16]; decide) (by rw [c_16]; decide) (by rw [c_16]; rfl) (by decide) ?_
        refine lv_aload_n hx hb dL_change_104 rfl (lv_at hl 3 rfl) ?_
        refine lv_iload_n hx hb dL_change_105 rfl (lv_at hl 4 rfl) ?_
        refine lv_iconst (v := 4) hx hb dL_change_106 (by decide) ?_
        refine lv_ishr hx hb dL_change_107 ?_
        refine lv_iconst (v := 2) hx hb dL_change_108 (by decide) ?_
        refine gm_ci (gm_callS (As := [.int (a2 >>> (4 &&& 31)), .int 2]) (rest := [.ref β]) ⟨hx, hb, hml, hown, hts⟩ hK (c_L_part l D cy (a2 >>> (4 &&& 31)) 2 (by decide)) (va_cwS 2 hts (kIn ks_part) rfl rfl rfl (by decide +kernel) ⟨Nat.le_of_ble_eq_true rfl, Nat.le_of_ble_eq_true rfl⟩) trivial rfl hl.1 rfl (Nat.le_of_ble_eq_true rfl) dL_change_109 (Nat.zero_le _) (Nat.zero_le _)) hS (fun _ h => h.elim) (fun H locs _ _ hfr hS => ?_)
        have hR := gRep.keep hR hfr (fun _ _ h => h)
        refine lv_iconst (v := 2) hx hb dL_change_112 (by decide) ?_
        refine lv_iload_n hx hb dL_change_113 rfl (lv_at hl 4 rfl) ?_
        refine lv_bipush (v := 6) hx hb dL_change_114 (by decide) ?_
        refine lv_ishr hx hb dL_change_116 ?_
        refine lv_bipush (v := 12) hx hb dL_change_117 (by decide) ?_
        refine gm_ci (gm_callS (As := [.int (a2 >>> (6 &&& 31)), .int 12]) (rest := [.int 2, .int (f_L_part (a2 >>> (4 &&& 31)) 2), .ref β]) ⟨hx, hb, hml, hown, hts⟩ hK (c_L_part l D cy (a2 >>> (6 &&& 31)) 12 (by decide)) (va_cwS 2 hts (kIn ks_part) rfl rfl rfl (by decide +kernel) ⟨Nat.le_of_ble_eq_true rfl, Nat.le_of_ble_eq_true rfl⟩) trivial rfl hl.1 rfl (Nat.le_of_ble_eq_true rfl) dL_change_119 (Nat.zero_le _) (Nat.zero_le _)) hS (fun _ h => h.elim) (fun H locs _ _ hfr hS => ?_)
        have hR := gRep.keep hR hfr (fun _ _ h => h)
        refine lv_iadd hx hb dL_change_122 ?_
        refine gm_ci (gm_call (As := [.int (f_L_part (a2 >>> (4 &&& 31)) 2), .int ((2 : Int32) + (f_L_part (a2 >>> (6 &&& 31)) 12))]) (rest := []) (ci := 8) (q := (RX8, TX8, 8)) ⟨hx, hb, hml, hown, hts⟩ hK (c_X8_build l D cy β X (f_L_part (a2 >>> (4 &&& 31)) 2) ((2 : Int32) + (f_L_part (a2 >>> (6 &&& 31)) 12)) (Iv.ok hI)) (cwV 2 hts (kIn kv_build) rfl rfl rfl (by decide +kernel) ⟨Nat.le_of_ble_eq_true rfl, Nat.le_of_ble_eq_true rfl⟩) (TR.mk0 hR) rfl hR rfl hl.1 rfl (Nat.le_of_ble_eq_true rfl) dL_change_123 (Nat.zero_le _) (Nat.zero_le _)) hS (fun _ h => h) (fun H locs hR _ _ hS => ?_)
        obtain ⟨X15, eX15⟩ : ∃ Y : gM, Y = (p_X8_build X (f_L_part (a2 >>> (4 &&& 31)) 2) ((2 : Int32) + (f_L_part (a2 >>> (6 &&& 31)) 12))).2 := ⟨_, rfl⟩
        rw [← eX15] at hR
        have iX15 : Iv X15 := by rw [eX15]; exact I_build hI (f_L_part (a2 >>> (4 &&& 31)) 2) ((2 : Int32) + (f_L_part (a2 >>> (6 &&& 31)) 12))
        exact gm_iret hx hb hr hlocks hS (by (try simp only [p_L_change, ↓if_pos c_1, ↓if_pos c_15, ↓if_pos c_16, ← eX15]); (try rfl)) (by (try simp only [p_L_change, ↓if_pos c_1, ↓if_pos c_15, ↓if_pos c_16, ← eX15]); exact hR) dL_change_126
      · skip
        rcases Decidable.em (f_L_part a2 15 = 5) with c_17 | c_17
        · refine lv_tableIn (tgt := 127) hx hb dL_change_46 (by rw [c_17]; decide) (by rw [c_17]; decide) (by rw [c_17]; rfl) (by decide) ?_
          refine lv_aload_n hx hb dL_change_127 rfl (lv_at hl 3 rfl) ?_
          refine lv_iload_n hx hb dL_change_128 rfl (lv_at hl 4 rfl) ?_
          refine lv_iconst (v := 4) hx hb dL_change_129 (by decide) ?_
          refine lv_ishr hx hb dL_change_130 ?_
          refine lv_iconst (v := 2) hx hb dL_change_131 (by decide) ?_
          refine gm_ci (gm_callS (As := [.int (a2 >>> (4 &&& 31)), .int 2]) (rest := [.ref β]) ⟨hx, hb, hml, hown, hts⟩ hK (c_L_part l D cy (a2 >>> (4 &&& 31)) 2 (by decide)) (va_cwS 2 hts (kIn ks_part) rfl rfl rfl (by decide +kernel) ⟨Nat.le_of_ble_eq_true rfl, Nat.le_of_ble_eq_true rfl⟩) trivial rfl hl.1 rfl (Nat.le_of_ble_eq_true rfl) dL_change_132 (Nat.zero_le _) (Nat.zero_le _)) hS (fun _ h => h.elim) (fun H locs _ _ hfr hS => ?_)
          have hR := gRep.keep hR hfr (fun _ _ h => h)
          refine lv_iload_n hx hb dL_change_135 rfl (lv_at hl 4 rfl) ?_
          refine lv_bipush (v := 6) hx hb dL_change_136 (by decide) ?_
          refine lv_ishr hx hb dL_change_138 ?_
          refine lv_bipush (v := 23) hx hb dL_change_139 (by decide) ?_
          refine gm_ci (gm_callS (As := [.int (a2 >>> (6 &&& 31)), .int 23]) (rest := [.int (f_L_part (a2 >>> (4 &&& 31)) 2), .ref β]) ⟨hx, hb, hml, hown, hts⟩ hK (c_L_part l D cy (a2 >>> (6 &&& 31)) 23 (by decide)) (va_cwS 2 hts (kIn ks_part) rfl rfl rfl (by decide +kernel) ⟨Nat.le_of_ble_eq_true rfl, Nat.le_of_ble_eq_true rfl⟩) trivial rfl hl.1 rfl (Nat.le_of_ble_eq_true rfl) dL_change_141 (Nat.zero_le _) (Nat.zero_le _)) hS (fun _ h => h.elim) (fun H locs _ _ hfr hS => ?_)
          have hR := gRep.keep hR hfr (fun _ _ h => h)
          refine lv_bipush (v := 11) hx hb dL_change_144 (by decide) ?_
          refine lv_isub hx hb dL_change_146 ?_
          refine gm_ci (gm_call (As := [.int (f_L_part (a2 >>> (4 &&& 31)) 2), .int ((f_L_part (a2 >>> (6 &&& 31)) 23) - 11)]) (rest := []) (ci := 8) (q := (RX8, TX8, 8)) ⟨hx, hb, hml, hown, hts⟩ hK (c_X8_setHeat l D cy β X (f_L_part (a2 >>> (4 &&& 31)) 2) ((f_L_part (a2 >>> (6 &&& 31)) 23) - 11) (Iv.ok hI)) (cwV 2 hts (kIn kv_setHeat) rfl rfl rfl (by decide +kernel) ⟨Nat.le_of_ble_eq_true rfl, Nat.le_of_ble_eq_true rfl⟩) (TR.mk0 hR) rfl hR rfl hl.1 rfl (Nat.le_of_ble_eq_true rfl) dL_change_147 (Nat.zero_le _) (Nat.zero_le _)) hS (fun _ h => h) (fun H locs hR _ _ hS => ?_)
          obtain ⟨X16, eX16⟩ : ∃ Y : gM, Y = (p_X8_setHeat X (f_L_part (a2 >>> (4 &&& 31)) 2) ((f_L_part (a2 >>> (6 &&& 31)) 23) - 11)).2 := ⟨_, rfl⟩
          rw [← eX16] at hR
          have iX16 : Iv X16 := by rw [eX16]; exact I_setHeat hI (f_L_part (a2 >>> (4 &&& 31)) 2) ((f_L_part (a2 >>> (6 &&& 31)) 23) - 11)
          exact gm_iret hx hb hr hlocks hS (by (try simp only [p_L_change, ↓if_pos c_1, ↓if_pos c_15, ↓if_neg c_16, ↓if_pos c_17, ← eX16]); (try rfl)) (by (try simp only [p_L_change, ↓if_pos c_1, ↓if_pos c_15, ↓if_neg c_16, ↓if_pos c_17, ← eX16]); exact hR) dL_change_150
        · skip
          rcases Decidable.em (f_L_part a2 15 = 6) with c_18 | c_18
          · refine lv_tableIn (tgt := 151) hx hb dL_change_46 (by rw [c_18]; decide) (by rw [c_18]; decide) (by rw [c_18]; rfl) (by decide) ?_
            refine lv_iload_n hx hb dL_change_151 rfl (lv_at hl 4 rfl) ?_
            refine lv_bipush (v := 7) hx hb dL_change_152 (by decide) ?_
            refine lv_ishr hx hb dL_change_154 ?_
            refine lv_iconst (v := 2) hx hb dL_change_155 (by decide) ?_
            refine gm_ci (gm_callS (As := [.int (a2 >>> (7 &&& 31)), .int 2]) (rest := []) ⟨hx, hb, hml, hown, hts⟩ hK (c_L_part l D cy (a2 >>> (7 &&& 31)) 2 (by decide)) (va_cwS 2 hts (kIn ks_part) rfl rfl rfl (by decide +kernel) ⟨Nat.le_of_ble_eq_true rfl, Nat.le_of_ble_eq_true rfl⟩) trivial rfl hl.1 rfl (Nat.le_of_ble_eq_true rfl) dL_change_156 (Nat.zero_le _) (Nat.zero_le _)) hS (fun _ h => h.elim) (fun H locs _ _ hfr hS => ?_)
            have hR := gRep.keep hR hfr (fun _ _ h => h)
            refine lv_if_ne (tgt := 177) hx hb dL_change_159 (by decide) (fun c_19 => ?_) (fun c_19 => ?_)
            · refine lv_aload_n hx hb dL_change_177 rfl (lv_at hl 3 rfl) ?_
              refine lv_iload_n hx hb dL_change_178 rfl (lv_at hl 4 rfl) ?_
              refine lv_iconst (v := 4) hx hb dL_change_179 (by decide) ?_
              refine lv_ishr hx hb dL_change_180 ?_
              refine lv_bipush (v := 9) hx hb dL_change_181 (by decide) ?_
              refine gm_ci (gm_callS (As := [.int (a2 >>> (4 &&& 31)), .int 9]) (rest := [.ref β]) ⟨hx, hb, hml, hown, hts⟩ hK (c_L_part l D cy (a2 >>> (4 &&& 31)) 9 (by decide)) (va_cwS 2 hts (kIn ks_part) rfl rfl rfl (by decide +kernel) ⟨Nat.le_of_ble_eq_true rfl, Nat.le_of_ble_eq_true rfl⟩) trivial rfl hl.1 rfl (Nat.le_of_ble_eq_true rfl) dL_change_183 (Nat.zero_le _) (Nat.zero_le _)) hS (fun _ h => h.elim) (fun H locs _ _ hfr hS => ?_)
              have hR := gRep.keep hR hfr (fun _ _ h => h)
              refine gm_ci (gm_call (As := [.int (f_L_part (a2 >>> (4 &&& 31)) 9)]) (rest := []) (ci := 8) (q := (RX8, TX8, 8)) ⟨hx, hb, hml, hown, hts⟩ hK (c_X8_setPatience l D cy β X (f_L_part (a2 >>> (4 &&& 31)) 9) (Iv.ok hI)) (cwV 1 hts (kIn kv_setPatience) rfl rfl rfl (by decide +kernel) ⟨Nat.le_of_ble_eq_true rfl, Nat.le_of_ble_eq_true rfl⟩) (TR.mk0 hR) rfl hR rfl hl.1 rfl (Nat.le_of_ble_eq_true rfl) dL_change_186 (Nat.zero_le _) (Nat.zero_le _)) hS (fun _ h => h) (fun H locs hR _ _ hS => ?_)
              obtain ⟨X17, eX17⟩ : ∃ Y : gM, Y = (p_X8_setPatience X (f_L_part (a2 >>> (4 &&& 31)) 9)).2 := ⟨_, rfl⟩
              rw [← eX17] at hR
              have iX17 : Iv X17 := by rw [eX17]; exact I_setPatience hI (f_L_part (a2 >>> (4 &&& 31)) 9)
              exact gm_iret hx hb hr hlocks hS (by (try simp only [p_L_change, ↓if_pos c_1, ↓if_pos c_15, ↓if_neg c_16, ↓if_neg c_17, ↓if_pos c_18, ↓if_neg c_19, ← eX17]); (try rfl)) (by (try simp only [p_L_change, ↓if_pos c_1, ↓if_pos c_15, ↓if_neg c_16, ↓if_neg c_17, ↓if_pos c_18, ↓if_neg c_19, ← eX17]); exact hR) dL_change_189
            · refine lv_aload_n hx hb dL_change_162 rfl (lv_at hl 3 rfl) ?_
              refine lv_iload_n hx hb dL_change_163 rfl (lv_at hl 4 rfl) ?_
              refine lv_iconst (v := 4) hx hb dL_change_164 (by decide) ?_
              refine lv_ishr hx hb dL_change_165 ?_
              refine lv_bipush (v := 40) hx hb dL_change_166 (by decide) ?_
              refine gm_ci (gm_callS (As := [.int (a2 >>> (4 &&& 31)), .int 40]) (rest := [.ref β]) ⟨hx, hb, hml, hown, hts⟩ hK (c_L_part l D cy (a2 >>> (4 &&& 31)) 40 (by decide)) (va_cwS 2 hts (kIn ks_part) rfl rfl rfl (by decide +kernel) ⟨Nat.le_of_ble_eq_true rfl, Nat.le_of_ble_eq_true rfl⟩) trivial rfl hl.1 rfl (Nat.le_of_ble_eq_true rfl) dL_change_168 (Nat.zero_le _) (Nat.zero_le _)) hS (fun _ h => h.elim) (fun H locs _ _ hfr hS => ?_)
              have hR := gRep.keep hR hfr (fun _ _ h => h)
              refine gm_ci (gm_call (As := [.int (f_L_part (a2 >>> (4 &&& 31)) 40)]) (rest := []) (ci := 8) (q := (RX8, TX8, 8)) ⟨hx, hb, hml, hown, hts⟩ hK (c_X8_setFare l D cy β X (f_L_part (a2 >>> (4 &&& 31)) 40) (Iv.ok hI)) (cwV 1 hts (kIn kv_setFare) rfl rfl rfl (by decide +kernel) ⟨Nat.le_of_ble_eq_true rfl, Nat.le_of_ble_eq_true rfl⟩) (TR.mk0 hR) rfl hR rfl hl.1 rfl (Nat.le_of_ble_eq_true rfl) dL_change_171 (Nat.zero_le _) (Nat.zero_le _)) hS (fun _ h => h) (fun H locs hR _ _ hS => ?_)
              obtain ⟨X18, eX18⟩ : ∃ Y : gM, Y = (p_X8_setFare X (f_L_part (a2 >>> (4 &&& 31)) 40)).2 := ⟨_, rfl⟩
              rw [← eX18] at hR
              have iX18 : Iv X18 := by rw [eX18]; exact I_setFare hI (f_L_part (a2 >>> (4 &&& 31)) 40)
              refine lv_goto (tgt := 189) hx hb dL_change_174 (by decide) ?_
              exact gm_iret hx hb hr hlocks hS (by (try simp only [p_L_change, ↓if_pos c_1, ↓if_pos c_15, ↓if_neg c_16, ↓if_neg c_17, ↓if_pos c_18, ↓if_pos c_19, ← eX18]); (try rfl)) (by (try simp only [p_L_change, ↓if_pos c_1, ↓if_pos c_15, ↓if_neg c_16, ↓if_neg c_17, ↓if_pos c_18, ↓if_pos c_19, ← eX18]); exact hR) dL_change_189
          · skip
            rcases Decidable.em (f_L_part a2 15 = 7) with c_20 | c_20
            · refine lv_tableIn (tgt := 190) hx hb dL_change_46 (by rw [c_20]; decide) (by rw [c_20]; decide) (by rw [c_20]; rfl) (by decide) ?_
              refine lv_aload_n hx hb dL_change_190 rfl (lv_at hl 3 rfl) ?_
              refine lv_iload_n hx hb dL_change_191 rfl (lv_at hl 4 rfl) ?_
              refine lv_iconst (v := 4) hx hb dL_change_192 (by decide) ?_
              refine lv_ishr hx hb dL_change_193 ?_
              refine lv_iconst (v := 2) hx hb dL_change_194 (by decide) ?_
              refine gm_ci (gm_callS (As := [.int (a2 >>> (4 &&& 31)), .int 2]) (rest := [.ref β]) ⟨hx, hb, hml, hown, hts⟩ hK (c_L_part l D cy (a2 >>> (4 &&& 31)) 2 (by decide)) (va_cwS 2 hts (kIn ks_part) rfl rfl rfl (by decide +kernel) ⟨Nat.le_of_ble_eq_true rfl, Nat.le_of_ble_eq_true rfl⟩) trivial rfl hl.1 rfl (Nat.le_of_ble_eq_true rfl) dL_change_195 (Nat.zero_le _) (Nat.zero_le _)) hS (fun _ h => h.elim) (fun H locs _ _ hfr hS => ?_)
              have hR := gRep.keep hR hfr (fun _ _ h => h)
              refine gm_ci (gm_call (As := [.int (f_L_part (a2 >>> (4 &&& 31)) 2)]) (rest := []) (ci := 8) (q := (RX8, TX8, 8)) ⟨hx, hb, hml, hown, hts⟩ hK (c_X8_drain l D cy β X (f_L_part (a2 >>> (4 &&& 31)) 2) (Iv.ok hI)) (cwV 1 hts (kIn kv_drain) rfl rfl rfl (by decide +kernel) ⟨Nat.le_of_ble_eq_true rfl, Nat.le_of_ble_eq_true rfl⟩) (TR.mk0 hR) rfl hR rfl hl.1 rfl (Nat.le_of_ble_eq_true rfl) dL_change_198 (Nat.zero_le _) (Nat.zero_le _)) hS (fun _ h => h) (fun H locs hR _ _ hS => ?_)
              obtain ⟨X19, eX19⟩ : ∃ Y : gM, Y = (p_X8_drain X (f_L_part (a2 >>> (4 &&& 31)) 2)).2 := ⟨_, rfl⟩
              rw [← eX19] at hR
              have iX19 : Iv X19 := by rw [eX19]; exact I_drain hI (f_L_part (a2 >>> (4 &&& 31)) 2)
              exact gm_iret hx hb hr hlocks hS (by (try simp only [p_L_change, ↓if_pos c_1, ↓if_pos c_15, ↓if_neg c_16, ↓if_neg c_17, ↓if_neg c_18, ↓if_pos c_20, ← eX19]); (try rfl)) (by (try simp only [p_L_change, ↓if_pos c_1, ↓if_pos c_15, ↓if_neg c_16, ↓if_neg c_17, ↓if_neg c_18, ↓if_pos c_20, ← eX19]); exact hR) dL_change_201
            · skip
              rcases Decidable.em (f_L_part a2 15 = 8) with c_21 | c_21
              · refine lv_tableIn (tgt := 202) hx hb dL_change_46 (by rw [c_21]; decide) (by rw [c_21]; decide) (by rw [c_21]; rfl) (by decide) ?_
                refine lv_aload_n hx hb dL_change_202 rfl (lv_at hl 3 rfl) ?_
                refine lv_iload hx hb dL_change_203 (lv_at hl 0 rfl) ?_
                refine gm_ci (gm_call (As := [.int 0]) (rest := []) (ci := 8) (q := (RX8, TX8, 8)) ⟨hx, hb, hml, hown, hts⟩ hK (c_X8_cancel l D cy β X 0 (Iv.ok hI)) (cwV 1 hts (kIn kv_cancel) rfl rfl rfl (by decide +kernel) ⟨Nat.le_of_ble_eq_true rfl, Nat.le_of_ble_eq_true rfl⟩) (TR.mk0 hR) rfl hR rfl hl.1 rfl (Nat.le_of_ble_eq_true rfl) dL_change_205 (Nat.zero_le _) (Nat.zero_le _)) hS (fun _ h => h) (fun H locs hR _ _ hS => ?_)
                obtain ⟨X20, eX20⟩ : ∃ Y : gM, Y = (p_X8_cancel X 0).2 := ⟨_, rfl⟩
                rw [← eX20] at hR
                have iX20 : Iv X20 := by rw [eX20]; exact I_cancel hI 0
                exact gm_iret hx hb hr hlocks hS (by (try simp only [p_L_change, ↓if_pos c_1, ↓if_pos c_15, ↓if_neg c_16, ↓if_neg c_17, ↓if_neg c_18, ↓if_neg c_20, ↓if_pos c_21, ← eX20]); (try rfl)) (by (try simp only [p_L_change, ↓if_pos c_1, ↓if_pos c_15, ↓if_neg c_16, ↓if_neg c_17, ↓if_neg c_18, ↓if_neg c_20, ↓if_pos c_21, ← eX20]); exact hR) dL_change_208
              · skip
                rcases Decidable.em (f_L_part a2 15 = 9) with c_22 | c_22
                · refine lv_tableIn (tgt := 209) hx hb dL_change_46 (by rw [c_22]; decide) (by rw [c_22]; decide) (by rw [c_22]; rfl) (by decide) ?_
                  refine lv_aload_n hx hb dL_change_209 rfl (lv_at hl 3 rfl) ?_
                  refine lv_iload_n hx hb dL_change_210 rfl (lv_at hl 1 rfl) ?_
                  refine lv_iload_n hx hb dL_change_211 rfl (lv_at hl 4 rfl) ?_
                  refine lv_bipush (v := 7) hx hb dL_change_212 (by decide) ?_
                  refine lv_ishr hx hb dL_change_214 ?_
                  refine lv_bipush (v := 30) hx hb dL_change_215 (by decide) ?_
                  refine gm_ci (gm_callS (As := [.int (a2 >>> (7 &&& 31)), .int 30]) (rest := [.int (f_L_placeOf X (a2 >>> (4 &&& 31))), .ref β]) ⟨hx, hb, hml, hown, hts⟩ hK (c_L_part l D cy (a2 >>> (7 &&& 31)) 30 (by decide)) (va_cwS 2 hts (kIn ks_part) rfl rfl rfl (by decide +kernel) ⟨Nat.le_of_ble_eq_true rfl, Nat.le_of_ble_eq_true rfl⟩) trivial rfl hl.1 rfl (Nat.le_of_ble_eq_true rfl) dL_change_217 (Nat.zero_le _) (Nat.zero_le _)) hS (fun _ h => h.elim) (fun H locs _ _ hfr hS => ?_)
                  have hR := gRep.keep hR hfr (fun _ _ h => h)
                  refine gm_ci (gm_call (As := [.int (f_L_placeOf X (a2 >>> (4 &&& 31))), .int (f_L_part (a2 >>> (7 &&& 31)) 30)]) (rest := []) (ci := 8) (q := (RX8, TX8, 8)) ⟨hx, hb, hml, hown, hts⟩ hK (c_X8_call l D cy β X (f_L_placeOf X (a2 >>> (4 &&& 31))) (f_L_part (a2 >>> (7 &&& 31)) 30) (Iv.ok hI)) (cwV 2 hts (kIn kv_call) rfl rfl rfl (by decide +kernel) ⟨Nat.le_of_ble_eq_true rfl, Nat.le_of_ble_eq_true rfl⟩) (TR.mk0 hR) rfl hR rfl hl.1 rfl (Nat.le_of_ble_eq_true rfl) dL_change_220 (Nat.zero_le _) (Nat.zero_le _)) hS (fun _ h => h) (fun H locs hR _ _ hS => ?_)
                  obtain ⟨X21, eX21⟩ : ∃ Y : gM, Y = (p_X8_call X (f_L_placeOf X (a2 >>> (4 &&& 31))) (f_L_part (a2 >>> (7 &&& 31)) 30)).2 := ⟨_, rfl⟩
                  rw [← eX21] at hR
                  have iX21 : Iv X21 := by rw [eX21]; exact I_call hI (f_L_placeOf X (a2 >>> (4 &&& 31))) (f_L_part (a2 >>> (7 &&& 31)) 30)
                  exact gm_iret hx hb hr hlocks hS (by (try simp only [p_L_change, ↓if_pos c_1, ↓if_pos c_15, ↓if_neg c_16, ↓if_neg c_17, ↓if_neg c_18, ↓if_neg c_20, ↓if_neg c_21, ↓if_pos c_22, ← eX21]); (try rfl)) (by (try simp only [p_L_change, ↓if_pos c_1, ↓if_pos c_15, ↓if_neg c_16, ↓if_neg c_17, ↓if_neg c_18, ↓if_neg c_20, ↓if_neg c_21, ↓if_pos c_22, ← eX21]); exact hR) dL_change_223
                · skip
                  rcases Decidable.em (f_L_part a2 15 = 10) with c_23 | c_23
                  · refine lv_tableIn (tgt := 224) hx hb dL_change_46 (by rw [c_23]; decide) (by rw [c_23]; decide) (by rw [c_23]; rfl) (by decide) ?_
                    refine lv_aload_n hx hb dL_change_224 rfl (lv_at hl 3 rfl) ?_
                    refine lv_iload_n hx hb dL_change_225 rfl (lv_at hl 1 rfl) ?_
                    refine gm_ci (gm_call (As := [.int (f_L_placeOf X (a2 >>> (4 &&& 31)))]) (rest := []) (ci := 8) (q := (RX8, TX8, 8)) ⟨hx, hb, hml, hown, hts⟩ hK (c_X8_callBack l D cy β X (f_L_placeOf X (a2 >>> (4 &&& 31))) (Iv.ok hI)) (cwV 1 hts (kIn kv_callBack) rfl rfl rfl (by decide +kernel) ⟨Nat.le_of_ble_eq_true rfl, Nat.le_of_ble_eq_true rfl⟩) (TR.mk0 hR) rfl hR rfl hl.1 rfl (Nat.le_of_ble_eq_true rfl) dL_change_226 (Nat.zero_le _) (Nat.zero_le _)) hS (fun _ h => h) (fun H locs hR _ _ hS => ?_)
                    obtain ⟨X22, eX22⟩ : ∃ Y : gM, Y = (p_X8_callBack X (f_L_placeOf X (a2 >>> (4 &&& 31)))).2 := ⟨_, rfl⟩
                    rw [← eX22] at hR
                    have iX22 : Iv X22 := by rw [eX22]; exact I_callBack hI (f_L_placeOf X (a2 >>> (4 &&& 31)))
                    exact gm_iret hx hb hr hlocks hS (by (try simp only [p_L_change, ↓if_pos c_1, ↓if_pos c_15, ↓if_neg c_16, ↓if_neg c_17, ↓if_neg c_18, ↓if_neg c_20, ↓if_neg c_21, ↓if_neg c_22, ↓if_pos c_23, ← eX22]); (try rfl)) (by (try simp only [p_L_change, ↓if_pos c_1, ↓if_pos c_15, ↓if_neg c_16, ↓if_neg c_17, ↓if_neg c_18, ↓if_neg c_20, ↓if_neg c_21, ↓if_neg c_22, ↓if_pos c_23, ← eX22]); exact hR) dL_change_229
                  · skip
                    rcases Decidable.em (f_L_part a2 15 = 11) with c_24 | c_24
                    · refine lv_tableIn (tgt := 230) hx hb dL_change_46 (by rw [c_24]; decide) (by rw [c_24]; decide) (by rw [c_24]; rfl) (by decide) ?_
                      refine lv_aload_n hx hb dL_change_230 rfl (lv_at hl 3 rfl) ?_
                      refine lv_iload hx hb dL_change_231 (lv_at hl 0 rfl) ?_
                      refine lv_iload_n hx hb dL_change_233 rfl (lv_at hl 4 rfl) ?_
                      refine lv_bipush (v := 7) hx hb dL_change_234 (by decide) ?_
                      refine lv_ishr hx hb dL_change_236 ?_
                      refine lv_bipush (v := 9) hx hb dL_change_237 (by decide) ?_
                      refine gm_ci (gm_callS (As := [.int (a2 >>> (7 &&& 31)), .int 9]) (rest := [.int 0, .ref β]) ⟨hx, hb, hml, hown, hts⟩ hK (c_L_part l D cy (a2 >>> (7 &&& 31)) 9 (by decide)) (va_cwS 2 hts (kIn ks_part) rfl rfl rfl (by decide +kernel) ⟨Nat.le_of_ble_eq_true rfl, Nat.le_of_ble_eq_true rfl⟩) trivial rfl hl.1 rfl (Nat.le_of_ble_eq_true rfl) dL_change_239 (Nat.zero_le _) (Nat.zero_le _)) hS (fun _ h => h.elim) (fun H locs _ _ hfr hS => ?_)
                      have hR := gRep.keep hR hfr (fun _ _ h => h)
                      refine gm_ci (gm_call (As := [.int 0, .int (f_L_part (a2 >>> (7 &&& 31)) 9)]) (rest := []) (ci := 8) (q := (RX8, TX8, 8)) ⟨hx, hb, hml, hown, hts⟩ hK (c_X8_order l D cy β X 0 (f_L_part (a2 >>> (7 &&& 31)) 9) (Iv.ok hI)) (cwV 2 hts (kIn kv_order) rfl rfl rfl (by decide +kernel) ⟨Nat.le_of_ble_eq_true rfl, Nat.le_of_ble_eq_true rfl⟩) (TR.mk0 hR) rfl hR rfl hl.1 rfl (Nat.le_of_ble_eq_true rfl) dL_change_242 (Nat.zero_le _) (Nat.zero_le _)) hS (fun _ h => h) (fun H locs hR _ _ hS => ?_)
                      obtain ⟨X23, eX23⟩ : ∃ Y : gM, Y = (p_X8_order X 0 (f_L_part (a2 >>> (7 &&& 31)) 9)).2 := ⟨_, rfl⟩
                      rw [← eX23] at hR
                      have iX23 : Iv X23 := by rw [eX23]; exact I_order hI 0 (f_L_part (a2 >>> (7 &&& 31)) 9)
                      exact gm_iret hx hb hr hlocks hS (by (try simp only [p_L_change, ↓if_pos c_1, ↓if_pos c_15, ↓if_neg c_16, ↓if_neg c_17, ↓if_neg c_18, ↓if_neg c_20, ↓if_neg c_21, ↓if_neg c_22, ↓if_neg c_23, ↓if_pos c_24, ← eX23]); (try rfl)) (by (try simp only [p_L_change, ↓if_pos c_1, ↓if_pos c_15, ↓if_neg c_16, ↓if_neg c_17, ↓if_neg c_18, ↓if_neg c_20, ↓if_neg c_21, ↓if_neg c_22, ↓if_neg c_23, ↓if_pos c_24, ← eX23]); exact hR) dL_change_245
                    · skip
                      rcases Decidable.em (f_L_part a2 15 = 12) with c_25 | c_25
                      · refine lv_tableIn (tgt := 246) hx hb dL_change_46 (by rw [c_25]; decide) (by rw [c_25]; decide) (by rw [c_25]; rfl) (by decide) ?_
                        refine lv_aload_n hx hb dL_change_246 rfl (lv_at hl 3 rfl) ?_
                        refine lv_iload_n hx hb dL_change_247 rfl (lv_at hl 4 rfl) ?_
                        refine lv_bipush (v := 7) hx hb dL_change_248 (by decide) ?_
                        refine lv_ishr hx hb dL_change_250 ?_
                        refine lv_iconst (v := 4) hx hb dL_change_251 (by decide) ?_
                        refine gm_ci (gm_callS (As := [.int (a2 >>> (7 &&& 31)), .int 4]) (rest := [.ref β]) ⟨hx, hb, hml, hown, hts⟩ hK (c_L_part l D cy (a2 >>> (7 &&& 31)) 4 (by decide)) (va_cwS 2 hts (kIn ks_part) rfl rfl rfl (by decide +kernel) ⟨Nat.le_of_ble_eq_true rfl, Nat.le_of_ble_eq_true rfl⟩) trivial rfl hl.1 rfl (Nat.le_of_ble_eq_true rfl) dL_change_252 (Nat.zero_le _) (Nat.zero_le _)) hS (fun _ h => h.elim) (fun H locs _ _ hfr hS => ?_)
                        have hR := gRep.keep hR hfr (fun _ _ h => h)
                        refine gm_ci (gm_call (As := [.int (f_L_part (a2 >>> (7 &&& 31)) 4)]) (rest := []) (ci := 8) (q := (RX8, TX8, 8)) ⟨hx, hb, hml, hown, hts⟩ hK (c_X8_endOrder l D cy β X (f_L_part (a2 >>> (7 &&& 31)) 4) (Iv.ok hI)) (cwV 1 hts (kIn kv_endOrder) rfl rfl rfl (by decide +kernel) ⟨Nat.le_of_ble_eq_true rfl, Nat.le_of_ble_eq_true rfl⟩) (TR.mk0 hR) rfl hR rfl hl.1 rfl (Nat.le_of_ble_eq_true rfl) dL_change_255 (Nat.zero_le _) (Nat.zero_le _)) hS (fun _ h => h) (fun H locs hR _ _ hS => ?_)
                        obtain ⟨X24, eX24⟩ : ∃ Y : gM, Y = (p_X8_endOrder X (f_L_part (a2 >>> (7 &&& 31)) 4)).2 := ⟨_, rfl⟩
                        rw [← eX24] at hR
                        have iX24 : Iv X24 := by rw [eX24]; exact I_endOrder hI (f_L_part (a2 >>> (7 &&& 31)) 4)
                        exact gm_iret hx hb hr hlocks hS (by (try simp only [p_L_change, ↓if_pos c_1, ↓if_pos c_15, ↓if_neg c_16, ↓if_neg c_17, ↓if_neg c_18, ↓if_neg c_20, ↓if_neg c_21, ↓if_neg c_22, ↓if_neg c_23, ↓if_neg c_24, ↓if_pos c_25, ← eX24]); (try rfl)) (by (try simp only [p_L_change, ↓if_pos c_1, ↓if_pos c_15, ↓if_neg c_16, ↓if_neg c_17, ↓if_neg c_18, ↓if_neg c_20, ↓if_neg c_21, ↓if_neg c_22, ↓if_neg c_23, ↓if_neg c_24, ↓if_pos c_25, ← eX24]); exact hR) dL_change_258
                      · skip
                        rcases Decidable.em (f_L_part a2 15 = 13) with c_26 | c_26
                        · refine lv_tableIn (tgt := 259) hx hb dL_change_46 (by rw [c_26]; decide) (by rw [c_26]; decide) (by rw [c_26]; rfl) (by decide) ?_
                          refine lv_aload_n hx hb dL_change_259 rfl (lv_at hl 3 rfl) ?_
                          refine lv_iconst (v := 1) hx hb dL_change_260 (by decide) ?_
                          refine lv_iload_n hx hb dL_change_261 rfl (lv_at hl 4 rfl) ?_
                          refine lv_bipush (v := 6) hx hb dL_change_262 (by decide) ?_
                          refine lv_ishr hx hb dL_change_264 ?_
                          refine lv_bipush (v := 9) hx hb dL_change_265 (by decide) ?_
                          refine gm_ci (gm_callS (As := [.int (a2 >>> (6 &&& 31)), .int 9]) (rest := [.int 1, .ref β]) ⟨hx, hb, hml, hown, hts⟩ hK (c_L_part l D cy (a2 >>> (6 &&& 31)) 9 (by decide)) (va_cwS 2 hts (kIn ks_part) rfl rfl rfl (by decide +kernel) ⟨Nat.le_of_ble_eq_true rfl, Nat.le_of_ble_eq_true rfl⟩) trivial rfl hl.1 rfl (Nat.le_of_ble_eq_true rfl) dL_change_267 (Nat.zero_le _) (Nat.zero_le _)) hS (fun _ h => h.elim) (fun H locs _ _ hfr hS => ?_)
                          have hR := gRep.keep hR hfr (fun _ _ h => h)
                          refine lv_iadd hx hb dL_change_270 ?_
                          refine gm_ci (gm_call (As := [.int ((1 : Int32) + (f_L_part (a2 >>> (6 &&& 31)) 9))]) (rest := []) (ci := 8) (q := (RX8, TX8, 8)) ⟨hx, hb, hml, hown, hts⟩ hK (c_X8_tick l D cy β X ((1 : Int32) + (f_L_part (a2 >>> (6 &&& 31)) 9)) (Iv.ok hI)) (cwV 1 hts (kIn kv_tick) rfl rfl rfl (by decide +kernel) ⟨Nat.le_of_ble_eq_true rfl, Nat.le_of_ble_eq_true rfl⟩) (TR.mk0 hR) rfl hR rfl hl.1 rfl (Nat.le_of_ble_eq_true rfl) dL_change_271 (Nat.zero_le _) (Nat.zero_le _)) hS (fun _ h => h) (fun H locs hR _ _ hS => ?_)
                          obtain ⟨X25, eX25⟩ : ∃ Y : gM, Y = (p_X8_tick X ((1 : Int32) + (f_L_part (a2 >>> (6 &&& 31)) 9))).2 := ⟨_, rfl⟩
                          rw [← eX25] at hR
                          have iX25 : Iv X25 := by rw [eX25]; exact I_tick hI ((1 : Int32) + (f_L_part (a2 >>> (6 &&& 31)) 9))
                          exact gm_iret hx hb hr hlocks hS (by (try simp only [p_L_change, ↓if_pos c_1, ↓if_pos c_15, ↓if_neg c_16, ↓if_neg c_17, ↓if_neg c_18, ↓if_neg c_20, ↓if_neg c_21, ↓if_neg c_22, ↓if_neg c_23, ↓if_neg c_24, ↓if_neg c_25, ↓if_pos c_26, ← eX25]); (try rfl)) (by (try simp only [p_L_change, ↓if_pos c_1, ↓if_pos c_15, ↓if_neg c_16, ↓if_neg c_17, ↓if_neg c_18, ↓if_neg c_20, ↓if_neg c_21, ↓if_neg c_22, ↓if_neg c_23, ↓if_neg c_24, ↓if_neg c_25, ↓if_pos c_26, ← eX25]); exact hR) dL_change_274
                        · skip
                          rcases Decidable.em (f_L_part a2 15 = 14) with c_27 | c_27
                          · refine lv_tableIn (tgt := 259) hx hb dL_change_46 (by rw [c_27]; decide) (by rw [c_27]; decide) (by rw [c_27]; rfl) (by decide) ?_
                            refine lv_aload_n hx hb dL_change_259 rfl (lv_at hl 3 rfl) ?_
                            refine lv_iconst (v := 1) hx hb dL_change_260 (by decide) ?_
                            refine lv_iload_n hx hb dL_change_261 rfl (lv_at hl 4 rfl) ?_
                            refine lv_bipush (v := 6) hx hb dL_change_262 (by decide) ?_
                            refine lv_ishr hx hb dL_change_264 ?_
                            refine lv_bipush (v := 9) hx hb dL_change_265 (by decide) ?_
                            refine gm_ci (gm_callS (As := [.int (a2 >>> (6 &&& 31)), .int 9]) (rest := [.int 1, .ref β]) ⟨hx, hb, hml, hown, hts⟩ hK (c_L_part l D cy (a2 >>> (6 &&& 31)) 9 (by decide)) (va_cwS 2 hts (kIn ks_part) rfl rfl rfl (by decide +kernel) ⟨Nat.le_of_ble_eq_true rfl, Nat.le_of_ble_eq_true rfl⟩) trivial rfl hl.1 rfl (Nat.le_of_ble_eq_true rfl) dL_change_267 (Nat.zero_le _) (Nat.zero_le _)) hS (fun _ h => h.elim) (fun H locs _ _ hfr hS => ?_)
                            have hR := gRep.keep hR hfr (fun _ _ h => h)
                            refine lv_iadd hx hb dL_change_270 ?_
                            refine gm_ci (gm_call (As := [.int ((1 : Int32) + (f_L_part (a2 >>> (6 &&& 31)) 9))]) (rest := []) (ci := 8) (q := (RX8, TX8, 8)) ⟨hx, hb, hml, hown, hts⟩ hK (c_X8_tick l D cy β X ((1 : Int32) + (f_L_part (a2 >>> (6 &&& 31)) 9)) (Iv.ok hI)) (cwV 1 hts (kIn kv_tick) rfl rfl rfl (by decide +kernel) ⟨Nat.le_of_ble_eq_true rfl, Nat.le_of_ble_eq_true rfl⟩) (TR.mk0 hR) rfl hR rfl hl.1 rfl (Nat.le_of_ble_eq_true rfl) dL_change_271 (Nat.zero_le _) (Nat.zero_le _)) hS (fun _ h => h) (fun H locs hR _ _ hS => ?_)
                            obtain ⟨X26, eX26⟩ : ∃ Y : gM, Y = (p_X8_tick X ((1 : Int32) + (f_L_part (a2 >>> (6 &&& 31)) 9))).2 := ⟨_, rfl⟩
                            rw [← eX26] at hR
                            have iX26 : Iv X26 := by rw [eX26]; exact I_tick hI ((1 : Int32) + (f_L_part (a2 >>> (6 &&& 31)) 9))
                            exact gm_iret hx hb hr hlocks hS (by (try simp only [p_L_change, ↓if_pos c_1, ↓if_pos c_15, ↓if_neg c_16, ↓if_neg c_17, ↓if_neg c_18, ↓if_neg c_20, ↓if_neg c_21, ↓if_neg c_22, ↓if_neg c_23, ↓if_neg c_24, ↓if_neg c_25, ↓if_neg c_26, ↓if_pos c_27, ← eX26]); (try rfl)) (by (try simp only [p_L_change, ↓if_pos c_1, ↓if_pos c_15, ↓if_neg c_16, ↓if_neg c_17, ↓if_neg c_18, ↓if_neg c_20, ↓if_neg c_21, ↓if_neg c_22, ↓if_neg c_23, ↓if_neg c_24, ↓if_neg c_25, ↓if_neg c_26, ↓if_pos c_27, ← eX26]); exact hR) dL_change_274
                          · skip
                            refine lv_tableOut (tgt := 275) hx hb dL_change_46 (g_sw4_14 c_16 c_17 c_18 c_20 c_21 c_22 c_23 c_24 c_25 c_26 c_27) (by decide) ?_
                            refine lv_aload_n hx hb dL_change_275 rfl (lv_at hl 3 rfl) ?_
                            refine lv_iload_n hx hb dL_change_276 rfl (lv_at hl 4 rfl) ?_
                            refine lv_iconst (v := 3) hx hb dL_change_277 (by decide) ?_
                            refine lv_ishr hx hb dL_change_278 ?_
                            refine lv_bipush (v := 30) hx hb dL_change_279 (by decide) ?_
                            refine gm_ci (gm_callS (As := [.int (a2 >>> (3 &&& 31)), .int 30]) (rest := [.ref β]) ⟨hx, hb, hml, hown, hts⟩ hK (c_L_part l D cy (a2 >>> (3 &&& 31)) 30 (by decide)) (va_cwS 2 hts (kIn ks_part) rfl rfl rfl (by decide +kernel) ⟨Nat.le_of_ble_eq_true rfl, Nat.le_of_ble_eq_true rfl⟩) trivial rfl hl.1 rfl (Nat.le_of_ble_eq_true rfl) dL_change_281 (Nat.zero_le _) (Nat.zero_le _)) hS (fun _ h => h.elim) (fun H locs _ _ hfr hS => ?_)
                            have hR := gRep.keep hR hfr (fun _ _ h => h)
                            refine lv_iconst (v := 1) hx hb dL_change_284 (by decide) ?_
                            refine lv_iload_n hx hb dL_change_285 rfl (lv_at hl 4 rfl) ?_
                            refine lv_bipush (v := 6) hx hb dL_change_286 (by decide) ?_
                            refine lv_ishr hx hb dL_change_288 ?_
                            refine lv_iconst (v := 3) hx hb dL_change_289 (by decide) ?_
                            refine gm_ci (gm_callS (As := [.int (a2 >>> (6 &&& 31)), .int 3]) (rest := [.int 1, .int (f_L_part (a2 >>> (3 &&& 31)) 30), .ref β]) ⟨hx, hb, hml, hown, hts⟩ hK (c_L_part l D cy (a2 >>> (6 &&& 31)) 3 (by decide)) (va_cwS 2 hts (kIn ks_part) rfl rfl rfl (by decide +kernel) ⟨Nat.le_of_ble_eq_true rfl, Nat.le_of_ble_eq_true rfl⟩) trivial rfl hl.1 rfl (Nat.le_of_ble_eq_true rfl) dL_change_290 (Nat.zero_le _) (Nat.zero_le _)) hS (fun _ h => h.elim) (fun H locs _ _ hfr hS => ?_)
                            have hR := gRep.keep hR hfr (fun _ _ h => h)
                            refine lv_iadd hx hb dL_change_293 ?_
                            refine lv_iload_n hx hb dL_change_294 rfl (lv_at hl 1 rfl) ?_
                            refine lv_aload_n hx hb dL_change_295 rfl (lv_at hl 3 rfl) ?_
                            refine lv_iload_n hx hb dL_change_296 rfl (lv_at hl 4 rfl) ?_
                            refine lv_bipush (v := 8) hx hb dL_change_297 (by decide) ?_
                            refine lv_ishr hx hb dL_change_299 ?_
                            refine gm_ci (gm_callS (As := [.ref β, .int (a2 >>> (8 &&& 31))]) (rest := [.int (f_L_placeOf X (a2 >>> (4 &&& 31))), .int ((1 : Int32) + (f_L_part (a2 >>> (6 &&& 31)) 3)), .int (f_L_part (a2 >>> (3 &&& 31)) 30), .ref β]) ⟨hx, hb, hml, hown, hts⟩ hK (c_L_placeOf l D cy β X (a2 >>> (8 &&& 31))) (va_cwS 2 hts (kIn ks_placeOf) rfl rfl rfl (by decide +kernel) ⟨Nat.le_of_ble_eq_true rfl, Nat.le_of_ble_eq_true rfl⟩) hR rfl hl.1 rfl (Nat.le_of_ble_eq_true rfl) dL_change_300 (Nat.zero_le _) (Nat.zero_le _)) hS (fun _ h => h.elim) (fun H locs _ _ hfr hS => ?_)
                            have hR := gRep.keep hR hfr (fun _ _ h => h)
                            refine lv_iload_n hx hb dL_change_303 rfl (lv_at hl 4 rfl) ?_
                            refine lv_bipush (v := 9) hx hb dL_change_304 (by decide) ?_
                            refine lv_ishr hx hb dL_change_306 ?_
                            refine lv_bipush (v := 11) hx hb dL_change_307 (by decide) ?_
                            refine gm_ci (gm_callS (As := [.int (a2 >>> (9 &&& 31)), .int 11]) (rest := [.int (f_L_placeOf X (a2 >>> (8 &&& 31))), .int (f_L_placeOf X (a2 >>> (4 &&& 31))), .int ((1 : Int32) + (f_L_part (a2 >>> (6 &&& 31)) 3)), .int (f_L_part (a2 >>> (3 &&& 31)) 30), .ref β]) ⟨hx, hb, hml, hown, hts⟩ hK (c_L_part l D cy (a2 >>> (9 &&& 31)) 11 (by decide)) (va_cwS 2 hts (kIn ks_part) rfl rfl rfl (by decide +kernel) ⟨Nat.le_of_ble_eq_true rfl, Nat.le_of_ble_eq_true rfl⟩) trivial rfl hl.1 rfl (Nat.le_of_ble_eq_true rfl) dL_change_309 (Nat.zero_le _) (Nat.zero_le _)) hS (fun _ h => h.elim) (fun H locs _ _ hfr hS => ?_)
                            have hR := gRep.keep hR hfr (fun _ _ h => h)
                            refine gm_ci (gm_call (As := [.int (f_L_part (a2 >>> (3 &&& 31)) 30), .int ((1 : Int32) + (f_L_part (a2 >>> (6 &&& 31)) 3)), .int (f_L_placeOf X (a2 >>> (4 &&& 31))), .int (f_L_placeOf X (a2 >>> (8 &&& 31))), .int (f_L_part (a2 >>> (9 &&& 31)) 11)]) (rest := []) (ci := 8) (q := (RX8, TX8, 8)) ⟨hx, hb, hml, hown, hts⟩ hK (c_X8_book l D cy β X (f_L_part (a2 >>> (3 &&& 31)) 30) ((1 : Int32) + (f_L_part (a2 >>> (6 &&& 31)) 3)) (f_L_placeOf X (a2 >>> (4 &&& 31))) (f_L_placeOf X (a2 >>> (8 &&& 31))) (f_L_part (a2 >>> (9 &&& 31)) 11) (Iv.ok hI)) (cwV 5 hts (kIn kv_book) rfl rfl rfl (by decide +kernel) ⟨Nat.le_of_ble_eq_true rfl, Nat.le_of_ble_eq_true rfl⟩) (TR.mk0 hR) rfl hR rfl hl.1 rfl (Nat.le_of_ble_eq_true rfl) dL_change_312 (Nat.zero_le _) (Nat.zero_le _)) hS (fun _ h => h) (fun H locs hR _ _ hS => ?_)
                            obtain ⟨X27, eX27⟩ : ∃ Y : gM, Y = (p_X8_book X (f_L_part (a2 >>> (3 &&& 31)) 30) ((1 : Int32) + (f_L_part (a2 >>> (6 &&& 31)) 3)) (f_L_placeOf X (a2 >>> (4 &&& 31))) (f_L_placeOf X (a2 >>> (8 &&& 31))) (f_L_part (a2 >>> (9 &&& 31)) 11)).2 := ⟨_, rfl⟩
                            rw [← eX27] at hR
                            have iX27 : Iv X27 := by rw [eX27]; exact I_book hI (f_L_part (a2 >>> (3 &&& 31)) 30) ((1 : Int32) + (f_L_part (a2 >>> (6 &&& 31)) 3)) (f_L_placeOf X (a2 >>> (4 &&& 31))) (f_L_placeOf X (a2 >>> (8 &&& 31))) (f_L_part (a2 >>> (9 &&& 31)) 11)
                            exact gm_iret hx hb hr hlocks hS (by (try simp only [p_L_change, ↓if_pos c_1, ↓if_pos c_15, ↓if_neg c_16, ↓if_neg c_17, ↓if_neg c_18, ↓if_neg c_20, ↓if_neg c_21, ↓if_neg c_22, ↓if_neg c_23, ↓if_neg c_24, ↓if_neg c_25, ↓if_neg c_26, ↓if_neg c_27, ← eX27]); (try rfl)) (by (try simp only [p_L_change, ↓if_pos c_1, ↓if_pos c_15, ↓if_neg c_16, ↓if_neg c_17, ↓if_neg c_18, ↓if_neg c_20, ↓if_neg c_21, ↓if_neg c_22, ↓if_neg c_23, ↓if_neg c_24, ↓if_neg c_25, ↓if_neg c_26, ↓if_neg c_27, ← eX27]); exact hR) dL_change_315
    · refine lv_iconst (v := 0) hx hb dL_change_36 (by decide) ?_
      refine lv_goto (tgt := 46) hx hb dL_change_37 (by decide) ?_
      refine lv_tableOut (tgt := 275) hx hb dL_change_46 (g_sw4_14 (by decide) (by decide) (by decide) (by decide) (by decide) (by decide) (by decide) (by decide) (by decide) (by decide) (by decide)) (by decide) ?_
      refine lv_aload_n hx hb dL_change_275 rfl (lv_at hl 3 rfl) ?_
      refine lv_iload_n hx hb dL_change_276 rfl (lv_at hl 4 rfl) ?_
      refine lv_iconst (v := 3) hx hb dL_change_277 (by decide) ?_
      refine lv_ishr hx hb dL_change_278 ?_
      refine lv_bipush (v := 30) hx hb dL_change_279 (by decide) ?_
      refine gm_ci (gm_callS (As := [.int (a2 >>> (3 &&& 31)), .int 30]) (rest := [.ref β]) ⟨hx, hb, hml, hown, hts⟩ hK (c_L_part l D cy (a2 >>> (3 &&& 31)) 30 (by decide)) (va_cwS 2 hts (kIn ks_part) rfl rfl rfl (by decide +kernel) ⟨Nat.le_of_ble_eq_true rfl, Nat.le_of_ble_eq_true rfl⟩) trivial rfl hl.1 rfl (Nat.le_of_ble_eq_true rfl) dL_change_281 (Nat.zero_le _) (Nat.zero_le _)) hS (fun _ h => h.elim) (fun H locs _ _ hfr hS => ?_)
      have hR := gRep.keep hR hfr (fun _ _ h => h)
      refine lv_iconst (v := 1) hx hb dL_change_284 (by decide) ?_
      refine lv_iload_n hx hb dL_change_285 rfl (lv_at hl 4 rfl) ?_
      refine lv_bipush (v := 6) hx hb dL_change_286 (by decide) ?_
      refine lv_ishr hx hb dL_change_288 ?_
      refine lv_iconst (v := 3) hx hb dL_change_289 (by decide) ?_
      refine gm_ci (gm_callS (As := [.int (a2 >>> (6 &&& 31)), .int 3]) (rest := [.int 1, .int (f_L_part (a2 >>> (3 &&& 31)) 30), .ref β]) ⟨hx, hb, hml, hown, hts⟩ hK (c_L_part l D cy (a2 >>> (6 &&& 31)) 3 (by decide)) (va_cwS 2 hts (kIn ks_part) rfl rfl rfl (by decide +kernel) ⟨Nat.le_of_ble_eq_true rfl, Nat.le_of_ble_eq_true rfl⟩) trivial rfl hl.1 rfl (Nat.le_of_ble_eq_true rfl) dL_change_290 (Nat.zero_le _) (Nat.zero_le _)) hS (fun _ h => h.elim) (fun H locs _ _ hfr hS => ?_)
      have hR := gRep.keep hR hfr (fun _ _ h => h)
      refine lv_iadd hx hb dL_change_293 ?_
      refine lv_iload_n hx hb dL_change_294 rfl (lv_at hl 1 rfl) ?_
      refine lv_aload_n hx hb dL_change_295 rfl (lv_at hl 3 rfl) ?_
      refine lv_iload_n hx hb dL_change_296 rfl (lv_at hl 4 rfl) ?_
      refine lv_bipush (v := 8) hx hb dL_change_297 (by decide) ?_
      refine lv_ishr hx hb dL_change_299 ?_
      refine gm_ci (gm_callS (As := [.ref β, .int (a2 >>> (8 &&& 31))]) (rest := [.int (f_L_placeOf X (a2 >>> (4 &&& 31))), .int ((1 : Int32) + (f_L_part (a2 >>> (6 &&& 31)) 3)), .int (f_L_part (a2 >>> (3 &&& 31)) 30), .ref β]) ⟨hx, hb, hml, hown, hts⟩ hK (c_L_placeOf l D cy β X (a2 >>> (8 &&& 31))) (va_cwS 2 hts (kIn ks_placeOf) rfl rfl rfl (by decide +kernel) ⟨Nat.le_of_ble_eq_true rfl, Nat.le_of_ble_eq_true rfl⟩) hR rfl hl.1 rfl (Nat.le_of_ble_eq_true rfl) dL_change_300 (Nat.zero_le _) (Nat.zero_le _)) hS (fun _ h => h.elim) (fun H locs _ _ hfr hS => ?_)
      have hR := gRep.keep hR hfr (fun _ _ h => h)
      refine lv_iload_n hx hb dL_change_303 rfl (lv_at hl 4 rfl) ?_
      refine lv_bipush (v := 9) hx hb dL_change_304 (by decide) ?_
      refine lv_ishr hx hb dL_change_306 ?_
      refine lv_bipush (v := 11) hx hb dL_change_307 (by decide) ?_
      refine gm_ci (gm_callS (As := [.int (a2 >>> (9 &&& 31)), .int 11]) (rest := [.int (f_L_placeOf X (a2 >>> (8 &&& 31))), .int (f_L_placeOf X (a2 >>> (4 &&& 31))), .int ((1 : Int32) + (f_L_part (a2 >>> (6 &&& 31)) 3)), .int (f_L_part (a2 >>> (3 &&& 31)) 30), .ref β]) ⟨hx, hb, hml, hown, hts⟩ hK (c_L_part l D cy (a2 >>> (9 &&& 31)) 11 (by decide)) (va_cwS 2 hts (kIn ks_part) rfl rfl rfl (by decide +kernel) ⟨Nat.le_of_ble_eq_true rfl, Nat.le_of_ble_eq_true rfl⟩) trivial rfl hl.1 rfl (Nat.le_of_ble_eq_true rfl) dL_change_309 (Nat.zero_le _) (Nat.zero_le _)) hS (fun _ h => h.elim) (fun H locs _ _ hfr hS => ?_)
      have hR := gRep.keep hR hfr (fun _ _ h => h)
      refine gm_ci (gm_call (As := [.int (f_L_part (a2 >>> (3 &&& 31)) 30), .int ((1 : Int32) + (f_L_part (a2 >>> (6 &&& 31)) 3)), .int (f_L_placeOf X (a2 >>> (4 &&& 31))), .int (f_L_placeOf X (a2 >>> (8 &&& 31))), .int (f_L_part (a2 >>> (9 &&& 31)) 11)]) (rest := []) (ci := 8) (q := (RX8, TX8, 8)) ⟨hx, hb, hml, hown, hts⟩ hK (c_X8_book l D cy β X (f_L_part (a2 >>> (3 &&& 31)) 30) ((1 : Int32) + (f_L_part (a2 >>> (6 &&& 31)) 3)) (f_L_placeOf X (a2 >>> (4 &&& 31))) (f_L_placeOf X (a2 >>> (8 &&& 31))) (f_L_part (a2 >>> (9 &&& 31)) 11) (Iv.ok hI)) (cwV 5 hts (kIn kv_book) rfl rfl rfl (by decide +kernel) ⟨Nat.le_of_ble_eq_true rfl, Nat.le_of_ble_eq_true rfl⟩) (TR.mk0 hR) rfl hR rfl hl.1 rfl (Nat.le_of_ble_eq_true rfl) dL_change_312 (Nat.zero_le _) (Nat.zero_le _)) hS (fun _ h => h) (fun H locs hR _ _ hS => ?_)
      obtain ⟨X28, eX28⟩ : ∃ Y : gM, Y = (p_X8_book X (f_L_part (a2 >>> (3 &&& 31)) 30) ((1 : Int32) + (f_L_part (a2 >>> (6 &&& 31)) 3)) (f_L_placeOf X (a2 >>> (4 &&& 31))) (f_L_placeOf X (a2 >>> (8 &&& 31))) (f_L_part (a2 >>> (9 &&& 31)) 11)).2 := ⟨_, rfl⟩
      rw [← eX28] at hR
      have iX28 : Iv X28 := by rw [eX28]; exact I_book hI (f_L_part (a2 >>> (3 &&& 31)) 30) ((1 : Int32) + (f_L_part (a2 >>> (6 &&& 31)) 3)) (f_L_placeOf X (a2 >>> (4 &&& 31))) (f_L_placeOf X (a2 >>> (8 &&& 31))) (f_L_part (a2 >>> (9 &&& 31)) 11)
      exact gm_iret hx hb hr hlocks hS (by (try simp only [p_L_change, ↓if_pos c_1, ↓if_neg c_15, ← eX28]); (try rfl)) (by (try simp only [p_L_change, ↓if_pos c_1, ↓if_neg c_15, ← eX28]); exact hR) dL_change_315
