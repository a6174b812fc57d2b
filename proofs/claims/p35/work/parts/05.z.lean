def p_X4_init (X : gM) (c : Nat) (a1 : Int32) (a2 : Int32) : gM := updM (updM (updM (updM (newR X (c + 1)) c 3 1) c 0 a1) c 1 (10 * a1 + a2)) c 2 (if a2 = 0 then 1 else 0)
set_option maxHeartbeats 4000000 in
set_option maxRecDepth 100000 in
/-- Station(line, number): its row of values is made behind it -/
theorem c_X4_init (l : Launch) (D : va_G) (cy : Nat → ClassId) (σ : Nat) (X : gM) (c : Nat) (a1 : Int32) (a2 : Int32) (hc : c < 123) (hk : kdS c = 4) : Met l yX4_init wsX4_init ({ frames := 1, cells := 1, slots := 3, locals := 20 }) (gP [.ref (σ + c), .int a1, .int a2] D cy (CR D cy σ (c + 1) X)) (gQv (CR D cy σ (c + 2) (p_X4_init X c a1 a2)) (CA σ)) 1 3 (CA σ) := by
  refine gm_metC (cc := cX4_init) (maxL := 3) (ret := none) [.ref (σ + c), .int a1, .int a2] (by decide) rfl (Nat.le_of_ble_eq_true rfl) ?_
  intro p e s m args below meth c0 ls C hin hR hl
  obtain ⟨hx, hb, hr, hts, hown, hlocks, hml, hK⟩ := C
  obtain ⟨hR, hz⟩ := hR
  have hl : lv_has ls 3 [(0, .ref (σ + c)), (1, .int a1), (2, .int a2)] := hl
  have hS : va_S (gA (c + 1) (adS σ)) s.heap s.heap [] := va_S.rf
  have q7 := kd_4 c hc hk
  have in4 : ∀ w ∈ u_ws RX4 TX4 10, w ∈ wsX4_init := by decide +kernel
  refine lv_aload_n hx hb dX4_init_0 rfl (lv_at hl 0 rfl) ?_
  refine W.objInit hx hb hown (hts (.methodLink RX4 3 objectInit) (by decide +kernel)) (hts (.instanceMethod objectInit) (by decide +kernel)) (hts (.code objectInit ⟨#[0xb1]⟩ 1 none) (by decide +kernel)) rfl (by rw [hml]; exact hl.1) rfl dX4_init_1 (Nat.le_of_ble_eq_true rfl) (Nat.le_of_ble_eq_true rfl) ?_
  refine W.eq (g2 := F0 m 4 ls []) rfl ?_
  refine lv_aload_n hx hb dX4_init_4 rfl (lv_at hl 0 rfl) ?_
  refine lv_iconst (v := 3) hx hb dX4_init_5 (by decide) ?_
  refine gm_newi (N := 3) hx hb (hts (.arrayClass .int) (by decide +kernel)) hK.1 (by decide) (by decide) (Nat.le_of_ble_eq_true rfl) (Nat.le_of_ble_eq_true rfl) (Nat.le_of_ble_eq_true rfl) dX4_init_6 hz (fun H h1 z1 o1 => ?_)
  have hS := g_Sw (g_Sm hS hz z1 o1) (gA_grow (show c + 1 ≤ c + 2 by omega))
  obtain ⟨hR, hz⟩ := CR.grow ⟨hR, hz⟩ (bC_21 q7.2) h1 z1 o1
  refine gm_putFZ (v := .ref (σ + (c + 1))) (ty := .array .int) (ci := 4) (C := RX4) (T := TX4) (N := 10) hx hb hts in4 tyX4 tyX4_ok nmX4 hown hK.1 hR injC hS (a := c) (by omega) rfl (bC_4 hk) rfl 3 (by decide) (hts (.fieldLink RX4 11 "MercuryLine$Station" "values" "[I") (by decide +kernel)) (fun _ h9 => h9) rfl hin rfl (by decide +kernel) rfl rfl (Nat.le_of_ble_eq_true rfl) (j := 3) (x := 1) (by rw [bC_4 hk]; rfl) dX4_init_8 (fun H locs hR z hS => ?_)
  have hz := z.trans hz
  refine lv_aload_n hx hb dX4_init_11 rfl (lv_at hl 0 rfl) ?_
  refine lv_iload_n hx hb dX4_init_12 rfl (lv_at hl 1 rfl) ?_
  refine gm_putFZ (v := .int a1) (ty := .int) (ci := 4) (C := RX4) (T := TX4) (N := 10) hx hb hts in4 tyX4 tyX4_ok nmX4 hown hK.1 hR injC hS (a := c) (by omega) rfl (bC_4 hk) rfl 0 (by decide) (hts (.fieldLink RX4 15 "MercuryLine$Station" "line" "I") (by decide +kernel)) (fun _ h9 => h9) rfl hin rfl (by decide +kernel) rfl rfl (Nat.le_of_ble_eq_true rfl) (j := 0) (x := a1) (by rw [bC_4 hk]; rfl) dX4_init_13 (fun H locs hR z hS => ?_)
  have hz := z.trans hz
  refine lv_aload_n hx hb dX4_init_16 rfl (lv_at hl 0 rfl) ?_
  refine lv_bipush (v := 10) hx hb dX4_init_17 (by decide) ?_
  refine lv_iload_n hx hb dX4_init_19 rfl (lv_at hl 1 rfl) ?_
  refine lv_imul hx hb dX4_init_20 ?_
  refine lv_iload_n hx hb dX4_init_21 rfl (lv_at hl 2 rfl) ?_
  refine lv_iadd hx hb dX4_init_22 ?_
  refine gm_putFZ (v := .int (10 * a1 + a2)) (ty := .int) (ci := 4) (C := RX4) (T := TX4) (N := 10) hx hb hts in4 tyX4 tyX4_ok nmX4 hown hK.1 hR injC hS (a := c) (by omega) rfl (bC_4 hk) rfl 1 (by decide) (hts (.fieldLink RX4 19 "MercuryLine$Station" "code" "I") (by decide +kernel)) (fun _ h9 => h9) rfl hin rfl (by decide +kernel) rfl rfl (Nat.le_of_ble_eq_true rfl) (j := 1) (x := 10 * a1 + a2) (by rw [bC_4 hk]; rfl) dX4_init_23 (fun H locs hR z hS => ?_)
  have hz := z.trans hz
  refine lv_aload_n hx hb dX4_init_26 rfl (lv_at hl 0 rfl) ?_
  refine lv_iload_n hx hb dX4_init_27 rfl (lv_at hl 2 rfl) ?_
  refine lv_if_ne (tgt := 35) hx hb dX4_init_28 (by decide) (fun c_1 => ?_) (fun c_1 => ?_)
  · refine lv_iconst (v := 0) hx hb dX4_init_35 (by decide) ?_
    refine gm_putFZ (v := .int 0) (ty := .boolean) (ci := 4) (C := RX4) (T := TX4) (N := 10) hx hb hts in4 tyX4 tyX4_ok nmX4 hown hK.1 hR injC hS (a := c) (by omega) rfl (bC_4 hk) rfl 2 (by decide) (hts (.fieldLink RX4 22 "MercuryLine$Station" "isJunction" "Z") (by decide +kernel)) (fun _ h9 => h9) rfl hin rfl (by decide +kernel) rfl rfl (Nat.le_of_ble_eq_true rfl) (j := 2) (x := 0) (by rw [bC_4 hk]; rfl) dX4_init_36 (fun H locs hR z hS => ?_)
    have hz := z.trans hz
    exact gm_vretC hx hb hr hlocks (g_Sw hS gA_CA) ⟨by simp only [p_X4_init, if_neg c_1]; exact hR, hz⟩ dX4_init_39
  · refine lv_iconst (v := 1) hx hb dX4_init_31 (by decide) ?_
    refine lv_goto (tgt := 36) hx hb dX4_init_32 (by decide) ?_
    refine gm_putFZ (v := .int 1) (ty := .boolean) (ci := 4) (C := RX4) (T := TX4) (N := 10) hx hb hts in4 tyX4 tyX4_ok nmX4 hown hK.1 hR injC hS (a := c) (by omega) rfl (bC_4 hk) rfl 2 (by decide) (hts (.fieldLink RX4 22 "MercuryLine$Station" "isJunction" "Z") (by decide +kernel)) (fun _ h9 => h9) rfl hin rfl (by decide +kernel) rfl rfl (Nat.le_of_ble_eq_true rfl) (j := 2) (x := 1) (by rw [bC_4 hk]; rfl) dX4_init_36 (fun H locs hR z hS => ?_)
    have hz := z.trans hz
    exact gm_vretC hx hb hr hlocks (g_Sw hS gA_CA) ⟨by simp only [p_X4_init, if_pos c_1]; exact hR, hz⟩ dX4_init_39
