def p_X2_init (X : gM) (c : Nat) : gM := updM (newR X (c + 1)) c 0 1
set_option maxHeartbeats 4000000 in
set_option maxRecDepth 100000 in
/-- Order(): one Trip is made behind it -/
theorem c_X2_init (l : Launch) (D : va_G) (cy : Nat → ClassId) (σ : Nat) (X : gM) (c : Nat) (hc : c < 123) (hk : kdS c = 2) : Met l yX2_init wsX2_init ({ frames := 2, cells := 1, slots := 5, locals := 32 }) (gP [.ref (σ + c)] D cy (CR D cy σ (c + 1) X)) (gQv (CR D cy σ (c + 2) (p_X2_init X c)) (CA σ)) 1 5 (CA σ) := by
  refine gm_metC (cc := cX2_init) (maxL := 1) (ret := none) [.ref (σ + c)] (by decide) rfl (Nat.le_of_ble_eq_true rfl) ?_
  intro p e s m args below meth c0 ls C hin hR hl
  obtain ⟨hx, hb, hr, hts, hown, hlocks, hml, hK⟩ := C
  obtain ⟨hR, hz⟩ := hR
  have hl : lv_has ls 1 [(0, .ref (σ + c))] := hl
  have hS : va_S (gA (c + 1) (adS σ)) s.heap s.heap [] := va_S.rf
  have q7 := kd_2 c hc hk
  have in7 : ∀ w ∈ u_ws RX7 TX7 5, w ∈ wsX2_init := by decide +kernel
  have in2 : ∀ w ∈ u_ws RX2 TX2 6, w ∈ wsX2_init := by decide +kernel
  refine lv_aload_n hx hb dX2_init_0 rfl (lv_at hl 0 rfl) ?_
  refine W.objInit hx hb hown (hts (.methodLink RX2 1 objectInit) (by decide +kernel)) (hts (.instanceMethod objectInit) (by decide +kernel)) (hts (.code objectInit ⟨#[0xb1]⟩ 1 none) (by decide +kernel)) rfl (by rw [hml]; exact hl.1) rfl dX2_init_1 (Nat.le_of_ble_eq_true rfl) (Nat.le_of_ble_eq_true rfl) ?_
  refine W.eq (g2 := F0 m 4 ls []) rfl ?_
  refine lv_aload_n hx hb dX2_init_4 rfl (lv_at hl 0 rfl) ?_
  refine gm_new (ci := 7) (fs := [.int 0, .int 0, .int 0, .int 0, .int 0]) (C := RX7) (T := TX7) (N := 5) hx hb hts in7 tyX7 tyX7_ok hown (hts (.classLink RX2 7 RX7) (by decide +kernel)) (hts (.instantiable RX7 5) (by decide +kernel)) (hts (.initialized RX7) (by decide +kernel)) hK.1 rfl (fun j hj => by rcases (show j = 0 ∨ j = 1 ∨ j = 2 ∨ j = 3 ∨ j = 4 by omega) with rfl | rfl | rfl | rfl | rfl <;> rfl) (Nat.le_of_ble_eq_true rfl) (Nat.le_of_ble_eq_true rfl) dX2_init_5 hz (fun H h1 z1 o1 => ?_)
  have hS := g_Sw (g_Sm hS hz z1 o1) (gA_grow (show c + 1 ≤ c + 2 by omega))
  obtain ⟨hR, hz⟩ := CR.grow ⟨hR, hz⟩ (bC_7 q7.2) h1 z1 o1
  refine lv_dup hx hb dX2_init_8 rfl ?_
  refine gm_cvC (mc := 0) (ms := 0) (va_runIN (As := []) (rest := [.ref (σ + (c + 1)), .ref (σ + c)]) ⟨hx, hb, hml, hown, hts⟩ (c_X7_init l D cy (σ + (c + 1)) (σ + (c + 1 + 1))) ⟨va_cnB 0 hts gX2_init_X7_init_n9 rfl rfl rfl (hK.2.1 (RX2, 9, yX7_init, "MercuryLine") (by decide +kernel)) (hts (.initialized RX7) (by decide +kernel)) (by decide +kernel) ⟨Nat.le_of_ble_eq_true rfl, Nat.le_of_ble_eq_true rfl⟩, rfl, hts (.instanceMethod yX7_init) (by decide +kernel)⟩ (gPreS hK hz) rfl rfl hl.1 rfl (lv_room (Nat.le_of_ble_eq_true rfl)) dX2_init_9 ⟨Nat.le_of_ble_eq_true rfl, Nat.le_of_ble_eq_true rfl⟩) hS (fun _ h => h.elim) (fun H locs hz _ hfr hS => ?_)
  have hR := gRep.keep hR hfr (fun _ _ h => h)
  refine gm_putFZ (v := .ref (σ + (c + 1))) (ty := .object "MercuryLine$Trip") (ci := 2) (C := RX2) (T := TX2) (N := 6) hx hb hts in2 tyX2 tyX2_ok nmX2 hown hK.1 hR injC hS (a := c) (by omega) rfl (bC_2 hk) rfl 0 (by decide) (hts (.fieldLink RX2 10 "MercuryLine$Order" "trip" "LMercuryLine$Trip;") (by decide +kernel)) (fun _ h9 => h9) rfl hin rfl (by decide +kernel) rfl rfl (Nat.le_of_ble_eq_true rfl) (j := 0) (x := 1) (by rw [bC_2 hk]; rfl) dX2_init_12 (fun H locs hR z hS => ?_)
  have hz := z.trans hz
  exact gm_vretC hx hb hr hlocks (g_Sw hS gA_CA) ⟨hR, hz⟩ dX2_init_15
def p_X1_init (X : gM) (c : Nat) : gM := updM (newR X (c + 1)) c 0 1
set_option maxHeartbeats 4000000 in
set_option maxRecDepth 100000 in
/-- Log(): its row of cells is made behind it -/
theorem c_X1_init (l : Launch) (D : va_G) (cy : Nat → ClassId) (σ : Nat) (X : gM) (c : Nat) (hc : c < 123) (hk : kdS c = 1) : Met l yX1_init wsX1_init ({ frames := 1, cells := 1, slots := 60, locals := 20 }) (gP [.ref (σ + c)] D cy (CR D cy σ (c + 1) X)) (gQv (CR D cy σ (c + 2) (p_X1_init X c)) (CA σ)) 1 60 (CA σ) := by
  refine gm_metC (cc := cX1_init) (maxL := 1) (ret := none) [.ref (σ + c)] (by decide) rfl (Nat.le_of_ble_eq_true rfl) ?_
  intro p e s m args below meth c0 ls C hin hR hl
  obtain ⟨hx, hb, hr, hts, hown, hlocks, hml, hK⟩ := C
  obtain ⟨hR, hz⟩ := hR
  have hl : lv_has ls 1 [(0, .ref (σ + c))] := hl
  have hS : va_S (gA (c + 1) (adS σ)) s.heap s.heap [] := va_S.rf
  have q7 := kd_1 c hc hk
  have in1 : ∀ w ∈ u_ws RX1 TX1 3, w ∈ wsX1_init := by decide +kernel
  refine lv_aload_n hx hb dX1_init_0 rfl (lv_at hl 0 rfl) ?_
  refine W.objInit hx hb hown (hts (.methodLink RX1 3 objectInit) (by decide +kernel)) (hts (.instanceMethod objectInit) (by decide +kernel)) (hts (.code objectInit ⟨#[0xb1]⟩ 1 none) (by decide +kernel)) rfl (by rw [hml]; exact hl.1) rfl dX1_init_1 (Nat.le_of_ble_eq_true rfl) (Nat.le_of_ble_eq_true rfl) ?_
  refine W.eq (g2 := F0 m 4 ls []) rfl ?_
  refine lv_aload_n hx hb dX1_init_4 rfl (lv_at hl 0 rfl) ?_
  refine lv_bipush (v := 60) hx hb dX1_init_5 (by decide) ?_
  refine gm_newi (N := 60) hx hb (hts (.arrayClass .int) (by decide +kernel)) hK.1 (by decide) (by decide) (Nat.le_of_ble_eq_true rfl) (Nat.le_of_ble_eq_true rfl) (Nat.le_of_ble_eq_true rfl) dX1_init_7 hz (fun H h1 z1 o1 => ?_)
  have hS := g_Sw (g_Sm hS hz z1 o1) (gA_grow (show c + 1 ≤ c + 2 by omega))
  obtain ⟨hR, hz⟩ := CR.grow ⟨hR, hz⟩ (bC_22 q7.2) h1 z1 o1
  refine gm_putFZ (v := .ref (σ + (c + 1))) (ty := .array .int) (ci := 1) (C := RX1) (T := TX1) (N := 3) hx hb hts in1 tyX1 tyX1_ok nmX1 hown hK.1 hR injC hS (a := c) (by omega) rfl (bC_1 hk) rfl 0 (by decide) (hts (.fieldLink RX1 11 "MercuryLine$Log" "cells" "[I") (by decide +kernel)) (fun _ h9 => h9) rfl hin rfl (by decide +kernel) rfl rfl (Nat.le_of_ble_eq_true rfl) (j := 0) (x := 1) (by rw [bC_1 hk]; rfl) dX1_init_9 (fun H locs hR z hS => ?_)
  have hz := z.trans hz
  exact gm_vretC hx hb hr hlocks (g_Sw hS gA_CA) ⟨hR, hz⟩ dX1_init_12
