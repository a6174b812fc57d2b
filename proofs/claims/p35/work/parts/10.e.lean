/-! the constructor of a State -/
theorem p_X1_init_o {X : gM} {c a : Nat} (h1 : a ≠ c) (h2 : a ≠ c + 1) : p_X1_init X c a = X a := by
  unfold p_X1_init
  rw [updM_o h1, newR_o h2]
theorem p_tic_o : ∀ n k Z, p_tic n k Z 0 = Z 0 := by
  intro n
  induction n with
  | zero => intro k Z; rfl
  | succ n ih =>
    intro k Z
    show p_tic n (k + 1) _ 0 = _
    rw [ih, updM_o (by decide), p_X5_init_o (by omega) (by omega), newR_o (by omega)]
def mS1 (X : gM) : gM := updM (p_X0_init (newR X 1) 1 0) 0 0 1
def mS2 (X : gM) : gM := updM (p_X0_init (newR X 16) 16 1) 0 1 1
def mS3 (X : gM) : gM := updM (newR X 31) 0 2 1
def mS4 (X : gM) : gM := updM (newR X 32) 0 3 1
def mS5 (X : gM) : gM := updM (p_X1_init (newR X 33) 33) 0 4 1
def mS6 (X : gM) : gM := updM (updM X 0 8 10) 0 9 3
def p_X3_init (X : gM) : gM := p_ord 4 0 (p_tic 40 0 (mS6 (mS5 (mS4 (mS3 (mS2 (mS1 X)))))))
set_option maxHeartbeats 4000000 in
set_option maxRecDepth 100000 in
/-- State(): all its cells are made behind it -/
theorem c_X3_init (l : Launch) (D : va_G) (cy : Nat → ClassId) (σ : Nat) (X : gM) : Met l yX3_init wsX3_init ({ frames := 3, cells := 122, slots := 1147, locals := 64 }) (gP [.ref σ] D cy (CR D cy σ 1 X)) (gQv (CR D cy σ 123 (p_X3_init X)) (CA σ)) 122 1147 (CA σ) := by
  refine gm_metC (cc := cX3_init) (maxL := 2) (ret := none) [.ref σ] (by decide) rfl (Nat.le_of_ble_eq_true rfl) ?_
  intro p e s m args below meth c0 ls C hin hR hl
  have C2 := C
  obtain ⟨hx, hb, hr, hts, hown, hlocks, hml, hK⟩ := C
  obtain ⟨hR, hz⟩ := hR
  have hl : lv_has ls 2 [(0, .ref σ)] := hl
  have hS : va_S (CA σ) s.heap s.heap [] := va_S.rf
  have inX3 : ∀ w ∈ u_ws RX3 TX3 14, w ∈ wsX3_init := by decide +kernel
  have inRX0 : ∀ w ∈ u_ws RX0 TX0 10, w ∈ wsX3_init := by decide +kernel
  have inRX1 : ∀ w ∈ u_ws RX1 TX1 3, w ∈ wsX3_init := by decide +kernel
  refine lv_aload_n hx hb dX3_init_0 rfl (lv_at hl 0 rfl) ?_
  refine W.objInit hx hb hown (hts (.methodLink RX3 3 objectInit) (by decide +kernel)) (hts (.instanceMethod objectInit) (by decide +kernel)) (hts (.code objectInit ⟨#[0xb1]⟩ 1 none) (by decide +kernel)) rfl (by rw [hml]; exact hl.1) rfl dX3_init_1 (Nat.le_of_ble_eq_true rfl) (Nat.le_of_ble_eq_true rfl) ?_
  refine W.eq (g2 := F0 m 4 ls []) rfl ?_
  refine lv_aload_n hx hb dX3_init_4 rfl (lv_at hl 0 rfl) ?_
  refine gm_new (ci := 0) (fs := [.int 0, .null, .null, .int 0, .int 0, .int 0, .int 0, .int 0, .int 0, .int 0]) (C := RX0) (T := TX0) (N := 10) hx hb hts inRX0 tyX0 tyX0_ok hown (hts (.classLink RX3 9 RX0) (by decide +kernel)) (hts (.instantiable RX0 10) (by decide +kernel)) (hts (.initialized RX0) (by decide +kernel)) hK.1 rfl (fun j hj => by rcases (show j = 0 ∨ j = 1 ∨ j = 2 ∨ j = 3 ∨ j = 4 ∨ j = 5 ∨ j = 6 ∨ j = 7 ∨ j = 8 ∨ j = 9 by omega) with rfl | rfl | rfl | rfl | rfl | rfl | rfl | rfl | rfl | rfl <;> rfl) (Nat.le_of_ble_eq_true rfl) (Nat.le_of_ble_eq_true rfl) dX3_init_5 hz (fun H h2 z1 o1 => ?_)
  have hS := g_Sm hS hz z1 o1
  obtain ⟨hR, hz⟩ := CR.grow ⟨hR, hz⟩ (show bodyC cy σ 1 (fun _ => 0) = .inr (0, [.int 0, .null, .null, .int 0, .int 0, .int 0, .int 0, .int 0, .int 0, .int 0]) by rw [bC_0 (by decide)]; rfl) h2 z1 o1
  refine lv_dup hx hb dX3_init_8 rfl ?_
  refine lv_iconst (v := 0) hx hb dX3_init_9 (by decide) ?_
  refine gm_cvC (mc := 14) (ms := 108) (va_runI (As := [.int 0]) (rest := [.ref (σ + 1), .ref σ]) ⟨hx, hb, hml, hown, hts⟩ (c_X0_init l D cy σ (newR X 1) 1 0 (by decide) (by decide)) ⟨callB_of 1 hts gX3_init_X0_init rfl rfl rfl (hts (.initialized RX0) (by decide +kernel)) (hts (.methodLink RX3 11 yX0_init) (by decide +kernel)) (by decide +kernel) ⟨Nat.le_of_ble_eq_true rfl, Nat.le_of_ble_eq_true rfl⟩, rfl, hts (.instanceMethod yX0_init) (by decide +kernel)⟩ (gPreS hK ⟨hR, hz⟩) rfl rfl hl.1 rfl (lv_room (Nat.le_of_ble_eq_true rfl)) dX3_init_10 ⟨Nat.le_of_ble_eq_true rfl, Nat.le_of_ble_eq_true rfl⟩) hS (fun _ h => h) (fun H locs hRR _ hfr hS => ?_)
  obtain ⟨hR, hz⟩ := hRR
  have hR : gRep D (bodyC cy σ) 16 (adS σ) (p_X0_init (newR X 1) 1 0) H := hR
  obtain ⟨P1, f1⟩ : ∃ Y : gM, Y = p_X0_init (newR X 1) 1 0 := ⟨_, rfl⟩
  rw [← f1] at hR
  clear hfr
  refine gm_putFA (v := .ref (σ + 1)) (ty := .object "MercuryLine$Line") (ci := 3) (C := RX3) (T := TX3) (N := 14) hx hb hts inX3 tyX3 tyX3_ok nmX3 hown hK.1 hR injC hS gA_CA (a := 0) (b0 := σ) (by omega) rfl (bC_3 (by decide)) rfl 0 (by decide) (hts (.fieldLink RX3 14 "MercuryLine$State" "zero" "LMercuryLine$Line;") (by decide +kernel)) (fun _ h9 => h9) rfl hin rfl (by decide +kernel) rfl rfl (Nat.le_of_ble_eq_true rfl) (j := 0) (x := 1) (by rw [bC_3 (by decide)]; rfl) dX3_init_13 (fun H locs hR z hS => ?_)
  have hz := z.trans hz
  obtain ⟨X1, e1⟩ : ∃ Y : gM, Y = mS1 X := ⟨_, rfl⟩
  have hR : gRep D (bodyC cy σ) 16 (adS σ) X1 H := by rw [e1]; unfold mS1; rw [← f1]; exact hR
  have hz : H.size = σ + 16 := hz
  refine lv_aload_n hx hb dX3_init_16 rfl (lv_at hl 0 rfl) ?_
  refine gm_new (ci := 0) (fs := [.int 0, .null, .null, .int 0, .int 0, .int 0, .int 0, .int 0, .int 0, .int 0]) (C := RX0) (T := TX0) (N := 10) hx hb hts inRX0 tyX0 tyX0_ok hown (hts (.classLink RX3 9 RX0) (by decide +kernel)) (hts (.instantiable RX0 10) (by decide +kernel)) (hts (.initialized RX0) (by decide +kernel)) hK.1 rfl (fun j hj => by rcases (show j = 0 ∨ j = 1 ∨ j = 2 ∨ j = 3 ∨ j = 4 ∨ j = 5 ∨ j = 6 ∨ j = 7 ∨ j = 8 ∨ j = 9 by omega) with rfl | rfl | rfl | rfl | rfl | rfl | rfl | rfl | rfl | rfl <;> rfl) (Nat.le_of_ble_eq_true rfl) (Nat.le_of_ble_eq_true rfl) dX3_init_17 hz (fun H h2 z1 o1 => ?_)
  have hS := g_Sm hS hz z1 o1
  obtain ⟨hR, hz⟩ := CR.grow ⟨hR, hz⟩ (show bodyC cy σ 16 (fun _ => 0) = .inr (0, [.int 0, .null, .null, .int 0, .int 0, .int 0, .int 0, .int 0, .int 0, .int 0]) by rw [bC_0 (by decide)]; rfl) h2 z1 o1
  refine lv_dup hx hb dX3_init_20 rfl ?_
  refine lv_iconst (v := 1) hx hb dX3_init_21 (by decide) ?_
  refine gm_cvC (mc := 14) (ms := 108) (va_runI (As := [.int 1]) (rest := [.ref (σ + 16), .ref σ]) ⟨hx, hb, hml, hown, hts⟩ (c_X0_init l D cy σ (newR X1 16) 16 1 (by decide) (by decide)) ⟨callB_of 1 hts gX3_init_X0_init rfl rfl rfl (hts (.initialized RX0) (by decide +kernel)) (hts (.methodLink RX3 11 yX0_init) (by decide +kernel)) (by decide +kernel) ⟨Nat.le_of_ble_eq_true rfl, Nat.le_of_ble_eq_true rfl⟩, rfl, hts (.instanceMethod yX0_init) (by decide +kernel)⟩ (gPreS hK ⟨hR, hz⟩) rfl rfl hl.1 rfl (lv_room (Nat.le_of_ble_eq_true rfl)) dX3_init_22 ⟨Nat.le_of_ble_eq_true rfl, Nat.le_of_ble_eq_true rfl⟩) hS (fun _ h => h) (fun H locs hRR _ hfr hS => ?_)
  obtain ⟨hR, hz⟩ := hRR
  have hR : gRep D (bodyC cy σ) 31 (adS σ) (p_X0_init (newR X1 16) 16 1) H := hR
  obtain ⟨P2, f2⟩ : ∃ Y : gM, Y = p_X0_init (newR X1 16) 16 1 := ⟨_, rfl⟩
  rw [← f2] at hR
  clear hfr
  refine gm_putFA (v := .ref (σ + 16)) (ty := .object "MercuryLine$Line") (ci := 3) (C := RX3) (T := TX3) (N := 14) hx hb hts inX3 tyX3 tyX3_ok nmX3 hown hK.1 hR injC hS gA_CA (a := 0) (b0 := σ) (by omega) rfl (bC_3 (by decide)) rfl 1 (by decide) (hts (.fieldLink RX3 20 "MercuryLine$State" "one" "LMercuryLine$Line;") (by decide +kernel)) (fun _ h9 => h9) rfl hin rfl (by decide +kernel) rfl rfl (Nat.le_of_ble_eq_true rfl) (j := 1) (x := 1) (by rw [bC_3 (by decide)]; rfl) dX3_init_25 (fun H locs hR z hS => ?_)
  have hz := z.trans hz
  obtain ⟨X2, e2⟩ : ∃ Y : gM, Y = mS2 X1 := ⟨_, rfl⟩
  have hR : gRep D (bodyC cy σ) 31 (adS σ) X2 H := by rw [e2]; unfold mS2; rw [← f2]; exact hR
  have hz : H.size = σ + 31 := hz
  refine lv_aload_n hx hb dX3_init_28 rfl (lv_at hl 0 rfl) ?_
  refine lv_bipush (v := 40) hx hb dX3_init_29 (by decide) ?_
  refine gm_newq (N := 40) (C := "MercuryLine$Ticket") (t := 5) hx hb hown (hts (.classLink RX3 23 "MercuryLine$Ticket") (by decide +kernel)) (hK.2.2 _ (by decide)) hK.1 rfl (by decide) (by decide) (Nat.le_of_ble_eq_true rfl) (Nat.le_of_ble_eq_true rfl) (Nat.le_of_ble_eq_true rfl) dX3_init_31 hz (fun H h2 z1 o1 => ?_)
  have hS := g_Sm hS hz z1 o1
  obtain ⟨hR, hz⟩ := CR.grow ⟨hR, hz⟩ (show bodyC cy σ 31 (fun _ => 0) = .inl (cy 5, 40, .inr (.inr (.inr (.inr (fun _ => none))))) by rw [bC_25 (by decide)]; rfl) h2 z1 o1
  refine gm_putFA (v := .ref (σ + 31)) (ty := .array (.object "MercuryLine$Ticket")) (ci := 3) (C := RX3) (T := TX3) (N := 14) hx hb hts inX3 tyX3 tyX3_ok nmX3 hown hK.1 hR injC hS gA_CA (a := 0) (b0 := σ) (by omega) rfl (bC_3 (by decide)) rfl 2 (by decide) (hts (.fieldLink RX3 25 "MercuryLine$State" "tickets" "[LMercuryLine$Ticket;") (by decide +kernel)) (fun _ h9 => h9) rfl hin rfl (by decide +kernel) rfl rfl (Nat.le_of_ble_eq_true rfl) (j := 2) (x := 1) (by rw [bC_3 (by decide)]; rfl) dX3_init_34 (fun H locs hR z hS => ?_)
  have hz := z.trans hz
  obtain ⟨X3, e3⟩ : ∃ Y : gM, Y = mS3 X2 := ⟨_, rfl⟩
  have hR : gRep D (bodyC cy σ) 32 (adS σ) X3 H := by rw [e3]; exact hR
  have hz : H.size = σ + 32 := hz
  refine lv_aload_n hx hb dX3_init_37 rfl (lv_at hl 0 rfl) ?_
  refine lv_iconst (v := 4) hx hb dX3_init_38 (by decide) ?_
  refine gm_newq (N := 4) (C := "MercuryLine$Order") (t := 2) hx hb hown (hts (.classLink RX3 29 "MercuryLine$Order") (by decide +kernel)) (hK.2.2 _ (by decide)) hK.1 rfl (by decide) (by decide) (Nat.le_of_ble_eq_true rfl) (Nat.le_of_ble_eq_true rfl) (Nat.le_of_ble_eq_true rfl) dX3_init_39 hz (fun H h2 z1 o1 => ?_)
  have hS := g_Sm hS hz z1 o1
  obtain ⟨hR, hz⟩ := CR.grow ⟨hR, hz⟩ (show bodyC cy σ 32 (fun _ => 0) = .inl (cy 2, 4, .inr (.inr (.inr (.inr (fun _ => none))))) by rw [bC_26 (by decide)]; rfl) h2 z1 o1
  refine gm_putFA (v := .ref (σ + 32)) (ty := .array (.object "MercuryLine$Order")) (ci := 3) (C := RX3) (T := TX3) (N := 14) hx hb hts inX3 tyX3 tyX3_ok nmX3 hown hK.1 hR injC hS gA_CA (a := 0) (b0 := σ) (by omega) rfl (bC_3 (by decide)) rfl 3 (by decide) (hts (.fieldLink RX3 31 "MercuryLine$State" "orders" "[LMercuryLine$Order;") (by decide +kernel)) (fun _ h9 => h9) rfl hin rfl (by decide +kernel) rfl rfl (Nat.le_of_ble_eq_true rfl) (j := 3) (x := 1) (by rw [bC_3 (by decide)]; rfl) dX3_init_42 (fun H locs hR z hS => ?_)
  have hz := z.trans hz
  obtain ⟨X4, e4⟩ : ∃ Y : gM, Y = mS4 X3 := ⟨_, rfl⟩
  have hR : gRep D (bodyC cy σ) 33 (adS σ) X4 H := by rw [e4]; exact hR
  have hz : H.size = σ + 33 := hz
  refine lv_aload_n hx hb dX3_init_45 rfl (lv_at hl 0 rfl) ?_
  refine gm_new (ci := 1) (fs := [.null, .int 0, .int 0]) (C := RX1) (T := TX1) (N := 3) hx hb hts inRX1 tyX1 tyX1_ok hown (hts (.classLink RX3 35 RX1) (by decide +kernel)) (hts (.instantiable RX1 3) (by decide +kernel)) (hts (.initialized RX1) (by decide +kernel)) hK.1 rfl (fun j hj => by rcases (show j = 0 ∨ j = 1 ∨ j = 2 by omega) with rfl | rfl | rfl <;> rfl) (Nat.le_of_ble_eq_true rfl) (Nat.le_of_ble_eq_true rfl) dX3_init_46 hz (fun H h2 z1 o1 => ?_)
  have hS := g_Sm hS hz z1 o1
  obtain ⟨hR, hz⟩ := CR.grow ⟨hR, hz⟩ (show bodyC cy σ 33 (fun _ => 0) = .inr (1, [.null, .int 0, .int 0]) by rw [bC_1 (by decide)]; rfl) h2 z1 o1
  refine lv_dup hx hb dX3_init_49 rfl ?_
  refine gm_cvC (mc := 1) (ms := 60) (va_runIN (As := []) (rest := [.ref (σ + 33), .ref σ]) ⟨hx, hb, hml, hown, hts⟩ (c_X1_init l D cy σ (newR X4 33) 33 (by decide) (by decide)) ⟨va_cnB 0 hts gX3_init_X1_init_n37 rfl rfl rfl (hK.2.1 (RX3, 37, yX1_init, "MercuryLine") (by decide +kernel)) (hts (.initialized RX1) (by decide +kernel)) (by decide +kernel) ⟨Nat.le_of_ble_eq_true rfl, Nat.le_of_ble_eq_true rfl⟩, rfl, hts (.instanceMethod yX1_init) (by decide +kernel)⟩ (gPreS hK ⟨hR, hz⟩) rfl rfl hl.1 rfl (lv_room (Nat.le_of_ble_eq_true rfl)) dX3_init_50 ⟨Nat.le_of_ble_eq_true rfl, Nat.le_of_ble_eq_true rfl⟩) hS (fun _ h => h) (fun H locs hRR _ hfr hS => ?_)
  obtain ⟨hR, hz⟩ := hRR
  have hR : gRep D (bodyC cy σ) 35 (adS σ) (p_X1_init (newR X4 33) 33) H := hR
  refine gm_putFA (v := .ref (σ + 33)) (ty := .object "MercuryLine$Log") (ci := 3) (C := RX3) (T := TX3) (N := 14) hx hb hts inX3 tyX3 tyX3_ok nmX3 hown hK.1 hR injC hS gA_CA (a := 0) (b0 := σ) (by omega) rfl (bC_3 (by decide)) rfl 4 (by decide) (hts (.fieldLink RX3 38 "MercuryLine$State" "log" "LMercuryLine$Log;") (by decide +kernel)) (fun _ h9 => h9) rfl hin rfl (by decide +kernel) rfl rfl (Nat.le_of_ble_eq_true rfl) (j := 4) (x := 1) (by rw [bC_3 (by decide)]; rfl) dX3_init_53 (fun H locs hR z hS => ?_)
  have hz := z.trans hz
  obtain ⟨X5, e5⟩ : ∃ Y : gM, Y = mS5 X4 := ⟨_, rfl⟩
  have hR : gRep D (bodyC cy σ) 35 (adS σ) X5 H := by rw [e5]; exact hR
  have hz : H.size = σ + 35 := hz
  refine lv_aload_n hx hb dX3_init_56 rfl (lv_at hl 0 rfl) ?_
  refine lv_bipush (v := 10) hx hb dX3_init_57 (by decide) ?_
  refine gm_putA (v := .int 10) (ty := .int) (ci := 3) (C := RX3) (T := TX3) (N := 14) hx hb hts inX3 tyX3 tyX3_ok nmX3 hown hK.1 hR injC hS gA_CA (a := 0) (b0 := σ) (by omega) rfl (bC_3 (by decide)) rfl 8 (by decide) (hts (.fieldLink RX3 42 "MercuryLine$State" "fare" "I") (by decide +kernel)) (fun _ h9 => h9) rfl (by decide +kernel) rfl rfl (Nat.le_of_ble_eq_true rfl) (j := 8) (x := 10) (by rw [bC_3 (by decide)]; rfl) dX3_init_59 (fun H locs hR z hS => ?_)
  have hz := z.trans hz
  refine lv_aload_n hx hb dX3_init_62 rfl (lv_at hl 0 rfl) ?_
  refine lv_iconst (v := 3) hx hb dX3_init_63 (by decide) ?_
  refine gm_putA (v := .int 3) (ty := .int) (ci := 3) (C := RX3) (T := TX3) (N := 14) hx hb hts inX3 tyX3 tyX3_ok nmX3 hown hK.1 hR injC hS gA_CA (a := 0) (b0 := σ) (by omega) rfl (bC_3 (by decide)) rfl 9 (by decide) (hts (.fieldLink RX3 46 "MercuryLine$State" "patience" "I") (by decide +kernel)) (fun _ h9 => h9) rfl (by decide +kernel) rfl rfl (Nat.le_of_ble_eq_true rfl) (j := 9) (x := 3) (by rw [bC_3 (by decide)]; rfl) dX3_init_64 (fun H locs hR z hS => ?_)
  have hz := z.trans hz
  obtain ⟨X6, e6⟩ : ∃ Y : gM, Y = mS6 X5 := ⟨_, rfl⟩
  have hR : gRep D (bodyC cy σ) 35 (adS σ) X6 H := by rw [e6]; exact hR
  have hz : H.size = σ + 35 := hz
  have r2 : X6 0 2 = 1 := by rw [e6]; unfold mS6; rw [updM_sn (by decide), updM_sn (by decide), e5]; unfold mS5; rw [updM_sn (by decide), p_X1_init_o (by decide) (by decide), newR_o (by decide), e4]; unfold mS4; rw [updM_sn (by decide), newR_o (by decide), e3]; unfold mS3; rw [updM_ss]
  have r3 : X6 0 3 = 1 := by rw [e6]; unfold mS6; rw [updM_sn (by decide), updM_sn (by decide), e5]; unfold mS5; rw [updM_sn (by decide), p_X1_init_o (by decide) (by decide), newR_o (by decide), e4]; unfold mS4; rw [updM_ss]
  refine lv_iconst (v := 0) hx hb dX3_init_67 (by decide) ?_
  refine lv_istore_n (lv' := [(1, .int 0), (0, .ref σ)]) hx hb dX3_init_68 rfl hl (by decide) rfl (fun ls hl => ?_)
  refine lp_X3_init_69 C2 σ 40 0 X6 rfl r2 (fun H locs ls hR hS hl => ?_) _ _ _ ⟨hR, hz⟩ hS (lv_sub hl [1, 0] rfl)
  refine lv_iconst (v := 0) hx hb dX3_init_98 (by decide) ?_
  refine lv_istore_n (lv' := [(1, .int 0), (0, .ref σ)]) hx hb dX3_init_99 rfl hl (by decide) rfl (fun ls hl => ?_)
  refine lp_X3_init_100 C2 σ 4 0 (p_tic 40 0 X6) rfl (by rw [p_tic_o]; exact r3) (fun H locs ls hR hS hl => ?_) _ _ _ hR hS (lv_sub hl [1, 0] rfl)
  exact gm_vretC hx hb hr hlocks hS (by unfold p_X3_init; rw [← e1, ← e2, ← e3, ← e4, ← e5, ← e6]; exact hR) dX3_init_128
