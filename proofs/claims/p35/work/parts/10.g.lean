/-! the constructor of the text of tickets, the whole -/
def p_X6_init (X : gM) : gM := p_tri 5 0 (updM (newR (updM (newR X 1) 0 0 1) 2) 0 1 1)
set_option maxHeartbeats 400000 in
set_option maxRecDepth 100000 in
/-- TicketText(): its signs, the row of its trips, its trips are made behind it -/
theorem c_X6_init (l : Launch) (D : va_G) (cy : Nat → ClassId) (σ : Nat) (X : gM) : Met l yX6_init wsX6_init ({ frames := 2, cells := 7, slots := 90, locals := 32 }) (gP [.ref σ] D cy (YR D cy σ 1 X)) (gQv (YR D cy σ 8 (p_X6_init X)) (CA σ)) 7 90 (CA σ) := by
  refine gm_metC (cc := cX6_init) (maxL := 2) (ret := none) [.ref σ] (by decide) rfl (Nat.le_of_ble_eq_true rfl) ?_
  intro p e s m args below meth c0 ls C hin hR hl
  have C2 := C
  obtain ⟨hx, hb, hr, hts, hown, hlocks, hml, hK⟩ := C
  obtain ⟨hR, hz⟩ := hR
  have hl : lv_has ls 2 [(0, .ref σ)] := hl
  have hS : va_S (CA σ) s.heap s.heap [] := va_S.rf
  have inX6 : ∀ w ∈ u_ws RX6 TX6 5, w ∈ wsX6_init := by decide +kernel
  refine lv_aload_n hx hb dX6_init_0 rfl (lv_at hl 0 rfl) ?_
  refine W.objInit hx hb hown (hts (.methodLink RX6 3 objectInit) (by decide +kernel)) (hts (.instanceMethod objectInit) (by decide +kernel)) (hts (.code objectInit ⟨#[0xb1]⟩ 1 none) (by decide +kernel)) rfl (by rw [hml]; exact hl.1) rfl dX6_init_1 (Nat.le_of_ble_eq_true rfl) (Nat.le_of_ble_eq_true rfl) ?_
  refine W.eq (g2 := F0 m 4 ls []) rfl ?_
  refine lv_aload_n hx hb dX6_init_4 rfl (lv_at hl 0 rfl) ?_
  refine lv_bipush (v := 60) hx hb dX6_init_5 (by decide) ?_
  refine gm_newc (N := 60) hx hb (hts (.arrayClass .char) (by decide +kernel)) hK.1 (by decide) (by decide) (Nat.le_of_ble_eq_true rfl) (Nat.le_of_ble_eq_true rfl) (Nat.le_of_ble_eq_true rfl) dX6_init_7 hz (fun H h2 z1 o1 => ?_)
  have hS := g_Sm hS hz z1 o1
  obtain ⟨hR, hz⟩ := YR.grow ⟨hR, hz⟩ (bY_31 (by decide)) h2 z1 o1
  refine gm_putFA (v := .ref (σ + 1)) (ty := .array .char) (ci := 6) (C := RX6) (T := TX6) (N := 5) hx hb hts inX6 tyX6 tyX6_ok nmX6 hown hK.1 hR injC hS gA_CA (a := 0) (b0 := σ) (by omega) rfl (bY_6 (by decide)) rfl 0 (by decide) (hts (.fieldLink RX6 11 "MercuryLine$TicketText" "signs" "[C") (by decide +kernel)) (fun _ h9 => h9) rfl hin rfl (by decide +kernel) rfl rfl (Nat.le_of_ble_eq_true rfl) (j := 0) (x := 1) (by rw [bY_6 (by decide)]; rfl) dX6_init_9 (fun H locs hR z hS => ?_)
  have hz := z.trans hz
  refine lv_aload_n hx hb dX6_init_12 rfl (lv_at hl 0 rfl) ?_
  refine lv_iconst (v := 5) hx hb dX6_init_13 (by decide) ?_
  refine gm_newq (N := 5) (C := "MercuryLine$Trip") (t := 6) hx hb hown (hts (.classLink RX6 15 RX7) (by decide +kernel)) (hK.2.2 _ (by decide)) hK.1 rfl (by decide) (by decide) (Nat.le_of_ble_eq_true rfl) (Nat.le_of_ble_eq_true rfl) (Nat.le_of_ble_eq_true rfl) dX6_init_14 hz (fun H h2 z1 o1 => ?_)
  have hS := g_Sm hS hz z1 o1
  obtain ⟨hR, hz⟩ := YR.grow ⟨hR, hz⟩ (show bodyY cy σ 2 (fun _ => 0) = .inl (cy 6, 5, .inr (.inr (.inr (.inr (fun _ => none))))) by rw [bY_32 (by decide)]; rfl) h2 z1 o1
  refine gm_putFA (v := .ref (σ + 2)) (ty := .array (.object "MercuryLine$Trip")) (ci := 6) (C := RX6) (T := TX6) (N := 5) hx hb hts inX6 tyX6 tyX6_ok nmX6 hown hK.1 hR injC hS gA_CA (a := 0) (b0 := σ) (by omega) rfl (bY_6 (by decide)) rfl 1 (by decide) (hts (.fieldLink RX6 17 "MercuryLine$TicketText" "trips" "[LMercuryLine$Trip;") (by decide +kernel)) (fun _ h9 => h9) rfl hin rfl (by decide +kernel) rfl rfl (Nat.le_of_ble_eq_true rfl) (j := 1) (x := 1) (by rw [bY_6 (by decide)]; rfl) dX6_init_17 (fun H locs hR z hS => ?_)
  have hz := z.trans hz
  refine lv_iconst (v := 0) hx hb dX6_init_20 (by decide) ?_
  refine lv_istore_n (lv' := [(1, .int 0), (0, .ref σ)]) hx hb dX6_init_21 rfl hl (by decide) rfl (fun ls hl => ?_)
  refine lp_X6_init_22 C2 σ 5 0 _ rfl updM_ss (fun H locs ls hR hS hl => ?_) _ _ _ ⟨hR, hz⟩ hS (lv_sub hl [1, 0] rfl)
  exact gm_vretC hx hb hr hlocks hS hR dX6_init_50
