/-! the constructor of a line: the loop over its stations, the whole -/
theorem p_X4_init_o {X : gM} {c a : Nat} {a1 a2 : Int32} (h1 : a ≠ c) (h2 : a ≠ c + 1) : p_X4_init X c a1 a2 a = X a := by
  unfold p_X4_init
  rw [updM_o h1, updM_o h1, updM_o h1, updM_o h1]
  unfold newR
  rw [if_neg h2]
theorem newR_o {X : gM} {n a : Nat} (h : a ≠ n) : newR X n a = X a := if_neg h
set_option maxHeartbeats 4000000 in
set_option maxRecDepth 100000 in
theorem lp_X0_init_59 {p : Program} {l : Launch} {e : Env} {s : State} {m : MethodId} {args : Array Value} {below : List Frame} {meth : Method} {c0 : Code} {D : va_G} {cy : Nat → ClassId} {Q : State → Prop} (C : gCtx cX0_init 3 none RX0 wsX0_init D cy p s m args meth c0) (σ c : Nat) (a1 : Int32) (hc : c < 123) (hk : kdS c = 0) :
    ∀ (n k : Nat) (Z : gM), k + n = 6 → Z c 2 = 1 → (∀ (H : Heap) (locs : List Loc) (ls : Array Slot), CR D cy σ (c + 15) (p_sta c a1 n k Z) H → va_S (CA σ) s.heap H locs → lv_has ls 3 [(0, .ref (σ + c)), (1, .int a1), (2, .int (nI 6))] → W p l e { frames := 2, cells := 14, slots := 108, locals := 42 } s m args below meth c0 H locs 14 108 Q (F0 m 89 ls [])) → ∀ (H : Heap) (locs : List Loc) (ls : Array Slot), CR D cy σ (c + 3 + 2 * k) Z H → va_S (CA σ) s.heap H locs → lv_has ls 3 [(0, .ref (σ + c)), (1, .int a1), (2, .int (nI k))] → W p l e { frames := 2, cells := 14, slots := 108, locals := 42 } s m args below meth c0 H locs (2 + 2 * k) (30 + 13 * k) Q (F0 m 59 ls []) := by
  have C2 := C
  obtain ⟨hx, hb, hr, hts, hown, hlocks, hml, hK⟩ := C
  have lk17 := hts (.fieldLink RX0 17 "MercuryLine$Line" "stations" "[LMercuryLine$Station;") (by decide +kernel)
  have inX0 : ∀ w ∈ u_ws RX0 TX0 10, w ∈ wsX0_init := by decide +kernel
  have inX4 : ∀ w ∈ u_ws RX4 TX4 10, w ∈ wsX0_init := by decide +kernel
  obtain ⟨⟨-, q20⟩, ⟨-, q24⟩, q4⟩ := kd_0 c hc hk
  have hb0 := kd_0b c hc hk
  intro n
  induction n with
  | zero =>
    intro k Z hkn h1 hexit H locs ls hR hS hl
    have e : k = 6 := by omega
    subst e
    have b1 : bodyC cy σ c (Z c) = .inr (0, [.int (Z c 0), gr (Z c 1) (σ + (c + 1)), .ref (σ + (c + 2)), .int (Z c 3), .int (Z c 4), .int (Z c 5), .int (Z c 6), .int (Z c 7), .int (Z c 8), .int (Z c 9)]) := by rw [bC_0 hk, h1, gr1]
    refine lv_iload_n hx hb dX0_init_59 rfl (lv_at hl 2 rfl) ?_
    refine lv_aload_n hx hb dX0_init_60 rfl (lv_at hl 0 rfl) ?_
    refine va_get (D := D) (ci := 0) (v := .ref (σ + (c + 2))) (C := RX0) (T := TX0) (N := 10) hx hb hts inX0 hown hK.1 (gRep.one hR.1 (by omega) b1) 0 rfl rfl 2 (by decide) lk17 (fun _ h9 => h9) rfl dX0_init_61 ?_
    refine va_alen (v := 6) hx hb hK.1 (gRep.one hR.1 (c := c + 2) (by omega) (bC_24 q24)) 0 4 rfl rfl rfl dX0_init_64 ?_
    refine lv_icmp_ge (tgt := 89) hx hb dX0_init_65 (by decide) (fun c_1 => ?_) (fun c_1 => ?_)
    · exact hexit H locs ls hR hS hl
    · exact absurd (show (6 : Int32) ≤ nI 6 by decide +kernel) c_1
  | succ n ih =>
    intro k Z hkn h1 hexit H locs ls hR hS hl
    have hk6 : k < 6 := by omega
    have b1 : bodyC cy σ c (Z c) = .inr (0, [.int (Z c 0), gr (Z c 1) (σ + (c + 1)), .ref (σ + (c + 2)), .int (Z c 3), .int (Z c 4), .int (Z c 5), .int (Z c 6), .int (Z c 7), .int (Z c 8), .int (Z c 9)]) := by rw [bC_0 hk, h1, gr1]
    obtain ⟨q41, q42, -, -⟩ := q4 k hk6
    have ea : c + 2 + 1 + 2 * k = c + 3 + 2 * k := by omega
    rw [ea] at q41 q42
    refine lv_iload_n hx hb dX0_init_59 rfl (lv_at hl 2 rfl) ?_
    refine lv_aload_n hx hb dX0_init_60 rfl (lv_at hl 0 rfl) ?_
    refine va_get (D := D) (ci := 0) (v := .ref (σ + (c + 2))) (C := RX0) (T := TX0) (N := 10) hx hb hts inX0 hown hK.1 (gRep.one hR.1 (by omega) b1) 0 rfl rfl 2 (by decide) lk17 (fun _ h9 => h9) rfl dX0_init_61 ?_
    refine va_alen (v := 6) hx hb hK.1 (gRep.one hR.1 (c := c + 2) (by omega) (bC_24 q24)) 0 4 rfl rfl rfl dX0_init_64 ?_
    refine lv_icmp_ge (tgt := 89) hx hb dX0_init_65 (by decide) (fun c_1 => ?_) (fun c_1 => ?_)
    · exact absurd c_1 (nI_ge (b := 6) (by omega) (by decide))
    · refine lv_aload_n hx hb dX0_init_68 rfl (lv_at hl 0 rfl) ?_
      refine va_get (D := D) (ci := 0) (v := .ref (σ + (c + 2))) (C := RX0) (T := TX0) (N := 10) hx hb hts inX0 hown hK.1 (gRep.one hR.1 (by omega) b1) 0 rfl rfl 2 (by decide) lk17 (fun _ h9 => h9) rfl dX0_init_69 ?_
      refine lv_iload_n hx hb dX0_init_72 rfl (lv_at hl 2 rfl) ?_
      obtain ⟨hR, hz⟩ := hR
      refine gm_new (ci := 4) (fs := [.int 0, .int 0, .int 0, .null, .int 0, .int 0, .int 0, .int 0, .int 0, .int 0]) (C := RX4) (T := TX4) (N := 10) hx hb hts inX4 tyX4 tyX4_ok hown (hts (.classLink RX0 15 RX4) (by decide +kernel)) (hts (.instantiable RX4 10) (by decide +kernel)) (hts (.initialized RX4) (by decide +kernel)) hK.1 rfl (fun j hj => by rcases (show j = 0 ∨ j = 1 ∨ j = 2 ∨ j = 3 ∨ j = 4 ∨ j = 5 ∨ j = 6 ∨ j = 7 ∨ j = 8 ∨ j = 9 by omega) with rfl | rfl | rfl | rfl | rfl | rfl | rfl | rfl | rfl | rfl <;> rfl) (by show 2 + 2 * k + 1 ≤ 14; omega) (by show 30 + 13 * k + 10 ≤ 108; omega) dX0_init_73 hz (fun H h2 z1 o1 => ?_)
      have hS := g_Sm hS hz z1 o1
      obtain ⟨hR, hz⟩ := CR.grow ⟨hR, hz⟩ (show bodyC cy σ (c + 3 + 2 * k) (fun _ => 0) = .inr (4, [.int 0, .int 0, .int 0, .null, .int 0, .int 0, .int 0, .int 0, .int 0, .int 0]) by rw [bC_4 q42]; rfl) h2 z1 o1
      refine lv_dup hx hb dX0_init_76 rfl ?_
      refine lv_iload_n hx hb dX0_init_77 rfl (lv_at hl 1 rfl) ?_
      refine lv_iload_n hx hb dX0_init_78 rfl (lv_at hl 2 rfl) ?_
      refine gm_cvC (mc := 1) (ms := 3) (va_runI (As := [.int a1, .int (nI k)]) (rest := [.ref (σ + (c + 3 + 2 * k)), .int (nI k), .ref (σ + (c + 2))]) ⟨hx, hb, hml, hown, hts⟩ (c_X4_init l D cy σ (newR Z (c + 3 + 2 * k)) (c + 3 + 2 * k) a1 (nI k) q41 q42) ⟨callB_of 2 hts gX0_init_X4_init rfl rfl rfl (hts (.initialized RX4) (by decide +kernel)) (hts (.methodLink RX0 28 yX4_init) (by decide +kernel)) (by decide +kernel) ⟨Nat.le_of_ble_eq_true rfl, Nat.le_of_ble_eq_true rfl⟩, rfl, hts (.instanceMethod yX4_init) (by decide +kernel)⟩ (gPreS hK ⟨hR, hz⟩) rfl rfl hl.1 rfl (lv_room (Nat.le_of_ble_eq_true rfl)) dX0_init_79 ⟨by show 2 + 2 * k + 1 + 1 ≤ 14; omega, by show 30 + 13 * k + 10 + 3 ≤ 108; omega⟩) hS (fun _ h => h) (fun H locs hRR _ hfr hS => ?_)
      obtain ⟨hR, hz⟩ := hRR
      generalize eX : p_X4_init (newR Z (c + 3 + 2 * k)) (c + 3 + 2 * k) a1 (nI k) = X1 at hR hz
      have x1 : X1 c = Z c := by rw [← eX, p_X4_init_o (by omega) (by omega), newR_o (by omega)]
      refine gm_astA hx hb hK.1 hR injC hS gA_CA (a := c + 2) (by omega) rfl (bC_24 q24) (t0 := 4) rfl (gRep.one hR (c := c + 3 + 2 * k) (by omega) (bC_4 q42)) (ci := 4) rfl (vp_in_nI hk6 (by decide)) (j := k) (x := 1) ?_ dX0_init_82 (fun H locs hR z hS => ?_)
      · rw [bC_24 q24, c1 (show k < 2147483648 by omega)]
        have ef : (fun n => gro (upd (X1 (c + 2)) k 1 n) (σ + (c + 2 + 1 + 2 * n))) = va_up (fun n => gro (X1 (c + 2) n) (σ + (c + 2 + 1 + 2 * n))) k (some (σ + (c + 3 + 2 * k))) := by
          funext q
          unfold va_up upd
          by_cases hq : q = k
          · subst hq
            rw [if_pos rfl, if_pos rfl, ea]
            exact if_neg (by decide)
          · rw [if_neg hq, if_neg hq]
        rw [ef]
      · have hz := z.trans hz
        refine lv_iinc (v := nI (k + 1)) (lv' := [(2, .int (nI (k + 1))), (0, .ref (σ + c)), (1, .int a1)]) hx hb dX0_init_83 hl (k := 2) rfl (nI_1 _) (by decide) rfl (fun ls hl => ?_)
        refine lv_goto (tgt := 59) hx hb dX0_init_86 (by decide) ?_
        have e1 : 2 + 2 * k + 1 + 1 = 2 + 2 * (k + 1) := by omega
        have e2 : 30 + 13 * k + 10 + 3 = 30 + 13 * (k + 1) := by omega
        have e3 : c + 3 + 2 * k + 2 = c + 3 + 2 * (k + 1) := by omega
        rw [e1, e2]
        rw [e3] at hR hz
        exact ih (k + 1) (updM X1 (c + 2) k 1) (by omega) (by rw [updM_o (by omega), x1]; exact h1) (by intro H locs ls g1 g2 g3; refine hexit H locs ls ?_ g2 g3; show CR D cy σ (c + 15) (p_sta c a1 n (k + 1) _) H; rw [eX]; exact g1) _ _ _ ⟨hR, hz⟩ hS (lv_sub hl [1, 2, 0] rfl)
def p_X0_init (X : gM) (c : Nat) (a1 : Int32) : gM := p_sta c a1 6 0 (p_fill c 24 0 (updM (updM (updM (newR (updM (newR X (c + 1)) c 1 1) (c + 2)) c 2 1) c 4 8) c 0 a1))
set_option maxHeartbeats 4000000 in
set_option maxRecDepth 100000 in
/-- Line(number): its riders' row, the row of its stations, its stations are made behind it -/
theorem c_X0_init (l : Launch) (D : va_G) (cy : Nat → ClassId) (σ : Nat) (X : gM) (c : Nat) (a1 : Int32) (hc : c < 123) (hk : kdS c = 0) : Met l yX0_init wsX0_init ({ frames := 2, cells := 14, slots := 108, locals := 42 }) (gP [.ref (σ + c), .int a1] D cy (CR D cy σ (c + 1) X)) (gQv (CR D cy σ (c + 15) (p_X0_init X c a1)) (CA σ)) 14 108 (CA σ) := by
  refine gm_metC (cc := cX0_init) (maxL := 3) (ret := none) [.ref (σ + c), .int a1] (by decide) rfl (Nat.le_of_ble_eq_true rfl) ?_
  intro p e s m args below meth c0 ls C hin hR hl
  have C2 := C
  obtain ⟨hx, hb, hr, hts, hown, hlocks, hml, hK⟩ := C
  obtain ⟨hR, hz⟩ := hR
  have hl : lv_has ls 3 [(0, .ref (σ + c)), (1, .int a1)] := hl
  have hS : va_S (CA σ) s.heap s.heap [] := va_S.rf
  have inX0 : ∀ w ∈ u_ws RX0 TX0 10, w ∈ wsX0_init := by decide +kernel
  obtain ⟨⟨-, q20⟩, ⟨-, q24⟩, q4⟩ := kd_0 c hc hk
  have hb0 := kd_0b c hc hk
  refine lv_aload_n hx hb dX0_init_0 rfl (lv_at hl 0 rfl) ?_
  refine W.objInit hx hb hown (hts (.methodLink RX0 3 objectInit) (by decide +kernel)) (hts (.instanceMethod objectInit) (by decide +kernel)) (hts (.code objectInit ⟨#[0xb1]⟩ 1 none) (by decide +kernel)) rfl (by rw [hml]; exact hl.1) rfl dX0_init_1 (Nat.le_of_ble_eq_true rfl) (Nat.le_of_ble_eq_true rfl) ?_
  refine W.eq (g2 := F0 m 4 ls []) rfl ?_
  refine lv_aload_n hx hb dX0_init_4 rfl (lv_at hl 0 rfl) ?_
  refine lv_bipush (v := 24) hx hb dX0_init_5 (by decide) ?_
  refine gm_newi (N := 24) hx hb (hts (.arrayClass .int) (by decide +kernel)) hK.1 (by decide) (by decide) (Nat.le_of_ble_eq_true rfl) (Nat.le_of_ble_eq_true rfl) (Nat.le_of_ble_eq_true rfl) dX0_init_7 hz (fun H h2 z1 o1 => ?_)
  have hS := g_Sm hS hz z1 o1
  obtain ⟨hR, hz⟩ := CR.grow ⟨hR, hz⟩ (bC_20 q20) h2 z1 o1
  refine gm_putFA (v := .ref (σ + (c + 1))) (ty := .array .int) (ci := 0) (C := RX0) (T := TX0) (N := 10) hx hb hts inX0 tyX0 tyX0_ok nmX0 hown hK.1 hR injC hS gA_CA (a := c) (by omega) rfl (bC_0 hk) rfl 1 (by decide) (hts (.fieldLink RX0 11 "MercuryLine$Line" "riders" "[I") (by decide +kernel)) (fun _ h9 => h9) rfl hin rfl (by decide +kernel) rfl rfl (Nat.le_of_ble_eq_true rfl) (j := 1) (x := 1) (by rw [bC_0 hk]; rfl) dX0_init_9 (fun H locs hR z hS => ?_)
  have hz := z.trans hz
  refine lv_aload_n hx hb dX0_init_12 rfl (lv_at hl 0 rfl) ?_
  refine lv_bipush (v := 6) hx hb dX0_init_13 (by decide) ?_
  refine gm_newq (N := 6) (C := "MercuryLine$Station") (t := 4) hx hb hown (hts (.classLink RX0 15 RX4) (by decide +kernel)) (hK.2.2 _ (by decide)) hK.1 rfl (by decide) (by decide) (Nat.le_of_ble_eq_true rfl) (Nat.le_of_ble_eq_true rfl) (Nat.le_of_ble_eq_true rfl) dX0_init_15 hz (fun H h2 z1 o1 => ?_)
  have hS := g_Sm hS hz z1 o1
  obtain ⟨hR, hz⟩ := CR.grow ⟨hR, hz⟩ (show bodyC cy σ (c + 1 + 1) (fun _ => 0) = .inl (cy 4, 6, .inr (.inr (.inr (.inr (fun _ => none))))) by rw [bC_24 q24]; rfl) h2 z1 o1
  refine gm_putFA (v := .ref (σ + (c + 2))) (ty := .array (.object "MercuryLine$Station")) (ci := 0) (C := RX0) (T := TX0) (N := 10) hx hb hts inX0 tyX0 tyX0_ok nmX0 hown hK.1 hR injC hS gA_CA (a := c) (by omega) rfl (bC_0 hk) rfl 2 (by decide) (hts (.fieldLink RX0 17 "MercuryLine$Line" "stations" "[LMercuryLine$Station;") (by decide +kernel)) (fun _ h9 => h9) rfl hin rfl (by decide +kernel) rfl rfl (Nat.le_of_ble_eq_true rfl) (j := 2) (x := 1) (by rw [bC_0 hk]; rfl) dX0_init_18 (fun H locs hR z hS => ?_)
  have hz := z.trans hz
  refine lv_aload_n hx hb dX0_init_21 rfl (lv_at hl 0 rfl) ?_
  refine lv_bipush (v := 8) hx hb dX0_init_22 (by decide) ?_
  refine gm_putA (v := .int 8) (ty := .int) (ci := 0) (C := RX0) (T := TX0) (N := 10) hx hb hts inX0 tyX0 tyX0_ok nmX0 hown hK.1 hR injC hS gA_CA (a := c) (by omega) rfl (bC_0 hk) rfl 4 (by decide) (hts (.fieldLink RX0 21 "MercuryLine$Line" "slots" "I") (by decide +kernel)) (fun _ h9 => h9) rfl (by decide +kernel) rfl rfl (Nat.le_of_ble_eq_true rfl) (j := 4) (x := 8) (by rw [bC_0 hk]; rfl) dX0_init_24 (fun H locs hR z hS => ?_)
  have hz := z.trans hz
  refine lv_aload_n hx hb dX0_init_27 rfl (lv_at hl 0 rfl) ?_
  refine lv_iload_n hx hb dX0_init_28 rfl (lv_at hl 1 rfl) ?_
  refine gm_putFA (v := .int a1) (ty := .int) (ci := 0) (C := RX0) (T := TX0) (N := 10) hx hb hts inX0 tyX0 tyX0_ok nmX0 hown hK.1 hR injC hS gA_CA (a := c) (by omega) rfl (bC_0 hk) rfl 0 (by decide) (hts (.fieldLink RX0 25 "MercuryLine$Line" "number" "I") (by decide +kernel)) (fun _ h9 => h9) rfl hin rfl (by decide +kernel) rfl rfl (Nat.le_of_ble_eq_true rfl) (j := 0) (x := a1) (by rw [bC_0 hk]; rfl) dX0_init_29 (fun H locs hR z hS => ?_)
  have hz := z.trans hz
  generalize eZ : updM (updM (updM (newR (updM (newR X (c + 1)) c 1 1) (c + 2)) c 2 1) c 4 8) c 0 a1 = Z at hR
  have r1 : Z c 1 = 1 := by rw [← eZ, updM_sn (by decide), updM_sn (by decide), updM_sn (by decide), newR_o (by omega), updM_ss]
  have r2 : Z c 2 = 1 := by rw [← eZ, updM_sn (by decide), updM_sn (by decide), updM_ss]
  refine lv_iconst (v := 0) hx hb dX0_init_32 (by decide) ?_
  refine lv_istore_n (lv' := [(2, .int 0), (0, .ref (σ + c)), (1, .int a1)]) hx hb dX0_init_33 rfl hl (by decide) rfl (fun ls hl => ?_)
  refine lp_X0_init_34 C2 σ c a1 hc hk 24 0 Z rfl r1 (fun H locs ls hR hS hl => ?_) _ _ _ ⟨hR, hz⟩ hS (lv_sub hl [1, 2, 0] rfl)
  refine lv_iconst (v := 0) hx hb dX0_init_57 (by decide) ?_
  refine lv_istore_n (lv' := [(2, .int 0), (0, .ref (σ + c)), (1, .int a1)]) hx hb dX0_init_58 rfl hl (by decide) rfl (fun ls hl => ?_)
  refine lp_X0_init_59 C2 σ c a1 hc hk 6 0 (p_fill c 24 0 Z) rfl (by rw [p_fill_o (by omega)]; exact r2) (fun H locs ls hR hS hl => ?_) _ _ _ hR hS (lv_sub hl [1, 2, 0] rfl)
  exact gm_vretC hx hb hr hlocks hS (by unfold p_X0_init; rw [eZ]; exact hR) dX0_init_89
