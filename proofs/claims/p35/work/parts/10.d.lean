/-! the constructor of a State: its loops -/
theorem p_X5_init_o {X : gM} {c a : Nat} {a1 : Int32} (h1 : a ≠ c) (h2 : a ≠ c + 1) : p_X5_init X c a1 a = X a := by
  unfold p_X5_init
  rw [updM_o h1, updM_o h1, newR_o h2]
theorem p_X2_init_o {X : gM} {c a : Nat} (h1 : a ≠ c) (h2 : a ≠ c + 1) : p_X2_init X c a = X a := by
  unfold p_X2_init
  rw [updM_o h1, newR_o h2]
def p_tic : Nat → Nat → gM → gM
  | 0, _, Z => Z
  | n + 1, k, Z => p_tic n (k + 1) (updM (p_X5_init (newR Z (35 + 2 * k)) (35 + 2 * k) (nI k)) 31 k 1)
def p_ord : Nat → Nat → gM → gM
  | 0, _, Z => Z
  | n + 1, k, Z => p_ord n (k + 1) (updM (p_X2_init (newR Z (115 + 2 * k)) (115 + 2 * k)) 32 k 1)
set_option maxHeartbeats 4000000 in
set_option maxRecDepth 100000 in
theorem lp_X3_init_69 {p : Program} {l : Launch} {e : Env} {s : State} {m : MethodId} {args : Array Value} {below : List Frame} {meth : Method} {c0 : Code} {D : va_G} {cy : Nat → ClassId} {Q : State → Prop} (C : gCtx cX3_init 2 none RX3 wsX3_init D cy p s m args meth c0) (σ : Nat) :
    ∀ (n k : Nat) (Z : gM), k + n = 40 → Z 0 2 = 1 → (∀ (H : Heap) (locs : List Loc) (ls : Array Slot), CR D cy σ 115 (p_tic n k Z) H → va_S (CA σ) s.heap H locs → lv_has ls 2 [(0, .ref σ), (1, .int (nI 40))] → W p l e { frames := 3, cells := 122, slots := 1147, locals := 64 } s m args below meth c0 H locs 114 1103 Q (F0 m 98 ls [])) → ∀ (H : Heap) (locs : List Loc) (ls : Array Slot), CR D cy σ (35 + 2 * k) Z H → va_S (CA σ) s.heap H locs → lv_has ls 2 [(0, .ref σ), (1, .int (nI k))] → W p l e { frames := 3, cells := 122, slots := 1147, locals := 64 } s m args below meth c0 H locs (34 + 2 * k) (343 + 19 * k) Q (F0 m 69 ls []) := by
  obtain ⟨hx, hb, hr, hts, hown, hlocks, hml, hK⟩ := C
  have lkA := hts (.fieldLink RX3 25 "MercuryLine$State" "tickets" "[LMercuryLine$Ticket;") (by decide +kernel)
  have inX3 : ∀ w ∈ u_ws RX3 TX3 14, w ∈ wsX3_init := by decide +kernel
  have inXq : ∀ w ∈ u_ws RX5 TX5 14, w ∈ wsX3_init := by decide +kernel
  intro n
  induction n with
  | zero =>
    intro k Z hkn h1 hexit H locs ls hR hS hl
    have e : k = 40 := by omega
    subst e
    have b1 : bodyC cy σ 0 (Z 0) = .inr (3, [gr (Z 0 0) (σ + 1), gr (Z 0 1) (σ + 16), .ref (σ + 31), gr (Z 0 3) (σ + 32), gr (Z 0 4) (σ + 33), .int (Z 0 5), .int (Z 0 6), .int (Z 0 7), .int (Z 0 8), .int (Z 0 9), .int (Z 0 10), .int (Z 0 11), .int (Z 0 12), .int (Z 0 13)]) := by rw [bC_3 (by decide), h1, gr1]
    refine lv_iload_n hx hb dX3_init_69 rfl (lv_at hl 1 rfl) ?_
    refine lv_aload_n hx hb dX3_init_70 rfl (lv_at hl 0 rfl) ?_
    refine va_get (D := D) (ci := 3) (v := .ref (σ + 31)) (C := RX3) (T := TX3) (N := 14) hx hb hts inX3 hown hK.1 (gRep.oneAt hR.1 (c := 0) (b0 := σ) (by omega) rfl b1) 0 rfl rfl 2 (by decide) lkA (fun _ h9 => h9) rfl dX3_init_71 ?_
    refine va_alen (v := 40) hx hb hK.1 (gRep.one hR.1 (c := 31) (by omega) (bC_25 (by decide))) 0 5 rfl rfl rfl dX3_init_74 ?_
    refine lv_icmp_ge (tgt := 98) hx hb dX3_init_75 (by decide) (fun c_1 => ?_) (fun c_1 => ?_)
    · exact hexit H locs ls hR hS hl
    · exact absurd (show (40 : Int32) ≤ nI 40 by decide +kernel) c_1
  | succ n ih =>
    intro k Z hkn h1 hexit H locs ls hR hS hl
    have hk6 : k < 40 := by omega
    have b1 : bodyC cy σ 0 (Z 0) = .inr (3, [gr (Z 0 0) (σ + 1), gr (Z 0 1) (σ + 16), .ref (σ + 31), gr (Z 0 3) (σ + 32), gr (Z 0 4) (σ + 33), .int (Z 0 5), .int (Z 0 6), .int (Z 0 7), .int (Z 0 8), .int (Z 0 9), .int (Z 0 10), .int (Z 0 11), .int (Z 0 12), .int (Z 0 13)]) := by rw [bC_3 (by decide), h1, gr1]
    have q41 : 35 + 2 * k < 123 := (kd_T k hk6).1
    have q42 : kdS (35 + 2 * k) = 5 := (kd_T k hk6).2.1
    refine lv_iload_n hx hb dX3_init_69 rfl (lv_at hl 1 rfl) ?_
    refine lv_aload_n hx hb dX3_init_70 rfl (lv_at hl 0 rfl) ?_
    refine va_get (D := D) (ci := 3) (v := .ref (σ + 31)) (C := RX3) (T := TX3) (N := 14) hx hb hts inX3 hown hK.1 (gRep.oneAt hR.1 (c := 0) (b0 := σ) (by omega) rfl b1) 0 rfl rfl 2 (by decide) lkA (fun _ h9 => h9) rfl dX3_init_71 ?_
    refine va_alen (v := 40) hx hb hK.1 (gRep.one hR.1 (c := 31) (by omega) (bC_25 (by decide))) 0 5 rfl rfl rfl dX3_init_74 ?_
    refine lv_icmp_ge (tgt := 98) hx hb dX3_init_75 (by decide) (fun c_1 => ?_) (fun c_1 => ?_)
    · exact absurd c_1 (nI_ge (b := 40) (by omega) (by decide))
    · refine lv_aload_n hx hb dX3_init_78 rfl (lv_at hl 0 rfl) ?_
      refine va_get (D := D) (ci := 3) (v := .ref (σ + 31)) (C := RX3) (T := TX3) (N := 14) hx hb hts inX3 hown hK.1 (gRep.oneAt hR.1 (c := 0) (b0 := σ) (by omega) rfl b1) 0 rfl rfl 2 (by decide) lkA (fun _ h9 => h9) rfl dX3_init_79 ?_
      refine lv_iload_n hx hb dX3_init_82 rfl (lv_at hl 1 rfl) ?_
      obtain ⟨hR, hz⟩ := hR
      refine gm_new (ci := 5) (fs := [.int 0, .null, .int 0, .int 0, .int 0, .int 0, .int 0, .int 0, .int 0, .int 0, .int 0, .int 0, .int 0, .int 0]) (C := RX5) (T := TX5) (N := 14) hx hb hts inXq tyX5 tyX5_ok hown (hts (.classLink RX3 23 RX5) (by decide +kernel)) (hts (.instantiable RX5 14) (by decide +kernel)) (hts (.initialized RX5) (by decide +kernel)) hK.1 rfl (fun j hj => by rcases (show j = 0 ∨ j = 1 ∨ j = 2 ∨ j = 3 ∨ j = 4 ∨ j = 5 ∨ j = 6 ∨ j = 7 ∨ j = 8 ∨ j = 9 ∨ j = 10 ∨ j = 11 ∨ j = 12 ∨ j = 13 by omega) with rfl | rfl | rfl | rfl | rfl | rfl | rfl | rfl | rfl | rfl | rfl | rfl | rfl | rfl <;> rfl) (by show 34 + 2 * k + 1 ≤ 122; omega) (by show 343 + 19 * k + 14 ≤ 1147; omega) dX3_init_83 hz (fun H h2 z1 o1 => ?_)
      have hS := g_Sm hS hz z1 o1
      obtain ⟨hR, hz⟩ := CR.grow ⟨hR, hz⟩ (show bodyC cy σ (35 + 2 * k) (fun _ => 0) = .inr (5, [.int 0, .null, .int 0, .int 0, .int 0, .int 0, .int 0, .int 0, .int 0, .int 0, .int 0, .int 0, .int 0, .int 0]) by rw [bC_5 q42]; rfl) h2 z1 o1
      refine lv_dup hx hb dX3_init_86 rfl ?_
      refine lv_iload_n hx hb dX3_init_87 rfl (lv_at hl 1 rfl) ?_
      refine gm_cvC (mc := 1) (ms := 5) (va_runI (As := [.int (nI k)]) (rest := [.ref (σ + (35 + 2 * k)), .int (nI k), .ref (σ + 31)]) ⟨hx, hb, hml, hown, hts⟩ (c_X5_init l D cy σ (newR Z (35 + 2 * k)) (35 + 2 * k) (nI k) q41 q42) ⟨callB_of 1 hts gX3_init_X5_init rfl rfl rfl (hts (.initialized RX5) (by decide +kernel)) (hts (.methodLink RX3 49 yX5_init) (by decide +kernel)) (by decide +kernel) ⟨Nat.le_of_ble_eq_true rfl, Nat.le_of_ble_eq_true rfl⟩, rfl, hts (.instanceMethod yX5_init) (by decide +kernel)⟩ (gPreS hK ⟨hR, hz⟩) rfl rfl hl.1 rfl (lv_room (Nat.le_of_ble_eq_true rfl)) dX3_init_88 ⟨by show 34 + 2 * k + 1 + 1 ≤ 122; omega, by show 343 + 19 * k + 14 + 5 ≤ 1147; omega⟩) hS (fun _ h => h) (fun H locs hRR _ hfr hS => ?_)
      obtain ⟨hR, hz⟩ := hRR
      generalize eX : p_X5_init (newR Z (35 + 2 * k)) (35 + 2 * k) (nI k) = X1 at hR hz
      have x1 : X1 0 = Z 0 := by rw [← eX, p_X5_init_o (by omega) (by omega), newR_o (by omega)]
      refine gm_astA hx hb hK.1 hR injC hS gA_CA (a := 31) (by omega) rfl (bC_25 (by decide)) (t0 := 5) rfl (gRep.one hR (c := 35 + 2 * k) (by omega) (bC_5 q42)) (ci := 5) rfl (vp_in_nI hk6 (by decide)) (j := k) (x := 1) ?_ dX3_init_91 (fun H locs hR z hS => ?_)
      · rw [bC_25 (by decide), c1 (show k < 2147483648 by omega)]
        have ef : (fun n => gro (upd (X1 31) k 1 n) (σ + (35 + 2 * n))) = va_up (fun n => gro (X1 31 n) (σ + (35 + 2 * n))) k (some (σ + (35 + 2 * k))) := by
          funext q
          unfold va_up upd
          by_cases hq : q = k
          · subst hq
            rw [if_pos rfl, if_pos rfl]
            exact if_neg (by decide)
          · rw [if_neg hq, if_neg hq]
        rw [ef]
      · have hz := z.trans hz
        refine lv_iinc (v := nI (k + 1)) (lv' := [(1, .int (nI (k + 1))), (0, .ref σ)]) hx hb dX3_init_92 hl (k := 1) rfl (nI_1 _) (by decide) rfl (fun ls hl => ?_)
        refine lv_goto (tgt := 69) hx hb dX3_init_95 (by decide) ?_
        have e1 : 34 + 2 * k + 1 + 1 = 34 + 2 * (k + 1) := by omega
        have e2 : 343 + 19 * k + 14 + 5 = 343 + 19 * (k + 1) := by omega
        have e3 : 35 + 2 * k + 2 = 35 + 2 * (k + 1) := by omega
        rw [e1, e2]
        rw [e3] at hR hz
        exact ih (k + 1) (updM X1 31 k 1) (by omega) (by rw [updM_o (by omega), x1]; exact h1) (by intro H locs ls g1 g2 g3; refine hexit H locs ls ?_ g2 g3; show CR D cy σ 115 (p_tic n (k + 1) _) H; rw [eX]; exact g1) _ _ _ ⟨hR, hz⟩ hS (lv_sub hl [1, 0] rfl)
set_option maxHeartbeats 4000000 in
set_option maxRecDepth 100000 in
theorem lp_X3_init_100 {p : Program} {l : Launch} {e : Env} {s : State} {m : MethodId} {args : Array Value} {below : List Frame} {meth : Method} {c0 : Code} {D : va_G} {cy : Nat → ClassId} {Q : State → Prop} (C : gCtx cX3_init 2 none RX3 wsX3_init D cy p s m args meth c0) (σ : Nat) :
    ∀ (n k : Nat) (Z : gM), k + n = 4 → Z 0 3 = 1 → (∀ (H : Heap) (locs : List Loc) (ls : Array Slot), CR D cy σ 123 (p_ord n k Z) H → va_S (CA σ) s.heap H locs → lv_has ls 2 [(0, .ref σ), (1, .int (nI 4))] → W p l e { frames := 3, cells := 122, slots := 1147, locals := 64 } s m args below meth c0 H locs 122 1147 Q (F0 m 128 ls [])) → ∀ (H : Heap) (locs : List Loc) (ls : Array Slot), CR D cy σ (115 + 2 * k) Z H → va_S (CA σ) s.heap H locs → lv_has ls 2 [(0, .ref σ), (1, .int (nI k))] → W p l e { frames := 3, cells := 122, slots := 1147, locals := 64 } s m args below meth c0 H locs (114 + 2 * k) (1103 + 11 * k) Q (F0 m 100 ls []) := by
  obtain ⟨hx, hb, hr, hts, hown, hlocks, hml, hK⟩ := C
  have lkA := hts (.fieldLink RX3 31 "MercuryLine$State" "orders" "[LMercuryLine$Order;") (by decide +kernel)
  have inX3 : ∀ w ∈ u_ws RX3 TX3 14, w ∈ wsX3_init := by decide +kernel
  have inXq : ∀ w ∈ u_ws RX2 TX2 6, w ∈ wsX3_init := by decide +kernel
  intro n
  induction n with
  | zero =>
    intro k Z hkn h1 hexit H locs ls hR hS hl
    have e : k = 4 := by omega
    subst e
    have b1 : bodyC cy σ 0 (Z 0) = .inr (3, [gr (Z 0 0) (σ + 1), gr (Z 0 1) (σ + 16), gr (Z 0 2) (σ + 31), .ref (σ + 32), gr (Z 0 4) (σ + 33), .int (Z 0 5), .int (Z 0 6), .int (Z 0 7), .int (Z 0 8), .int (Z 0 9), .int (Z 0 10), .int (Z 0 11), .int (Z 0 12), .int (Z 0 13)]) := by rw [bC_3 (by decide), h1, gr1]
    refine lv_iload_n hx hb dX3_init_100 rfl (lv_at hl 1 rfl) ?_
    refine lv_aload_n hx hb dX3_init_101 rfl (lv_at hl 0 rfl) ?_
    refine va_get (D := D) (ci := 3) (v := .ref (σ + 32)) (C := RX3) (T := TX3) (N := 14) hx hb hts inX3 hown hK.1 (gRep.oneAt hR.1 (c := 0) (b0 := σ) (by omega) rfl b1) 0 rfl rfl 3 (by decide) lkA (fun _ h9 => h9) rfl dX3_init_102 ?_
    refine va_alen (v := 4) hx hb hK.1 (gRep.one hR.1 (c := 32) (by omega) (bC_26 (by decide))) 0 2 rfl rfl rfl dX3_init_105 ?_
    refine lv_icmp_ge (tgt := 128) hx hb dX3_init_106 (by decide) (fun c_1 => ?_) (fun c_1 => ?_)
    · exact hexit H locs ls hR hS hl
    · exact absurd (show (4 : Int32) ≤ nI 4 by decide +kernel) c_1
  | succ n ih =>
    intro k Z hkn h1 hexit H locs ls hR hS hl
    have hk6 : k < 4 := by omega
    have b1 : bodyC cy σ 0 (Z 0) = .inr (3, [gr (Z 0 0) (σ + 1), gr (Z 0 1) (σ + 16), gr (Z 0 2) (σ + 31), .ref (σ + 32), gr (Z 0 4) (σ + 33), .int (Z 0 5), .int (Z 0 6), .int (Z 0 7), .int (Z 0 8), .int (Z 0 9), .int (Z 0 10), .int (Z 0 11), .int (Z 0 12), .int (Z 0 13)]) := by rw [bC_3 (by decide), h1, gr1]
    have q41 : 115 + 2 * k < 123 := (kd_O k hk6).1
    have q42 : kdS (115 + 2 * k) = 2 := (kd_O k hk6).2
    refine lv_iload_n hx hb dX3_init_100 rfl (lv_at hl 1 rfl) ?_
    refine lv_aload_n hx hb dX3_init_101 rfl (lv_at hl 0 rfl) ?_
    refine va_get (D := D) (ci := 3) (v := .ref (σ + 32)) (C := RX3) (T := TX3) (N := 14) hx hb hts inX3 hown hK.1 (gRep.oneAt hR.1 (c := 0) (b0 := σ) (by omega) rfl b1) 0 rfl rfl 3 (by decide) lkA (fun _ h9 => h9) rfl dX3_init_102 ?_
    refine va_alen (v := 4) hx hb hK.1 (gRep.one hR.1 (c := 32) (by omega) (bC_26 (by decide))) 0 2 rfl rfl rfl dX3_init_105 ?_
    refine lv_icmp_ge (tgt := 128) hx hb dX3_init_106 (by decide) (fun c_1 => ?_) (fun c_1 => ?_)
    · exact absurd c_1 (nI_ge (b := 4) (by omega) (by decide))
    · refine lv_aload_n hx hb dX3_init_109 rfl (lv_at hl 0 rfl) ?_
      refine va_get (D := D) (ci := 3) (v := .ref (σ + 32)) (C := RX3) (T := TX3) (N := 14) hx hb hts inX3 hown hK.1 (gRep.oneAt hR.1 (c := 0) (b0 := σ) (by omega) rfl b1) 0 rfl rfl 3 (by decide) lkA (fun _ h9 => h9) rfl dX3_init_110 ?_
      refine lv_iload_n hx hb dX3_init_113 rfl (lv_at hl 1 rfl) ?_
      obtain ⟨hR, hz⟩ := hR
      refine gm_new (ci := 2) (fs := [.null, .int 0, .int 0, .int 0, .int 0, .int 0]) (C := RX2) (T := TX2) (N := 6) hx hb hts inXq tyX2 tyX2_ok hown (hts (.classLink RX3 29 RX2) (by decide +kernel)) (hts (.instantiable RX2 6) (by decide +kernel)) (hts (.initialized RX2) (by decide +kernel)) hK.1 rfl (fun j hj => by rcases (show j = 0 ∨ j = 1 ∨ j = 2 ∨ j = 3 ∨ j = 4 ∨ j = 5 by omega) with rfl | rfl | rfl | rfl | rfl | rfl <;> rfl) (by show 114 + 2 * k + 1 ≤ 122; omega) (by show 1103 + 11 * k + 6 ≤ 1147; omega) dX3_init_114 hz (fun H h2 z1 o1 => ?_)
      have hS := g_Sm hS hz z1 o1
      obtain ⟨hR, hz⟩ := CR.grow ⟨hR, hz⟩ (show bodyC cy σ (115 + 2 * k) (fun _ => 0) = .inr (2, [.null, .int 0, .int 0, .int 0, .int 0, .int 0]) by rw [bC_2 q42]; rfl) h2 z1 o1
      refine lv_dup hx hb dX3_init_117 rfl ?_
      refine gm_cvC (mc := 1) (ms := 5) (va_runIN (As := []) (rest := [.ref (σ + (115 + 2 * k)), .int (nI k), .ref (σ + 32)]) ⟨hx, hb, hml, hown, hts⟩ (c_X2_init l D cy σ (newR Z (115 + 2 * k)) (115 + 2 * k) q41 q42) ⟨va_cnB 0 hts gX3_init_X2_init_n50 rfl rfl rfl (hK.2.1 (RX3, 50, yX2_init, "MercuryLine") (by decide +kernel)) (hts (.initialized RX2) (by decide +kernel)) (by decide +kernel) ⟨Nat.le_of_ble_eq_true rfl, Nat.le_of_ble_eq_true rfl⟩, rfl, hts (.instanceMethod yX2_init) (by decide +kernel)⟩ (gPreS hK ⟨hR, hz⟩) rfl rfl hl.1 rfl (lv_room (Nat.le_of_ble_eq_true rfl)) dX3_init_118 ⟨by show 114 + 2 * k + 1 + 1 ≤ 122; omega, by show 1103 + 11 * k + 6 + 5 ≤ 1147; omega⟩) hS (fun _ h => h) (fun H locs hRR _ hfr hS => ?_)
      obtain ⟨hR, hz⟩ := hRR
      generalize eX : p_X2_init (newR Z (115 + 2 * k)) (115 + 2 * k) = X1 at hR hz
      have x1 : X1 0 = Z 0 := by rw [← eX, p_X2_init_o (by omega) (by omega), newR_o (by omega)]
      refine gm_astA hx hb hK.1 hR injC hS gA_CA (a := 32) (by omega) rfl (bC_26 (by decide)) (t0 := 2) rfl (gRep.one hR (c := 115 + 2 * k) (by omega) (bC_2 q42)) (ci := 2) rfl (vp_in_nI hk6 (by decide)) (j := k) (x := 1) ?_ dX3_init_121 (fun H locs hR z hS => ?_)
      · rw [bC_26 (by decide), c1 (show k < 2147483648 by omega)]
        have ef : (fun n => gro (upd (X1 32) k 1 n) (σ + (115 + 2 * n))) = va_up (fun n => gro (X1 32 n) (σ + (115 + 2 * n))) k (some (σ + (115 + 2 * k))) := by
          funext q
          unfold va_up upd
          by_cases hq : q = k
          · subst hq
            rw [if_pos rfl, if_pos rfl]
            exact if_neg (by decide)
          · rw [if_neg hq, if_neg hq]
        rw [ef]
      · have hz := z.trans hz
        refine lv_iinc (v := nI (k + 1)) (lv' := [(1, .int (nI (k + 1))), (0, .ref σ)]) hx hb dX3_init_122 hl (k := 1) rfl (nI_1 _) (by decide) rfl (fun ls hl => ?_)
        refine lv_goto (tgt := 100) hx hb dX3_init_125 (by decide) ?_
        have e1 : 114 + 2 * k + 1 + 1 = 114 + 2 * (k + 1) := by omega
        have e2 : 1103 + 11 * k + 6 + 5 = 1103 + 11 * (k + 1) := by omega
        have e3 : 115 + 2 * k + 2 = 115 + 2 * (k + 1) := by omega
        rw [e1, e2]
        rw [e3] at hR hz
        exact ih (k + 1) (updM X1 32 k 1) (by omega) (by rw [updM_o (by omega), x1]; exact h1) (by intro H locs ls g1 g2 g3; refine hexit H locs ls ?_ g2 g3; show CR D cy σ 123 (p_ord n (k + 1) _) H; rw [eX]; exact g1) _ _ _ ⟨hR, hz⟩ hS (lv_sub hl [1, 0] rfl)
