/-! the constructor of the reference: its six rows, its first numbers -/
def bodyN (cy : Nat → ClassId) (μ : Nat) : gB := fun c r =>
  if c = 0 then .inr (9, [gr (r 0) (μ + 1), gr (r 1) (μ + 2), .int (r 2), gr (r 3) (μ + 3), .int (r 4), gr (r 5) (μ + 4), gr (r 6) (μ + 5), .int (r 7), .int (r 8), .int (r 9), .int (r 10), gr (r 11) (μ + 6), .int (r 12), .int (r 13), .int (r 14)])
  else bodyM cy μ c r
theorem bN_0 {cy : Nat → ClassId} {μ : Nat} {r : Nat → Int32} : bodyN cy μ 0 r = .inr (9, [gr (r 0) (μ + 1), gr (r 1) (μ + 2), .int (r 2), gr (r 3) (μ + 3), .int (r 4), gr (r 5) (μ + 4), gr (r 6) (μ + 5), .int (r 7), .int (r 8), .int (r 9), .int (r 10), gr (r 11) (μ + 6), .int (r 12), .int (r 13), .int (r 14)]) := rfl
theorem bN_M {cy : Nat → ClassId} {μ c : Nat} {r : Nat → Int32} (h : c ≠ 0) : bodyN cy μ c r = bodyM cy μ c r := if_neg h
theorem bN_1 {cy : Nat → ClassId} {μ : Nat} {r : Nat → Int32} : bodyN cy μ 1 r = .inl (cy 0, 974, .inl r) := rfl
/-- n cells of the reference in the making, at the heap's end -/
def NR (D : va_G) (cy : Nat → ClassId) (μ n : Nat) (X : gM) (H : Heap) : Prop := gRep D (bodyN cy μ) n (adS μ) X H ∧ H.size = μ + n
theorem NR.grow {D : va_G} {cy : Nat → ClassId} {μ n : Nat} {X : gM} {H H1 : Heap} {e : va_E} (h : NR D cy μ n X H) (he : bodyN cy μ n (fun _ => 0) = e) (h1 : va_at D vwCl (μ + n, e) H1) (hz : H1.size = μ + n + 1) (o : ∀ q : Nat, q < μ + n → H1[q]? = H[q]?) : NR D cy μ (n + 1) (newR X n) H1 :=
  ⟨gRep.grow h.1 (by rw [he]; exact h1) o, hz⟩
def p_lin : Nat → Nat → gM → gM
  | 0, _, Z => Z
  | n + 1, k, Z => p_lin n (k + 1) (updM Z 1 (10 + 8 * k) 8)
def p_sea : Nat → Nat → gM → gM
  | 0, _, Z => Z
  | n + 1, k, Z => p_sea n (k + 1) (updM Z 1 (26 + k) (-5))
theorem p_lin_o : ∀ n k Z, p_lin n k Z 0 = Z 0 := by
  intro n
  induction n with
  | zero => intro k Z; rfl
  | succ n ih =>
    intro k Z
    show p_lin n (k + 1) _ 0 = _
    rw [ih, updM_o (by decide)]
theorem j_lin : ∀ k, k < 2 → (10 + 8 * nI k + 0 : Int32) = nI (10 + 8 * k) := by decide +kernel
theorem j_sea : ∀ k, k < 48 → (26 + nI k : Int32) = nI (26 + k) := by decide +kernel
set_option maxHeartbeats 4000000 in
set_option maxRecDepth 100000 in
theorem lp_X9_init_75 {p : Program} {l : Launch} {e : Env} {R : Room} {s : State} {m : MethodId} {args : Array Value} {below : List Frame} {meth : Method} {c0 : Code} {D : va_G} {cy : Nat → ClassId} {cells slots : Nat} {Q : State → Prop} (C : gCtx cX9_init 2 none RX9 wsX9_init D cy p s m args meth c0) (μ : Nat) :
    ∀ (n k : Nat) (Z : gM), k + n = 2 → Z 0 0 = 1 → (∀ (H : Heap) (locs : List Loc) (ls : Array Slot), NR D cy μ 7 (p_lin n k Z) H → va_S (CA μ) s.heap H locs → lv_has ls 2 [(0, .ref μ), (1, .int (nI 2))] → W p l e R s m args below meth c0 H locs cells slots Q (F0 m 102 ls [])) → ∀ (H : Heap) (locs : List Loc) (ls : Array Slot), NR D cy μ 7 Z H → va_S (CA μ) s.heap H locs → lv_has ls 2 [(0, .ref μ), (1, .int (nI k))] → W p l e R s m args below meth c0 H locs cells slots Q (F0 m 75 ls []) := by
  obtain ⟨hx, hb, hr, hts, hown, hlocks, hml, hK⟩ := C
  have lkA := hts (.fieldLink RX9 7 "MercuryLineModel" "s" "[I") (by decide +kernel)
  have inX9 : ∀ w ∈ u_ws RX9 TX9 15, w ∈ wsX9_init := by decide +kernel
  intro n
  induction n with
  | zero =>
    intro k Z hkn h1 hexit H locs ls hR hS hl
    have e : k = 2 := by omega
    subst e
    refine lv_iload_n hx hb dX9_init_75 rfl (lv_at hl 1 rfl) ?_
    refine lv_iconst (v := 2) hx hb dX9_init_76 (by decide) ?_
    refine lv_icmp_ge (tgt := 102) hx hb dX9_init_77 (by decide) (fun c_1 => ?_) (fun c_1 => ?_)
    · exact hexit H locs ls hR hS hl
    · exact absurd (show (2 : Int32) ≤ nI 2 by decide +kernel) c_1
  | succ n ih =>
    intro k Z hkn h1 hexit H locs ls hR hS hl
    have hk6 : k < 2 := by omega
    have b1 : bodyN cy μ 0 (Z 0) = .inr (9, [.ref (μ + 1), gr (Z 0 1) (μ + 2), .int (Z 0 2), gr (Z 0 3) (μ + 3), .int (Z 0 4), gr (Z 0 5) (μ + 4), gr (Z 0 6) (μ + 5), .int (Z 0 7), .int (Z 0 8), .int (Z 0 9), .int (Z 0 10), gr (Z 0 11) (μ + 6), .int (Z 0 12), .int (Z 0 13), .int (Z 0 14)]) := by rw [bN_0, h1, gr1]
    refine lv_iload_n hx hb dX9_init_75 rfl (lv_at hl 1 rfl) ?_
    refine lv_iconst (v := 2) hx hb dX9_init_76 (by decide) ?_
    refine lv_icmp_ge (tgt := 102) hx hb dX9_init_77 (by decide) (fun c_1 => ?_) (fun c_1 => ?_)
    · exact absurd c_1 (nI_ge (b := 2) (by omega) (by decide))
    · refine lv_aload_n hx hb dX9_init_80 rfl (lv_at hl 0 rfl) ?_
      refine va_get (D := D) (ci := 9) (v := .ref (μ + 1)) (C := RX9) (T := TX9) (N := 15) hx hb hts inX9 hown hK.1 (gRep.oneAt hR.1 (c := 0) (b0 := μ) (by omega) rfl b1) 0 rfl rfl 0 (by decide) lkA (fun _ h9 => h9) rfl dX9_init_81 ?_
      refine lv_bipush (v := 10) hx hb dX9_init_84 (by decide) ?_
      refine lv_bipush (v := 8) hx hb dX9_init_86 (by decide) ?_
      refine lv_iload_n hx hb dX9_init_88 rfl (lv_at hl 1 rfl) ?_
      refine lv_imul hx hb dX9_init_89 ?_
      refine lv_iadd hx hb dX9_init_90 ?_
      refine lv_iconst (v := 0) hx hb dX9_init_91 (by decide) ?_
      refine lv_iadd hx hb dX9_init_92 ?_
      refine lv_bipush (v := 8) hx hb dX9_init_93 (by decide) ?_
      rw [j_lin k hk6]
      obtain ⟨hR, hz⟩ := hR
      refine gm_iastA hx hb hK.1 hR injC hS gA_CA (a := 1) (by omega) rfl (k := 974) (fun r => bN_1) (vp_in_nI (by omega) (by decide)) dX9_init_95 (fun H locs hR z hS => ?_)
      have hz := z.trans hz
      rw [c1 (show 10 + 8 * k < 2147483648 by omega)] at hR
      refine lv_iinc (v := nI (k + 1)) (lv' := [(1, .int (nI (k + 1))), (0, .ref μ)]) hx hb dX9_init_96 hl (k := 1) rfl (nI_1 _) (by decide) rfl (fun ls hl => ?_)
      refine lv_goto (tgt := 75) hx hb dX9_init_99 (by decide) ?_
      exact ih (k + 1) _ (by omega) (by rw [updM_o (by omega)]; exact h1) hexit _ _ _ ⟨hR, hz⟩ hS (lv_sub hl [1, 0] rfl)
set_option maxHeartbeats 4000000 in
set_option maxRecDepth 100000 in
theorem lp_X9_init_104 {p : Program} {l : Launch} {e : Env} {R : Room} {s : State} {m : MethodId} {args : Array Value} {below : List Frame} {meth : Method} {c0 : Code} {D : va_G} {cy : Nat → ClassId} {cells slots : Nat} {Q : State → Prop} (C : gCtx cX9_init 2 none RX9 wsX9_init D cy p s m args meth c0) (μ : Nat) :
    ∀ (n k : Nat) (Z : gM), k + n = 48 → Z 0 0 = 1 → (∀ (H : Heap) (locs : List Loc) (ls : Array Slot), NR D cy μ 7 (p_sea n k Z) H → va_S (CA μ) s.heap H locs → lv_has ls 2 [(0, .ref μ), (1, .int (nI 48))] → W p l e R s m args below meth c0 H locs cells slots Q (F0 m 127 ls [])) → ∀ (H : Heap) (locs : List Loc) (ls : Array Slot), NR D cy μ 7 Z H → va_S (CA μ) s.heap H locs → lv_has ls 2 [(0, .ref μ), (1, .int (nI k))] → W p l e R s m args below meth c0 H locs cells slots Q (F0 m 104 ls []) := by
  obtain ⟨hx, hb, hr, hts, hown, hlocks, hml, hK⟩ := C
  have lkA := hts (.fieldLink RX9 7 "MercuryLineModel" "s" "[I") (by decide +kernel)
  have inX9 : ∀ w ∈ u_ws RX9 TX9 15, w ∈ wsX9_init := by decide +kernel
  intro n
  induction n with
  | zero =>
    intro k Z hkn h1 hexit H locs ls hR hS hl
    have e : k = 48 := by omega
    subst e
    refine lv_iload_n hx hb dX9_init_104 rfl (lv_at hl 1 rfl) ?_
    refine lv_bipush (v := 48) hx hb dX9_init_105 (by decide) ?_
    refine lv_icmp_ge (tgt := 127) hx hb dX9_init_107 (by decide) (fun c_1 => ?_) (fun c_1 => ?_)
    · exact hexit H locs ls hR hS hl
    · exact absurd (show (48 : Int32) ≤ nI 48 by decide +kernel) c_1
  | succ n ih =>
    intro k Z hkn h1 hexit H locs ls hR hS hl
    have hk6 : k < 48 := by omega
    have b1 : bodyN cy μ 0 (Z 0) = .inr (9, [.ref (μ + 1), gr (Z 0 1) (μ + 2), .int (Z 0 2), gr (Z 0 3) (μ + 3), .int (Z 0 4), gr (Z 0 5) (μ + 4), gr (Z 0 6) (μ + 5), .int (Z 0 7), .int (Z 0 8), .int (Z 0 9), .int (Z 0 10), gr (Z 0 11) (μ + 6), .int (Z 0 12), .int (Z 0 13), .int (Z 0 14)]) := by rw [bN_0, h1, gr1]
    refine lv_iload_n hx hb dX9_init_104 rfl (lv_at hl 1 rfl) ?_
    refine lv_bipush (v := 48) hx hb dX9_init_105 (by decide) ?_
    refine lv_icmp_ge (tgt := 127) hx hb dX9_init_107 (by decide) (fun c_1 => ?_) (fun c_1 => ?_)
    · exact absurd c_1 (nI_ge (b := 48) (by omega) (by decide))
    · refine lv_aload_n hx hb dX9_init_110 rfl (lv_at hl 0 rfl) ?_
      refine va_get (D := D) (ci := 9) (v := .ref (μ + 1)) (C := RX9) (T := TX9) (N := 15) hx hb hts inX9 hown hK.1 (gRep.oneAt hR.1 (c := 0) (b0 := μ) (by omega) rfl b1) 0 rfl rfl 0 (by decide) lkA (fun _ h9 => h9) rfl dX9_init_111 ?_
      refine lv_bipush (v := 26) hx hb dX9_init_114 (by decide) ?_
      refine lv_iload_n hx hb dX9_init_116 rfl (lv_at hl 1 rfl) ?_
      refine lv_iadd hx hb dX9_init_117 ?_
      refine lv_bipush (v := (-5)) hx hb dX9_init_118 (by decide) ?_
      rw [j_sea k hk6]
      obtain ⟨hR, hz⟩ := hR
      refine gm_iastA hx hb hK.1 hR injC hS gA_CA (a := 1) (by omega) rfl (k := 974) (fun r => bN_1) (vp_in_nI (by omega) (by decide)) dX9_init_120 (fun H locs hR z hS => ?_)
      have hz := z.trans hz
      rw [c1 (show 26 + k < 2147483648 by omega)] at hR
      refine lv_iinc (v := nI (k + 1)) (lv' := [(1, .int (nI (k + 1))), (0, .ref μ)]) hx hb dX9_init_121 hl (k := 1) rfl (nI_1 _) (by decide) rfl (fun ls hl => ?_)
      refine lv_goto (tgt := 104) hx hb dX9_init_124 (by decide) ?_
      exact ih (k + 1) _ (by omega) (by rw [updM_o (by omega)]; exact h1) hexit _ _ _ ⟨hR, hz⟩ hS (lv_sub hl [1, 0] rfl)
def mN1 (X : gM) : gM := updM (newR X 1) 0 0 1
def mN2 (X : gM) : gM := updM (newR X 2) 0 1 1
def mN3 (X : gM) : gM := updM (newR X 3) 0 3 1
def mN4 (X : gM) : gM := updM (newR X 4) 0 5 1
def mN5 (X : gM) : gM := updM (newR X 5) 0 6 1
def mN6 (X : gM) : gM := updM (newR X 6) 0 11 1
def mN7 (X : gM) : gM := updM (updM X 1 6 10) 1 7 3
def V0 : gM := p_sea 48 0 (p_lin 2 0 (mN7 (mN6 (mN5 (mN4 (mN3 (mN2 (mN1 gZ))))))))
set_option maxHeartbeats 4000000 in
set_option maxRecDepth 100000 in
/-- MercuryLineModel() -/
theorem c_X9_init (l : Launch) (D : va_G) (cy : Nat → ClassId) (μ : Nat) : Met l yX9_init wsX9_init ({ frames := 1, cells := 6, slots := 6908, locals := 20 }) (gP [.ref μ] D cy (NR D cy μ 1 gZ)) (gQv (NR D cy μ 7 V0) (CA μ)) 6 6908 (CA μ) := by
  refine gm_metC (cc := cX9_init) (maxL := 2) (ret := none) [.ref μ] (by decide) rfl (Nat.le_of_ble_eq_true rfl) ?_
  intro p e s m args below meth c0 ls C hin hR hl
  have C2 := C
  obtain ⟨hx, hb, hr, hts, hown, hlocks, hml, hK⟩ := C
  obtain ⟨hR, hz⟩ := hR
  have hl : lv_has ls 2 [(0, .ref μ)] := hl
  have hS : va_S (CA μ) s.heap s.heap [] := va_S.rf
  have inX9 : ∀ w ∈ u_ws RX9 TX9 15, w ∈ wsX9_init := by decide +kernel
  refine lv_aload_n hx hb dX9_init_0 rfl (lv_at hl 0 rfl) ?_
  refine W.objInit hx hb hown (hts (.methodLink RX9 1 objectInit) (by decide +kernel)) (hts (.instanceMethod objectInit) (by decide +kernel)) (hts (.code objectInit ⟨#[0xb1]⟩ 1 none) (by decide +kernel)) rfl (by rw [hml]; exact hl.1) rfl dX9_init_1 (Nat.le_of_ble_eq_true rfl) (Nat.le_of_ble_eq_true rfl) ?_
  refine W.eq (g2 := F0 m 4 ls []) rfl ?_
  refine lv_aload_n hx hb dX9_init_4 rfl (lv_at hl 0 rfl) ?_
  refine lv_sipush (v := 974) hx hb dX9_init_5 (by decide) ?_
  refine gm_newi (N := 974) hx hb (hts (.arrayClass .int) (by decide +kernel)) hK.1 (by decide) (by decide +kernel) (Nat.le_of_ble_eq_true rfl) (Nat.le_of_ble_eq_true rfl) (Nat.le_of_ble_eq_true rfl) dX9_init_8 hz (fun H h2 z1 o1 => ?_)
  have hS := g_Sm hS hz z1 o1
  obtain ⟨hR, hz⟩ := NR.grow ⟨hR, hz⟩ (show bodyN cy μ 1 (fun _ => 0) = .inl (cy 0, 974, .inl (fun _ => 0)) from rfl) h2 z1 o1
  refine gm_putFA (v := .ref (μ + 1)) (ty := .array .int) (ci := 9) (C := RX9) (T := TX9) (N := 15) hx hb hts inX9 tyX9 tyX9_ok nmX9 hown hK.1 hR injC hS gA_CA (a := 0) (b0 := μ) (by omega) rfl bN_0 rfl 0 (by decide) (hts (.fieldLink RX9 7 "MercuryLineModel" "s" "[I") (by decide +kernel)) (fun _ h9 => h9) rfl hin rfl (by decide +kernel) rfl rfl (Nat.le_of_ble_eq_true rfl) (j := 0) (x := 1) (by rw [bN_0]; rfl) dX9_init_10 (fun H locs hR z hS => ?_)
  have hz := z.trans hz
  obtain ⟨X1, e1⟩ : ∃ Y : gM, Y = mN1 gZ := ⟨_, rfl⟩
  have hR : gRep D (bodyN cy μ) 2 (adS μ) X1 H := by rw [e1]; exact hR
  have hz : H.size = μ + 2 := hz
  refine lv_aload_n hx hb dX9_init_13 rfl (lv_at hl 0 rfl) ?_
  refine lv_sipush (v := 3896) hx hb dX9_init_14 (by decide) ?_
  refine gm_newi (N := 3896) hx hb (hts (.arrayClass .int) (by decide +kernel)) hK.1 (by decide) (by decide +kernel) (Nat.le_of_ble_eq_true rfl) (Nat.le_of_ble_eq_true rfl) (Nat.le_of_ble_eq_true rfl) dX9_init_17 hz (fun H h2 z1 o1 => ?_)
  have hS := g_Sm hS hz z1 o1
  obtain ⟨hR, hz⟩ := NR.grow ⟨hR, hz⟩ (show bodyN cy μ 2 (fun _ => 0) = .inl (cy 0, 3896, .inl (fun _ => 0)) from rfl) h2 z1 o1
  refine gm_putFA (v := .ref (μ + 2)) (ty := .array .int) (ci := 9) (C := RX9) (T := TX9) (N := 15) hx hb hts inX9 tyX9 tyX9_ok nmX9 hown hK.1 hR injC hS gA_CA (a := 0) (b0 := μ) (by omega) rfl bN_0 rfl 1 (by decide) (hts (.fieldLink RX9 13 "MercuryLineModel" "past" "[I") (by decide +kernel)) (fun _ h9 => h9) rfl hin rfl (by decide +kernel) rfl rfl (Nat.le_of_ble_eq_true rfl) (j := 1) (x := 1) (by rw [bN_0]; rfl) dX9_init_19 (fun H locs hR z hS => ?_)
  have hz := z.trans hz
  obtain ⟨X2, e2⟩ : ∃ Y : gM, Y = mN2 X1 := ⟨_, rfl⟩
  have hR : gRep D (bodyN cy μ) 3 (adS μ) X2 H := by rw [e2]; exact hR
  have hz : H.size = μ + 3 := hz
  refine lv_aload_n hx hb dX9_init_22 rfl (lv_at hl 0 rfl) ?_
  refine lv_sipush (v := 974) hx hb dX9_init_23 (by decide) ?_
  refine gm_newi (N := 974) hx hb (hts (.arrayClass .int) (by decide +kernel)) hK.1 (by decide) (by decide +kernel) (Nat.le_of_ble_eq_true rfl) (Nat.le_of_ble_eq_true rfl) (Nat.le_of_ble_eq_true rfl) dX9_init_26 hz (fun H h2 z1 o1 => ?_)
  have hS := g_Sm hS hz z1 o1
  obtain ⟨hR, hz⟩ := NR.grow ⟨hR, hz⟩ (show bodyN cy μ 3 (fun _ => 0) = .inl (cy 0, 974, .inl (fun _ => 0)) from rfl) h2 z1 o1
  refine gm_putFA (v := .ref (μ + 3)) (ty := .array .int) (ci := 9) (C := RX9) (T := TX9) (N := 15) hx hb hts inX9 tyX9 tyX9_ok nmX9 hown hK.1 hR injC hS gA_CA (a := 0) (b0 := μ) (by omega) rfl bN_0 rfl 3 (by decide) (hts (.fieldLink RX9 16 "MercuryLineModel" "shot" "[I") (by decide +kernel)) (fun _ h9 => h9) rfl hin rfl (by decide +kernel) rfl rfl (Nat.le_of_ble_eq_true rfl) (j := 3) (x := 1) (by rw [bN_0]; rfl) dX9_init_28 (fun H locs hR z hS => ?_)
  have hz := z.trans hz
  obtain ⟨X3, e3⟩ : ∃ Y : gM, Y = mN3 X2 := ⟨_, rfl⟩
  have hR : gRep D (bodyN cy μ) 4 (adS μ) X3 H := by rw [e3]; exact hR
  have hz : H.size = μ + 4 := hz
  refine lv_aload_n hx hb dX9_init_31 rfl (lv_at hl 0 rfl) ?_
  refine lv_sipush (v := 974) hx hb dX9_init_32 (by decide) ?_
  refine gm_newi (N := 974) hx hb (hts (.arrayClass .int) (by decide +kernel)) hK.1 (by decide) (by decide +kernel) (Nat.le_of_ble_eq_true rfl) (Nat.le_of_ble_eq_true rfl) (Nat.le_of_ble_eq_true rfl) dX9_init_35 hz (fun H h2 z1 o1 => ?_)
  have hS := g_Sm hS hz z1 o1
  obtain ⟨hR, hz⟩ := NR.grow ⟨hR, hz⟩ (show bodyN cy μ 4 (fun _ => 0) = .inl (cy 0, 974, .inl (fun _ => 0)) from rfl) h2 z1 o1
  refine gm_putFA (v := .ref (μ + 4)) (ty := .array .int) (ci := 9) (C := RX9) (T := TX9) (N := 15) hx hb hts inX9 tyX9 tyX9_ok nmX9 hown hK.1 hR injC hS gA_CA (a := 0) (b0 := μ) (by omega) rfl bN_0 rfl 5 (by decide) (hts (.fieldLink RX9 19 "MercuryLineModel" "aside" "[I") (by decide +kernel)) (fun _ h9 => h9) rfl hin rfl (by decide +kernel) rfl rfl (Nat.le_of_ble_eq_true rfl) (j := 5) (x := 1) (by rw [bN_0]; rfl) dX9_init_37 (fun H locs hR z hS => ?_)
  have hz := z.trans hz
  obtain ⟨X4, e4⟩ : ∃ Y : gM, Y = mN4 X3 := ⟨_, rfl⟩
  have hR : gRep D (bodyN cy μ) 5 (adS μ) X4 H := by rw [e4]; exact hR
  have hz : H.size = μ + 5 := hz
  refine lv_aload_n hx hb dX9_init_40 rfl (lv_at hl 0 rfl) ?_
  refine lv_bipush (v := 60) hx hb dX9_init_41 (by decide) ?_
  refine gm_newc (N := 60) hx hb (hts (.arrayClass .char) (by decide +kernel)) hK.1 (by decide) (by decide +kernel) (Nat.le_of_ble_eq_true rfl) (Nat.le_of_ble_eq_true rfl) (Nat.le_of_ble_eq_true rfl) dX9_init_43 hz (fun H h2 z1 o1 => ?_)
  have hS := g_Sm hS hz z1 o1
  obtain ⟨hR, hz⟩ := NR.grow ⟨hR, hz⟩ (show bodyN cy μ 5 (fun _ => 0) = .inl (cy 1, 60, .inl (fun _ => 0)) from rfl) h2 z1 o1
  refine gm_putFA (v := .ref (μ + 5)) (ty := .array .char) (ci := 9) (C := RX9) (T := TX9) (N := 15) hx hb hts inX9 tyX9 tyX9_ok nmX9 hown hK.1 hR injC hS gA_CA (a := 0) (b0 := μ) (by omega) rfl bN_0 rfl 6 (by decide) (hts (.fieldLink RX9 22 "MercuryLineModel" "text" "[C") (by decide +kernel)) (fun _ h9 => h9) rfl hin rfl (by decide +kernel) rfl rfl (Nat.le_of_ble_eq_true rfl) (j := 6) (x := 1) (by rw [bN_0]; rfl) dX9_init_45 (fun H locs hR z hS => ?_)
  have hz := z.trans hz
  obtain ⟨X5, e5⟩ : ∃ Y : gM, Y = mN5 X4 := ⟨_, rfl⟩
  have hR : gRep D (bodyN cy μ) 6 (adS μ) X5 H := by rw [e5]; exact hR
  have hz : H.size = μ + 6 := hz
  refine lv_aload_n hx hb dX9_init_48 rfl (lv_at hl 0 rfl) ?_
  refine lv_bipush (v := 30) hx hb dX9_init_49 (by decide) ?_
  refine gm_newi (N := 30) hx hb (hts (.arrayClass .int) (by decide +kernel)) hK.1 (by decide) (by decide +kernel) (Nat.le_of_ble_eq_true rfl) (Nat.le_of_ble_eq_true rfl) (Nat.le_of_ble_eq_true rfl) dX9_init_51 hz (fun H h2 z1 o1 => ?_)
  have hS := g_Sm hS hz z1 o1
  obtain ⟨hR, hz⟩ := NR.grow ⟨hR, hz⟩ (show bodyN cy μ 6 (fun _ => 0) = .inl (cy 0, 30, .inl (fun _ => 0)) from rfl) h2 z1 o1
  refine gm_putFA (v := .ref (μ + 6)) (ty := .array .int) (ci := 9) (C := RX9) (T := TX9) (N := 15) hx hb hts inX9 tyX9 tyX9_ok nmX9 hown hK.1 hR injC hS gA_CA (a := 0) (b0 := μ) (by omega) rfl bN_0 rfl 11 (by decide) (hts (.fieldLink RX9 26 "MercuryLineModel" "read" "[I") (by decide +kernel)) (fun _ h9 => h9) rfl hin rfl (by decide +kernel) rfl rfl (Nat.le_of_ble_eq_true rfl) (j := 11) (x := 1) (by rw [bN_0]; rfl) dX9_init_53 (fun H locs hR z hS => ?_)
  have hz := z.trans hz
  obtain ⟨X6, e6⟩ : ∃ Y : gM, Y = mN6 X5 := ⟨_, rfl⟩
  have hR : gRep D (bodyN cy μ) 7 (adS μ) X6 H := by rw [e6]; exact hR
  have hz : H.size = μ + 7 := hz
  have r6 : X6 0 0 = 1 := by rw [e6]; unfold mN6; rw [updM_sn (by decide), newR_o (by decide), e5]; unfold mN5; rw [updM_sn (by decide), newR_o (by decide), e4]; unfold mN4; rw [updM_sn (by decide), newR_o (by decide), e3]; unfold mN3; rw [updM_sn (by decide), newR_o (by decide), e2]; unfold mN2; rw [updM_sn (by decide), newR_o (by decide), e1]; unfold mN1; rw [updM_ss]
  have b1 : ∀ Z : gM, Z 0 0 = 1 → bodyN cy μ 0 (Z 0) = .inr (9, [.ref (μ + 1), gr (Z 0 1) (μ + 2), .int (Z 0 2), gr (Z 0 3) (μ + 3), .int (Z 0 4), gr (Z 0 5) (μ + 4), gr (Z 0 6) (μ + 5), .int (Z 0 7), .int (Z 0 8), .int (Z 0 9), .int (Z 0 10), gr (Z 0 11) (μ + 6), .int (Z 0 12), .int (Z 0 13), .int (Z 0 14)]) := fun Z h1 => by rw [bN_0, h1, gr1]
  have lkA := hts (.fieldLink RX9 7 "MercuryLineModel" "s" "[I") (by decide +kernel)
  refine lv_aload_n hx hb dX9_init_56 rfl (lv_at hl 0 rfl) ?_
  refine va_get (D := D) (ci := 9) (v := .ref (μ + 1)) (C := RX9) (T := TX9) (N := 15) hx hb hts inX9 hown hK.1 (gRep.oneAt hR (c := 0) (b0 := μ) (by omega) rfl (b1 X6 r6)) 0 rfl rfl 0 (by decide) lkA (fun _ h9 => h9) rfl dX9_init_57 ?_
  refine lv_bipush (v := 6) hx hb dX9_init_60 (by decide) ?_
  refine lv_bipush (v := 10) hx hb dX9_init_62 (by decide) ?_
  refine gm_iastA hx hb hK.1 hR injC hS gA_CA (a := 1) (by omega) rfl (k := 974) (fun r => bN_1) (by unfold vp_in; decide +kernel) dX9_init_64 (fun H locs hR z hS => ?_)
  have hz := z.trans hz
  have r6b : updM X6 1 (Int32.toNatClampNeg 6) 10 0 0 = 1 := by rw [updM_o (by decide)]; exact r6
  refine lv_aload_n hx hb dX9_init_65 rfl (lv_at hl 0 rfl) ?_
  refine va_get (D := D) (ci := 9) (v := .ref (μ + 1)) (C := RX9) (T := TX9) (N := 15) hx hb hts inX9 hown hK.1 (gRep.oneAt hR (c := 0) (b0 := μ) (by omega) rfl (b1 _ r6b)) 0 rfl rfl 0 (by decide) lkA (fun _ h9 => h9) rfl dX9_init_66 ?_
  refine lv_bipush (v := 7) hx hb dX9_init_69 (by decide) ?_
  refine lv_iconst (v := 3) hx hb dX9_init_71 (by decide) ?_
  refine gm_iastA hx hb hK.1 hR injC hS gA_CA (a := 1) (by omega) rfl (k := 974) (fun r => bN_1) (by unfold vp_in; decide +kernel) dX9_init_72 (fun H locs hR z hS => ?_)
  have hz := z.trans hz
  obtain ⟨X7, e7⟩ : ∃ Y : gM, Y = mN7 X6 := ⟨_, rfl⟩
  have hR : gRep D (bodyN cy μ) 7 (adS μ) X7 H := by rw [e7]; exact hR
  have hz : H.size = μ + 7 := hz
  have r7 : X7 0 0 = 1 := by rw [e7]; unfold mN7; rw [updM_o (by decide), updM_o (by decide)]; exact r6
  refine lv_iconst (v := 0) hx hb dX9_init_73 (by decide) ?_
  refine lv_istore_n (lv' := [(1, .int 0), (0, .ref μ)]) hx hb dX9_init_74 rfl hl (by decide) rfl (fun ls hl => ?_)
  refine lp_X9_init_75 C2 μ 2 0 X7 rfl r7 (fun H locs ls hR hS hl => ?_) _ _ _ ⟨hR, hz⟩ hS (lv_sub hl [1, 0] rfl)
  refine lv_iconst (v := 0) hx hb dX9_init_102 (by decide) ?_
  refine lv_istore_n (lv' := [(1, .int 0), (0, .ref μ)]) hx hb dX9_init_103 rfl hl (by decide) rfl (fun ls hl => ?_)
  refine lp_X9_init_104 C2 μ 48 0 (p_lin 2 0 X7) rfl (by rw [p_lin_o]; exact r7) (fun H locs ls hR hS hl => ?_) _ _ _ hR hS (lv_sub hl [1, 0] rfl)
  exact gm_vretC hx hb hr hlocks hS (by unfold V0; rw [← e1, ← e2, ← e3, ← e4, ← e5, ← e6, ← e7]; exact hR) dX9_init_127
theorem V0_0 : V0 0 0 = 1 ∧ V0 0 1 = 1 ∧ V0 0 3 = 1 ∧ V0 0 5 = 1 ∧ V0 0 6 = 1 ∧ V0 0 11 = 1 ∧ V0 0 2 = 0 ∧ V0 0 4 = 0 ∧ V0 0 7 = 0 := by decide +kernel
theorem V0_r0 : ∀ i, i < 974 → V0 1 i = r0 i := by decide +kernel
theorem NR.MR {D : va_G} {cy : Nat → ClassId} {μ : Nat} {H : Heap} (h : NR D cy μ 7 V0 H) : MR D cy μ V0 H := by
  refine gRep.same (kb := bodyM cy μ) (X := V0) (fun c hc => ?_) (fun _ _ => rfl)
  have q := h.1 c hc
  by_cases h0 : c = 0
  · subst h0
    obtain ⟨a0, a1, a2, a3, a4, a5, -⟩ := V0_0
    rw [bN_0, a0, a1, a2, a3, a4, a5] at q
    simp only [gr1] at q
    exact q
  · rw [bN_M h0] at q
    exact q
/-- a new object and a new reference stand to each other as the steps want it -/
theorem Rl_new : Rl U0 V0 := Rl_start U0_r0 U0_log.1 U0_log.2 V0_r0 U0_0.2.2.2.2.2.2.1 U0_0.2.2.2.2.2.2.2 U0_h U0_t V0_0.2.2.2.2.2.2.1 V0_0.2.2.2.2.2.2.2.1 V0_0.2.2.2.2.2.2.2.2
