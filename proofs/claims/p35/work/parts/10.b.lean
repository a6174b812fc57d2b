/-! the constructor of a line -/
theorem gr1 {a : Nat} : gr 1 a = .ref a := if_neg (by decide)
def p_fill (c : Nat) : Nat → Nat → gM → gM
  | 0, _, Z => Z
  | n + 1, k, Z => p_fill c n (k + 1) (updM Z (c + 1) k (-5))
def p_sta (c : Nat) (a1 : Int32) : Nat → Nat → gM → gM
  | 0, _, Z => Z
  | n + 1, k, Z => p_sta c a1 n (k + 1) (updM (p_X4_init (newR Z (c + 3 + 2 * k)) (c + 3 + 2 * k) a1 (nI k)) (c + 2) k 1)
theorem p_fill_o {c a : Nat} (h : a ≠ c + 1) : ∀ n k Z, p_fill c n k Z a = Z a := by
  intro n
  induction n with
  | zero => intro k Z; rfl
  | succ n ih =>
    intro k Z
    show p_fill c n (k + 1) _ a = _
    rw [ih, updM_o h]
set_option maxHeartbeats 4000000 in
set_option maxRecDepth 100000 in
theorem lp_X0_init_34 {p : Program} {l : Launch} {e : Env} {R : Room} {s : State} {m : MethodId} {args : Array Value} {below : List Frame} {meth : Method} {c0 : Code} {D : va_G} {cy : Nat → ClassId} {cells slots : Nat} {Q : State → Prop} (C : gCtx cX0_init 3 none RX0 wsX0_init D cy p s m args meth c0) (σ c : Nat) (a1 : Int32) (hc : c < 123) (hk : kdS c = 0) :
    ∀ (n k : Nat) (Z : gM), k + n = 24 → Z c 1 = 1 → (∀ (H : Heap) (locs : List Loc) (ls : Array Slot), CR D cy σ (c + 3) (p_fill c n k Z) H → va_S (CA σ) s.heap H locs → lv_has ls 3 [(0, .ref (σ + c)), (1, .int a1), (2, .int (nI 24))] → W p l e R s m args below meth c0 H locs cells slots Q (F0 m 57 ls [])) → ∀ (H : Heap) (locs : List Loc) (ls : Array Slot), CR D cy σ (c + 3) Z H → va_S (CA σ) s.heap H locs → lv_has ls 3 [(0, .ref (σ + c)), (1, .int a1), (2, .int (nI k))] → W p l e R s m args below meth c0 H locs cells slots Q (F0 m 34 ls []) := by
  obtain ⟨hx, hb, hr, hts, hown, hlocks, hml, hK⟩ := C
  have lk11 := hts (.fieldLink RX0 11 "MercuryLine$Line" "riders" "[I") (by decide +kernel)
  have inX0 : ∀ w ∈ u_ws RX0 TX0 10, w ∈ wsX0_init := by decide +kernel
  obtain ⟨⟨-, q20⟩, ⟨-, q24⟩, q4⟩ := kd_0 c hc hk
  have hb0 := kd_0b c hc hk
  intro n
  induction n with
  | zero =>
    intro k Z hkn h1 hexit H locs ls hR hS hl
    have e : k = 24 := by omega
    subst e
    have b1 : bodyC cy σ c (Z c) = .inr (0, [.int (Z c 0), .ref (σ + (c + 1)), gr (Z c 2) (σ + (c + 2)), .int (Z c 3), .int (Z c 4), .int (Z c 5), .int (Z c 6), .int (Z c 7), .int (Z c 8), .int (Z c 9)]) := by rw [bC_0 hk, h1, gr1]
    refine lv_iload_n hx hb dX0_init_34 rfl (lv_at hl 2 rfl) ?_
    refine lv_aload_n hx hb dX0_init_35 rfl (lv_at hl 0 rfl) ?_
    refine va_get (D := D) (ci := 0) (v := .ref (σ + (c + 1))) (C := RX0) (T := TX0) (N := 10) hx hb hts inX0 hown hK.1 (gRep.one hR.1 (by omega) b1) 0 rfl rfl 1 (by decide) lk11 (fun _ h9 => h9) rfl dX0_init_36 ?_
    refine va_alen (v := 24) hx hb hK.1 (gRep.one hR.1 (c := c + 1) (by omega) (bC_20 q20)) 0 0 rfl rfl rfl dX0_init_39 ?_
    refine lv_icmp_ge (tgt := 57) hx hb dX0_init_40 (by decide) (fun c_1 => ?_) (fun c_1 => ?_)
    · exact hexit H locs ls hR hS hl
    · exact absurd (show (24 : Int32) ≤ nI 24 by decide +kernel) c_1
  | succ n ih =>
    intro k Z hkn h1 hexit H locs ls hR hS hl
    have b1 : bodyC cy σ c (Z c) = .inr (0, [.int (Z c 0), .ref (σ + (c + 1)), gr (Z c 2) (σ + (c + 2)), .int (Z c 3), .int (Z c 4), .int (Z c 5), .int (Z c 6), .int (Z c 7), .int (Z c 8), .int (Z c 9)]) := by rw [bC_0 hk, h1, gr1]
    refine lv_iload_n hx hb dX0_init_34 rfl (lv_at hl 2 rfl) ?_
    refine lv_aload_n hx hb dX0_init_35 rfl (lv_at hl 0 rfl) ?_
    refine va_get (D := D) (ci := 0) (v := .ref (σ + (c + 1))) (C := RX0) (T := TX0) (N := 10) hx hb hts inX0 hown hK.1 (gRep.one hR.1 (by omega) b1) 0 rfl rfl 1 (by decide) lk11 (fun _ h9 => h9) rfl dX0_init_36 ?_
    refine va_alen (v := 24) hx hb hK.1 (gRep.one hR.1 (c := c + 1) (by omega) (bC_20 q20)) 0 0 rfl rfl rfl dX0_init_39 ?_
    refine lv_icmp_ge (tgt := 57) hx hb dX0_init_40 (by decide) (fun c_1 => ?_) (fun c_1 => ?_)
    · exact absurd c_1 (nI_ge (b := 24) (by omega) (by decide))
    · refine lv_aload_n hx hb dX0_init_43 rfl (lv_at hl 0 rfl) ?_
      refine va_get (D := D) (ci := 0) (v := .ref (σ + (c + 1))) (C := RX0) (T := TX0) (N := 10) hx hb hts inX0 hown hK.1 (gRep.one hR.1 (by omega) b1) 0 rfl rfl 1 (by decide) lk11 (fun _ h9 => h9) rfl dX0_init_44 ?_
      refine lv_iload_n hx hb dX0_init_47 rfl (lv_at hl 2 rfl) ?_
      refine lv_bipush (v := (-5)) hx hb dX0_init_48 (by decide) ?_
      obtain ⟨hR, hz⟩ := hR
      refine gm_iastA hx hb hK.1 hR injC hS gA_CA (a := c + 1) (by omega) rfl (k := 24) (fun r => bC_20 q20) (vp_in_nI (by omega) (by decide)) dX0_init_50 (fun H locs hR z hS => ?_)
      have hz := z.trans hz
      rw [c1 (show k < 2147483648 by omega)] at hR
      refine lv_iinc (v := nI (k + 1)) (lv' := [(2, .int (nI (k + 1))), (0, .ref (σ + c)), (1, .int a1)]) hx hb dX0_init_51 hl (k := 2) rfl (nI_1 _) (by decide) rfl (fun ls hl => ?_)
      refine lv_goto (tgt := 34) hx hb dX0_init_54 (by decide) ?_
      exact ih (k + 1) _ (by omega) (by rw [updM_o (by omega)]; exact h1) hexit _ _ _ ⟨hR, hz⟩ hS (lv_sub hl [1, 2, 0] rfl)
