/-! types: eight steps of a long's bytes -/
def tyC (v : Int64) (j : Nat) : Int32 := Int64.toInt32 ((v >>> (Int32.toInt64 (nI (8 * j)) &&& 63)) &&& 127)
def tyS (v : Int64) (j : Nat) : Int32 := ((tyC v j).toUInt32 % 65536).toInt32
def p_ty (v : Int64) : Nat → gM → Int32 → Int32 × gM
  | 0, X, n => (n, X)
  | j + 1, X, n => if 0 < tyC v j then p_ty v j (p_X8_type X (tyS v j)).2 (p_X8_type X (tyS v j)).1 else p_ty v j X n
def p_L_types (X : gM) (a2 : Int64) : Int32 × gM := p_ty a2 8 X 0
def tyK (j : Nat) : Int32 := match j with
  | 0 => -8
  | j + 1 => nI (8 * j)
theorem tyK_s (j : Nat) : nI (8 * j) + Int32.ofInt (-8) = tyK j := by
  cases j with
  | zero => decide
  | succ j =>
    show nI (8 * (j + 1)) + Int32.ofInt (-8) = nI (8 * j)
    rw [show 8 * (j + 1) = 8 * j + 8 by omega, ← nI_add, Int32.add_assoc, show nI 8 + Int32.ofInt (-8) = 0 from by decide, Int32.add_zero]
set_option maxHeartbeats 4000000 in
set_option maxRecDepth 100000 in
theorem lp_L_types_6 {p : Program} {l : Launch} {e : Env} {s : State} {m : MethodId} {args : Array Value} {below : List Frame} {meth : Method} {c0 : Code} {D : va_G} {cy : Nat → ClassId} (C : gCtx cL_types 6 (some .int) RL wsK_types D cy p s m args meth c0) (β : Nat) (a2 : Int64) (f : Int32) (R2 : Heap → Prop) :
    ∀ (j : Nat) (X : gM) (n : Int32), j ≤ 8 → Iv X → (p_ty a2 j X n).1 = f → (∀ H, TR D cy β (p_ty a2 j X n).2 H → R2 H) → ∀ (H : Heap) (locs : List Loc) (ls : Array Slot), TR D cy β X H → va_S (TA β) s.heap H locs → lv_has ls 6 [(0, .ref β), (1, .long a2), (3, .int n), (4, .int (tyK j))] → W p l e { frames := 3, cells := 0, slots := 0, locals := 64 } s m args below meth c0 H locs 0 0 (MQ below (gQi f R2 (TA β)) args s 0 0 (TA β)) (F0 m 6 ls []) := by
  obtain ⟨hx, hb, hr, hts, hown, hlocks, hml, hK⟩ := C
  intro j
  induction j with
  | zero =>
    intro X n _ hI hf h2 H locs ls hR hS hl
    refine lv_iload hx hb dL_types_6 (lv_at hl 3 rfl) ?_
    refine lv_if_lt (tgt := 41) hx hb dL_types_8 (by decide) (fun c_1 => ?_) (fun c_1 => ?_)
    · refine lv_iload_n hx hb dL_types_41 rfl (lv_at hl 2 rfl) ?_
      exact gm_iret hx hb hr hlocks hS hf (h2 H hR) dL_types_42
    · exact absurd (show (-8 : Int32) < 0 by decide) c_1
  | succ j ih =>
    intro X n hj hI hf h2 H locs ls hR hS hl
    refine lv_iload hx hb dL_types_6 (lv_at hl 3 rfl) ?_
    refine lv_if_lt (tgt := 41) hx hb dL_types_8 (by decide) (fun c_1 => ?_) (fun c_1 => ?_)
    · exact absurd c_1 (nI_pos (n := 8 * j) (by omega))
    · refine lv_lload_n hx hb dL_types_11 rfl (lv_at hl 1 rfl) ?_
      refine lv_iload hx hb dL_types_12 (lv_at hl 3 rfl) ?_
      refine lv_lshr (v := a2 >>> (Int32.toInt64 (nI (8 * j)) &&& 63)) hx hb dL_types_14 rfl ?_
      refine lv_ldc2 (v := 127) hx hb hown (hts _ (List.mem_cons_of_mem _ kw_constantLong_RL_117)) dL_types_15 ?_
      refine lv_land hx hb dL_types_18 ?_
      refine lv_l2i (v := tyC a2 j) hx hb dL_types_19 rfl ?_
      refine lv_istore (lv' := [(5, .int (tyC a2 j)), (0, .ref β), (1, .long a2), (3, .int n), (4, .int (nI (8 * j)))]) hx hb dL_types_20 hl (by decide) rfl (fun ls hl => ?_)
      refine lv_iload hx hb dL_types_22 (lv_at hl 0 rfl) ?_
      refine lv_if_le (tgt := 35) hx hb dL_types_24 (by decide) (fun c_2 => ?_) (fun c_2 => ?_)
      · have c3 : ¬ 0 < tyC a2 j := by
          rw [Int32.lt_iff_toInt_lt]
          rw [Int32.le_iff_toInt_le] at c_2
          omega
        refine lv_iinc (v := tyK j) (lv' := [(4, .int (tyK j)), (5, .int (tyC a2 j)), (0, .ref β), (1, .long a2), (3, .int n)]) hx hb dL_types_35 hl (k := 4) rfl (tyK_s j) (by decide) rfl (fun ls hl => ?_)
        refine lv_goto (tgt := 6) hx hb dL_types_38 (by decide) ?_
        simp only [p_ty, if_neg c3] at hf h2
        exact ih X n (by omega) hI hf h2 H locs ls hR hS (lv_sub hl [2, 3, 4, 0] rfl)
      · have c3 : 0 < tyC a2 j := by
          rw [Int32.lt_iff_toInt_lt]
          rw [Int32.le_iff_toInt_le] at c_2
          omega
        refine lv_aload_n hx hb dL_types_27 rfl (lv_at hl 1 rfl) ?_
        refine lv_iload hx hb dL_types_28 (lv_at hl 0 rfl) ?_
        refine lv_i2c (v := tyS a2 j) hx hb dL_types_30 rfl ?_
        refine gm_ci (gm_call (As := [.int (tyS a2 j)]) (rest := []) (ci := 8) (q := (RX8, TX8, 8)) ⟨hx, hb, hml, hown, hts⟩ hK (c_X8_type l D cy β X (tyS a2 j)) (cwV 1 hts (kIn kv_type) rfl rfl rfl (by decide +kernel) ⟨Nat.le_of_ble_eq_true rfl, Nat.le_of_ble_eq_true rfl⟩) (TR.mk0 hR) rfl hR rfl hl.1 rfl (Nat.le_of_ble_eq_true rfl) dL_types_31 (Nat.zero_le _) (Nat.zero_le _)) hS (fun _ h => h) (fun H locs hR _ _ hS => ?_)
        simp only [p_ty, if_pos c3] at hf h2
        have hI2 := I_type hI (tyS a2 j)
        generalize p_X8_type X (tyS a2 j) = q at hf h2 hI2 hR ⊢
        refine lv_istore_n (lv' := [(3, .int q.1), (5, .int (tyC a2 j)), (0, .ref β), (1, .long a2), (4, .int (nI (8 * j)))]) hx hb dL_types_34 rfl hl (by decide) rfl (fun ls hl => ?_)
        refine lv_iinc (v := tyK j) (lv' := [(4, .int (tyK j)), (3, .int q.1), (5, .int (tyC a2 j)), (0, .ref β), (1, .long a2)]) hx hb dL_types_35 hl (k := 4) rfl (tyK_s j) (by decide) rfl (fun ls hl => ?_)
        refine lv_goto (tgt := 6) hx hb dL_types_38 (by decide) ?_
        exact ih q.2 q.1 (by omega) hI2 hf h2 H locs ls hR hS (lv_sub hl [3, 4, 1, 0] rfl)
set_option maxHeartbeats 4000000 in
set_option maxRecDepth 100000 in
theorem c_L_types (l : Launch) (D : va_G) (cy : Nat → ClassId) (β : Nat) (X : gM) (a2 : Int64) (hI : Iv X) : Met l yL_types wsK_types ({ frames := 3, cells := 0, slots := 0, locals := 64 }) (gP [.ref β, .long a2] D cy (TR D cy β X)) (gQi (p_L_types X a2).1 (TR D cy β (p_L_types X a2).2) (TA β)) 0 0 (TA β) := by
  refine gm_met (cc := cL_types) (maxL := 6) (ret := (some .int)) [.ref β, .long a2] (by decide) rfl (Nat.le_of_ble_eq_true rfl) ?_
  intro p e s m args below meth c0 ls C hR hl
  have C2 := C
  obtain ⟨hx, hb, hr, hts, hown, hlocks, hml, hK⟩ := C
  have hl : lv_has ls 6 [(0, .ref β), (1, .long a2)] := hl
  have hS : va_S (TA β) s.heap s.heap [] := va_S.rf
  refine lv_iconst (v := 0) hx hb dL_types_0 (by decide) ?_
  refine lv_istore_n (lv' := [(3, .int 0), (0, .ref β), (1, .long a2)]) hx hb dL_types_1 rfl hl (by decide) rfl (fun ls hl => ?_)
  refine lv_bipush (v := 56) hx hb dL_types_2 (by decide) ?_
  refine lv_istore (lv' := [(4, .int 56), (3, .int 0), (0, .ref β), (1, .long a2)]) hx hb dL_types_4 hl (by decide) rfl (fun ls hl => ?_)
  exact lp_L_types_6 C2 β a2 _ _ 8 X 0 (Nat.le_refl 8) hI rfl (fun _ h => h) _ _ _ hR hS (lv_sub hl [2, 3, 1, 0] rfl)
/-! types, isTold, isEvent are alike for objects that stand to one reference -/
theorem sf_ty (v : Int64) : ∀ (j : Nat) (X U Y : gM) (n : Int32), Rl X Y → Rl U Y → (p_ty v j X n).1 = (p_ty v j U n).1 ∧ ∃ Y', Rl (p_ty v j X n).2 Y' ∧ Rl (p_ty v j U n).2 Y' := by
  intro j
  induction j with
  | zero => intro X U Y n hX hU; exact ⟨rfl, Y, hX, hU⟩
  | succ j ih =>
    intro X U Y n hX hU
    by_cases c : 0 < tyC v j
    · simp only [p_ty, if_pos c]
      obtain ⟨e, Y', x2, u2⟩ := sf_type (tyS v j) X U Y hX hU
      have e : (p_X8_type X (tyS v j)).1 = (p_X8_type U (tyS v j)).1 := e
      rw [e]
      exact ih _ _ Y' _ x2 u2
    · simp only [p_ty, if_neg c]
      exact ih X U Y n hX hU
theorem sf_types (a2 : Int64) : SimF (fun X => p_L_types X a2) := fun X U Y hX hU => sf_ty a2 8 X U Y 0 hX hU
theorem I_types {X : gM} (h : Iv X) (a2 : Int64) : Iv (p_L_types X a2).2 := (sf_types a2).iv h
theorem sq_isEvent (a2 a3 a4 a5 a6 : Int32) : SimQ (fun X => f_L_isEvent X a2 a3 a4 a5 a6) := fun X U Y hX hU => by
  have e : ∀ a b, f_X8_event X a b = f_X8_event U a b := fun a b => sq_event a b X U Y hX hU
  simp only [f_L_isEvent, e]
theorem e_isEvent {X U : gM} {a2 a3 a4 a5 a6 : Int32} {v : Int32} {k : Bool} (h : Ev X U) (hk : stQ (f_L_isEvent U a2 a3 a4 a5 a6) v k = true) : f_L_isEvent X a2 a3 a4 a5 a6 = v ∧ k = true := stQ_ev (sq_isEvent a2 a3 a4 a5 a6) h hk
