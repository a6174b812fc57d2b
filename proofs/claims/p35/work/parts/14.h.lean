/-! take: the script's numbers -/
def tkI (L k : Nat) : Int32 := nI k - nI k / Int32.ofNat L * Int32.ofNat L
def tkV (L : Nat) (xs : Nat → Int32) (k : Nat) : Int32 := if Int32.ofNat L = 0 then 7919 * nI k + 3 else (xs (tkI L k).toNatClampNeg >>> ((nI k - nI k / 7 * 7) &&& 31) ^^^ nI k / Int32.ofNat L * 31) ^^^ nI k * 2654435
def tkP (b L : Nat) (xs : Nat → Int32) (D : va_G) (cy : Nat → ClassId) (k : Nat) : Array Value → State → Prop := va_Pc [.ref b, .int (nI k)] (fun U => (va_X b L xs U U.heap ∧ b < U.heap.size) ∧ gK D cy U)
theorem tkPre {s : State} {H : Heap} {b L : Nat} {xs : Nat → Int32} {D : va_G} {cy : Nat → ClassId} (k : Nat) (hK : gK D cy s) (hX : va_X b L xs s H) (hbl : b < H.size) : PreS s H (tkP b L xs D cy k) [.ref b, .int (nI k)] :=
  ⟨fun a U g mk q => ⟨q.1, ⟨va_X.moved (u := U) (U := U.calling g mk a) (Vm.Alike.refl _) q.2.1.1, q.2.1.2⟩, gK.same (u := U) (U := U.calling g mk a) q.2.2 rfl⟩, fun U hU hW => ⟨rfl, ⟨by rw [hU]; exact va_X.moved hW.alike hX, by rw [hU]; exact hbl⟩, hK.warm hW⟩⟩
set_option maxHeartbeats 4000000 in
set_option maxRecDepth 100000 in
theorem c_L_take (l : Launch) (D : va_G) (cy : Nat → ClassId) (b L : Nat) (xs : Nat → Int32) (k : Nat) (hL : L ≤ 260) (hk : k ≤ 80) : Met l yL_take wsK_take ({ frames := 0, cells := 0, slots := 0, locals := 0 }) (tkP b L xs D cy k) (gQi (tkV L xs k) (fun _ => True) gNo) 0 0 gNo := by
  refine Met.ofW (cc := cL_take) (maxL := 2) (ret := (some .int)) (by decide) rfl ?_
  intro p e s m args below meth c s₁ B hml hv
  obtain ⟨rfl, ⟨hX, hbl⟩, hK⟩ := hv
  have hl := lv_entry [.ref b, .int (nI k)] (n := 2) (Nat.le_of_ble_eq_true rfl)
  rw [lg_entry_eq]
  generalize (lg_sl [.ref b, .int (nI k)] ++ List.replicate (2 - (lg_sl [.ref b, .int (nI k)]).length) Slot.unset).toArray = ls at hl ⊢
  have hx := B.exec
  have hb : c.code = cL_take := B.bytes
  have hr : meth.sig.returnType = some .int := B.returns
  have hts := atoms_spec (ws := wsK_take) B.pre
  have hown : s.vm.findClass RL = some m.cls := findClass_of_methodNamed B.named
  have hlocks := B.notSynchronized
  have hl : lv_has ls 2 [(0, .ref b), (1, .int (nI k))] := hl
  have hS : va_S gNo s.heap s.heap [] := va_S.rf
  have hbA : ¬ gNo b := fun h => h
  refine lv_aload_n hx hb dL_take_0 rfl (lv_at hl 0 rfl) ?_
  refine va_slen hx hb hX hbl hbA hS dL_take_1 ?_
  refine lv_if_ne (tgt := 15) hx hb dL_take_2 (by decide) (fun c1 => ?_) (fun c1 => ?_)
  · have hL0 : 0 < L := Nat.pos_of_ne_zero (fun h => c1 (by rw [h]; rfl))
    refine lv_aload_n hx hb dL_take_15 rfl (lv_at hl 0 rfl) ?_
    refine lv_iload_n hx hb dL_take_16 rfl (lv_at hl 1 rfl) ?_
    refine lv_aload_n hx hb dL_take_17 rfl (lv_at hl 0 rfl) ?_
    refine va_slen hx hb hX hbl hbA hS dL_take_18 ?_
    refine lv_irem hx hb dL_take_19 c1 ?_
    refine va_sld hx hb hX hbl hbA hS (pk_in (k % L) L (Nat.mod_lt _ hL0) (pk_rem (by omega) hL0 (by omega)) (by omega)) dL_take_20 ?_
    refine lv_iload_n hx hb dL_take_21 rfl (lv_at hl 1 rfl) ?_
    refine lv_bipush (v := 7) hx hb dL_take_22 (by decide) ?_
    refine lv_irem hx hb dL_take_24 (by decide) ?_
    refine lv_ishr hx hb dL_take_25 ?_
    refine lv_iload_n hx hb dL_take_26 rfl (lv_at hl 1 rfl) ?_
    refine lv_aload_n hx hb dL_take_27 rfl (lv_at hl 0 rfl) ?_
    refine va_slen hx hb hX hbl hbA hS dL_take_28 ?_
    refine lv_idiv hx hb dL_take_29 c1 ?_
    refine lv_bipush (v := 31) hx hb dL_take_30 (by decide) ?_
    refine lv_imul hx hb dL_take_32 ?_
    refine lv_ixor hx hb dL_take_33 ?_
    refine lv_iload_n hx hb dL_take_34 rfl (lv_at hl 1 rfl) ?_
    refine lv_ldc (v := 2654435) hx hb hown (hts _ (List.mem_cons_of_mem _ kw_constant_RL_8)) dL_take_35 ?_
    refine lv_imul hx hb dL_take_37 ?_
    refine lv_ixor hx hb dL_take_38 ?_
    exact gm_iret hx hb hr hlocks hS (by unfold tkV; rw [if_neg c1]; rfl) trivial dL_take_39
  · have c2 : Int32.ofNat L = 0 := c1
    refine lv_sipush (v := 7919) hx hb dL_take_5 (by decide) ?_
    refine lv_iload_n hx hb dL_take_8 rfl (lv_at hl 1 rfl) ?_
    refine lv_imul hx hb dL_take_9 ?_
    refine lv_iconst (v := 3) hx hb dL_take_10 (by decide) ?_
    refine lv_iadd hx hb dL_take_11 ?_
    refine lv_goto (tgt := 39) hx hb dL_take_12 (by decide) ?_
    exact gm_iret hx hb hr hlocks hS (by unfold tkV; rw [if_pos c2]) trivial dL_take_39
