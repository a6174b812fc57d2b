/-- as gm_met, for a method of a class of which some methods are the machine's own, but not this one -/
theorem gm_metF {l : Launch} {y : MethodName} {ws ws' : List Cond} {rm : Room} {cc : ByteArray} {maxL : Nat} {ret : Option FieldType} {D : va_G} {cy : Nat → ClassId} {P : Heap → Prop} {Qc : Array Value → State → Outcome → State → Prop} {A : Nat → Prop} (av : List Value) (hy : plainFor y = true) (hw : ws = Cond.code y cc maxL ret :: ws') (hlen : (lg_sl av).length ≤ maxL)
    (body : ∀ (p : Program) (e : Env) (s : State) (m : MethodId) (args : Array Value) (below : List Frame) (meth : Method) (c : Code) (ls : Array Slot), gCtx cc maxL ret y.cls ws D cy p s m args meth c → P s.heap → lv_has ls maxL (lv_args 0 av) → W p l e rm s m args below meth c s.heap [] 0 0 (MQ below Qc args s 0 0 A) (F0 m 0 ls [])) : Met l y ws rm (gP av D cy P) Qc 0 0 A := by
  refine MetFree.of_bodySF (code := cc) (maxLocals := maxL) (ret := ret) hy ?_ ?_
  · intro args s m h hn
    obtain ⟨meth, c, h1, h2, h3, h4, h5, h6, -, -⟩ := Cond.code_spec hn (atoms_spec (ws := ws) h _ (by rw [hw]; exact List.mem_cons_self))
    exact ⟨meth, c, h1, h2, h3, h4, h5, h6⟩
  · intro p e s m args below meth c s₁ B hml hv _
    obtain ⟨rfl, hP, hK⟩ := hv
    have hh0 : s₁.heap = s.heap := by rw [B.state]; rfl
    have W0 : W p l e rm s m av.toArray below meth c s.heap [] 0 0 (MQ below Qc av.toArray s 0 0 A) (entryFrame m av.toArray maxL) := by
      have hl := lv_entry av hlen
      rw [lg_entry_eq]
      generalize (lg_sl av ++ List.replicate (maxL - (lg_sl av).length) Slot.unset).toArray = ls at hl ⊢
      exact body p e s m _ below meth c ls ⟨B.exec, B.bytes, B.returns, atoms_spec (ws := ws) B.pre, findClass_of_methodNamed B.named, B.notSynchronized, hml, hK⟩ hP hl
    obtain ⟨t, a1, o, b1, b2, b3⟩ := W0 s₁ hh0 (Stand.of_body B)
    exact ⟨t, o, a1, b1, b2, ⟨b3.1, b3.2⟩⟩
def f_J9_floorMod_7cf53 (a1 : Int32) (a2 : Int32) : Int32 :=
  if 0 ≤ a1 ^^^ a2 then
    a1 - a1 / a2 * a2
  else
    if a1 - a1 / a2 * a2 = 0 then
      a1 - a1 / a2 * a2
    else
      (a1 - a1 / a2 * a2) + a2
set_option maxHeartbeats 4000000 in
set_option maxRecDepth 100000 in
theorem c_J9_floorMod_7cf53 (l : Launch) (D : va_G) (cy : Nat → ClassId) (a1 : Int32) (a2 : Int32) (h0 : ¬ a2 = 0) : Met l yJ9_floorMod_7cf53 wsJ9_floorMod_7cf53 ({ frames := 0, cells := 0, slots := 0, locals := 0 }) (gP [.int a1, .int a2] D cy (fun _ => True)) (gQi (f_J9_floorMod_7cf53 a1 a2) (fun _ => True) gNo) 0 0 gNo := by
  refine gm_metF (cc := cJ9_floorMod_7cf53) (maxL := 3) (ret := (some .int)) [.int a1, .int a2] (by decide +kernel) rfl (Nat.le_of_ble_eq_true rfl) ?_
  intro p e s m args below meth c0 ls C hR hl
  obtain ⟨hx, hb, hr, hts, hown, hlocks, hml, hK⟩ := C
  have hl : lv_has ls 3 [(0, .int a1), (1, .int a2)] := hl
  have hS : va_S gNo s.heap s.heap [] := va_S.rf
  refine lv_iload_n hx hb dJ9_floorMod_7cf53_0 rfl (lv_at hl 0 rfl) ?_
  refine lv_iload_n hx hb dJ9_floorMod_7cf53_1 rfl (lv_at hl 1 rfl) ?_
  refine lv_irem hx hb dJ9_floorMod_7cf53_2 h0 ?_
  refine lv_istore_n (lv' := [(2, .int (a1 - a1 / a2 * a2)), (0, .int a1), (1, .int a2)]) hx hb dJ9_floorMod_7cf53_3 rfl hl (by decide) rfl (fun ls hl => ?_)
  refine lv_iload_n hx hb dJ9_floorMod_7cf53_4 rfl (lv_at hl 1 rfl) ?_
  refine lv_iload_n hx hb dJ9_floorMod_7cf53_5 rfl (lv_at hl 2 rfl) ?_
  refine lv_ixor hx hb dJ9_floorMod_7cf53_6 ?_
  refine lv_if_ge (tgt := 18) hx hb dJ9_floorMod_7cf53_7 (by decide) (fun c_1 => ?_) (fun c_1 => ?_)
  · refine lv_iload_n hx hb dJ9_floorMod_7cf53_18 rfl (lv_at hl 0 rfl) ?_
    exact gm_iret hx hb hr hlocks hS (by (try simp only [f_J9_floorMod_7cf53, ↓if_pos c_1]); (try rfl)) trivial dJ9_floorMod_7cf53_19
  · refine lv_iload_n hx hb dJ9_floorMod_7cf53_10 rfl (lv_at hl 0 rfl) ?_
    refine lv_if_eq (tgt := 18) hx hb dJ9_floorMod_7cf53_11 (by decide) (fun c_2 => ?_) (fun c_2 => ?_)
    · refine lv_iload_n hx hb dJ9_floorMod_7cf53_18 rfl (lv_at hl 0 rfl) ?_
      exact gm_iret hx hb hr hlocks hS (by (try simp only [f_J9_floorMod_7cf53, ↓if_neg c_1, ↓if_pos c_2]); (try rfl)) trivial dJ9_floorMod_7cf53_19
    · refine lv_iload_n hx hb dJ9_floorMod_7cf53_14 rfl (lv_at hl 0 rfl) ?_
      refine lv_iload_n hx hb dJ9_floorMod_7cf53_15 rfl (lv_at hl 2 rfl) ?_
      refine lv_iadd hx hb dJ9_floorMod_7cf53_16 ?_
      exact gm_iret hx hb hr hlocks hS (by (try simp only [f_J9_floorMod_7cf53, ↓if_neg c_1, ↓if_neg c_2]); (try rfl)) trivial dJ9_floorMod_7cf53_17
def f_X1_told (X : gM) (c : Nat) (a1 : Int32) (a2 : Int32) : Int32 :=
  if f_X8_within a1 0 ((X c 1) - 1) = 0 then
    (-5)
  else
    if f_X8_within (((f_J9_floorMod_7cf53 (((X c 2) - 1) - a1) 12) * 5) + a2) 0 59 = 0 then
      (-5)
    else
      X (c + 1) ((((f_J9_floorMod_7cf53 (((X c 2) - 1) - a1) 12) * 5) + a2).toNatClampNeg)
set_option maxHeartbeats 4000000 in
set_option maxRecDepth 100000 in
theorem c_X1_told (l : Launch) (D : va_G) (cy : Nat → ClassId) (σ : Nat) (X : gM) (c : Nat) (a1 : Int32) (a2 : Int32) (hc : c < 123) (hk : kdS c = 1) : Met l yX1_told wsX1_told ({ frames := 1, cells := 0, slots := 0, locals := 22 }) (gP [.ref (σ + c), .int a1, .int a2] D cy (SR D cy σ X)) (gQi (f_X1_told X c a1 a2) (fun _ => True) gNo) 0 0 gNo := by
  refine gm_met (cc := cX1_told) (maxL := 4) (ret := (some .int)) [.ref (σ + c), .int a1, .int a2] (by decide) rfl (Nat.le_of_ble_eq_true rfl) ?_
  intro p e s m args below meth c0 ls C hR hl
  obtain ⟨hx, hb, hr, hts, hown, hlocks, hml, hK⟩ := C
  have hl : lv_has ls 4 [(0, .ref (σ + c)), (1, .int a1), (2, .int a2)] := hl
  have hS : va_S gNo s.heap s.heap [] := va_S.rf
  have lk21 := hts (.fieldLink RX1 21 "MercuryLine$Log" "known" "I") (by decide +kernel)
  have inX1 : ∀ w ∈ u_ws RX1 TX1 3, w ∈ wsX1_told := by decide +kernel
  have lk25 := hts (.fieldLink RX1 25 "MercuryLine$Log" "nextRow" "I") (by decide +kernel)
  have lk11 := hts (.fieldLink RX1 11 "MercuryLine$Log" "cells" "[I") (by decide +kernel)
  refine lv_iload_n hx hb dX1_told_0 rfl (lv_at hl 1 rfl) ?_
  refine lv_iconst (v := 0) hx hb dX1_told_1 (by decide) ?_
  refine lv_aload_n hx hb dX1_told_2 rfl (lv_at hl 0 rfl) ?_
  refine va_get (D := D) (ci := 1) (v := .int (X c 1)) (C := RX1) (T := TX1) (N := 3) hx hb hts inX1 hown hK.1 (SR.mk1 hR (c := c) hc (bS_1 hk)) 0 rfl rfl 1 (by decide) lk21 (fun _ h9 => h9) rfl dX1_told_3 ?_
  refine lv_iconst (v := 1) hx hb dX1_told_6 (by decide) ?_
  refine lv_isub hx hb dX1_told_7 ?_
  refine gm_ci (gm_callN (As := [.int a1, .int 0, .int ((X c 1) - 1)]) (rest := []) ⟨hx, hb, hml, hown, hts⟩ hK (c_X8_within l D cy a1 0 ((X c 1) - 1)) ⟨va_cnB 3 hts gX1_told_X8_within_n28 rfl rfl rfl (hK.2.1 (RX1, 28, yX8_within, "MercuryLine") (by decide +kernel)) (hts (.initialized RX8) (by decide +kernel)) (by decide +kernel) ⟨Nat.le_of_ble_eq_true rfl, Nat.le_of_ble_eq_true rfl⟩, hts (.static yX8_within) (by decide +kernel), trivial⟩ trivial rfl hl.1 rfl (Nat.le_of_ble_eq_true rfl) dX1_told_8 (Nat.zero_le _) (Nat.zero_le _)) hS (fun _ h => h.elim) (fun H locs _ _ hfr hS => ?_)
  have hR := gRep.keep hR hfr (fun _ _ h => h)
  refine lv_if_ne (tgt := 17) hx hb dX1_told_11 (by decide) (fun c_1 => ?_) (fun c_1 => ?_)
  · refine lv_aload_n hx hb dX1_told_17 rfl (lv_at hl 0 rfl) ?_
    refine va_get (D := D) (ci := 1) (v := .int (X c 2)) (C := RX1) (T := TX1) (N := 3) hx hb hts inX1 hown hK.1 (SR.mk1 hR (c := c) hc (bS_1 hk)) 0 rfl rfl 2 (by decide) lk25 (fun _ h9 => h9) rfl dX1_told_18 ?_
    refine lv_iconst (v := 1) hx hb dX1_told_21 (by decide) ?_
    refine lv_isub hx hb dX1_told_22 ?_
    refine lv_iload_n hx hb dX1_told_23 rfl (lv_at hl 1 rfl) ?_
    refine lv_isub hx hb dX1_told_24 ?_
    refine lv_bipush (v := 12) hx hb dX1_told_25 (by decide) ?_
    refine gm_ci (gm_callS (As := [.int (((X c 2) - 1) - a1), .int 12]) (rest := []) ⟨hx, hb, hml, hown, hts⟩ hK (c_J9_floorMod_7cf53 l D cy (((X c 2) - 1) - a1) 12 (by decide)) (va_cwS 2 hts gX1_told_J9_floorMod_7cf53 rfl rfl rfl (by decide +kernel) ⟨Nat.le_of_ble_eq_true rfl, Nat.le_of_ble_eq_true rfl⟩) trivial rfl hl.1 rfl (Nat.le_of_ble_eq_true rfl) dX1_told_27 (Nat.zero_le _) (Nat.zero_le _)) hS (fun _ h => h.elim) (fun H locs _ _ hfr hS => ?_)
    have hR := gRep.keep hR hfr (fun _ _ h => h)
    refine lv_iconst (v := 5) hx hb dX1_told_30 (by decide) ?_
    refine lv_imul hx hb dX1_told_31 ?_
    refine lv_iload_n hx hb dX1_told_32 rfl (lv_at hl 2 rfl) ?_
    refine lv_iadd hx hb dX1_told_33 ?_
    refine lv_istore_n (lv' := [(3, .int (((f_J9_floorMod_7cf53 (((X c 2) - 1) - a1) 12) * 5) + a2)), (0, .ref (σ + c)), (1, .int a1), (2, .int a2)]) hx hb dX1_told_34 rfl hl (by decide) rfl (fun ls hl => ?_)
    refine lv_iload_n hx hb dX1_told_35 rfl (lv_at hl 0 rfl) ?_
    refine lv_iconst (v := 0) hx hb dX1_told_36 (by decide) ?_
    refine lv_aload_n hx hb dX1_told_37 rfl (lv_at hl 1 rfl) ?_
    refine va_get (D := D) (ci := 1) (v := .ref (σ + (c + 1))) (C := RX1) (T := TX1) (N := 3) hx hb hts inX1 hown hK.1 (SR.mk1 hR (c := c) hc (bS_1 hk)) 0 rfl rfl 0 (by decide) lk11 (fun _ h9 => h9) rfl dX1_told_38 ?_
    refine va_alen (v := 60) hx hb hK.1 (SR.mk1 hR (c := c + 1) (kd_1 c hc hk).1 (bS_22 (kd_1 c hc hk).2)) 0 0 rfl rfl rfl dX1_told_41 ?_
    refine lv_iconst (v := 1) hx hb dX1_told_42 (by decide) ?_
    refine lv_isub hx hb dX1_told_43 ?_
    rw [show (60 - 1 : Int32) = 59 from by decide]
    refine gm_ci (gm_callN (As := [.int (((f_J9_floorMod_7cf53 (((X c 2) - 1) - a1) 12) * 5) + a2), .int 0, .int 59]) (rest := []) ⟨hx, hb, hml, hown, hts⟩ hK (c_X8_within l D cy (((f_J9_floorMod_7cf53 (((X c 2) - 1) - a1) 12) * 5) + a2) 0 59) ⟨va_cnB 3 hts gX1_told_X8_within_n28 rfl rfl rfl (hK.2.1 (RX1, 28, yX8_within, "MercuryLine") (by decide +kernel)) (hts (.initialized RX8) (by decide +kernel)) (by decide +kernel) ⟨Nat.le_of_ble_eq_true rfl, Nat.le_of_ble_eq_true rfl⟩, hts (.static yX8_within) (by decide +kernel), trivial⟩ trivial rfl hl.1 rfl (Nat.le_of_ble_eq_true rfl) dX1_told_44 (Nat.zero_le _) (Nat.zero_le _)) hS (fun _ h => h.elim) (fun H locs _ _ hfr hS => ?_)
    have hR := gRep.keep hR hfr (fun _ _ h => h)
    refine lv_if_eq (tgt := 59) hx hb dX1_told_47 (by decide) (fun c_2 => ?_) (fun c_2 => ?_)
    · refine lv_bipush (v := (-5)) hx hb dX1_told_59 (by decide) ?_
      exact gm_iret hx hb hr hlocks hS (by (try simp only [f_X1_told, ↓if_neg c_1, ↓if_pos c_2]); (try rfl)) trivial dX1_told_61
    · refine lv_aload_n hx hb dX1_told_50 rfl (lv_at hl 1 rfl) ?_
      refine va_get (D := D) (ci := 1) (v := .ref (σ + (c + 1))) (C := RX1) (T := TX1) (N := 3) hx hb hts inX1 hown hK.1 (SR.mk1 hR (c := c) hc (bS_1 hk)) 0 rfl rfl 0 (by decide) lk11 (fun _ h9 => h9) rfl dX1_told_51 ?_
      refine lv_iload_n hx hb dX1_told_54 rfl (lv_at hl 0 rfl) ?_
      refine gm_iald hx hb hK.1 (SR.mk1 hR (c := c + 1) (kd_1 c hc hk).1 (bS_22 (kd_1 c hc hk).2)) (by
      refine vp_in_iff.mpr ?_
      try simp only [w_ne] at c_1 c_2
      simp only [Int32.le_iff_toInt_le, Int32.lt_iff_toInt_lt, ← Int32.toInt_inj, ti_m5, ti_0, ti_1, ti_2, ti_3, ti_4, ti_5, ti_6, ti_12, ti_19, ti_23, ti_24, ti_39, ti_40, ti_59, ti_60] at c_1 c_2 ⊢
      omega) dX1_told_55 ?_
      refine lv_goto (tgt := 61) hx hb dX1_told_56 (by decide) ?_
      exact gm_iret hx hb hr hlocks hS (by (try simp only [f_X1_told, ↓if_neg c_1, ↓if_neg c_2]); (try rfl)) trivial dX1_told_61
  · refine lv_bipush (v := (-5)) hx hb dX1_told_14 (by decide) ?_
    exact gm_iret hx hb hr hlocks hS (by (try simp only [f_X1_told, ↓if_pos c_1]); (try rfl)) trivial dX1_told_16
def f_X8_event (X : gM) (a1 : Int32) (a2 : Int32) : Int32 :=
  if a1 < 0 then
    (-2)
  else
    if f_X8_within a2 0 4 = 0 then
      (-2)
    else
      f_X1_told (vw 0 X) 33 a1 a2
set_option maxHeartbeats 4000000 in
set_option maxRecDepth 100000 in
theorem c_X8_event (l : Launch) (D : va_G) (cy : Nat → ClassId) (β : Nat) (X : gM) (a1 : Int32) (a2 : Int32)  : Met l yX8_event wsX8_event ({ frames := 2, cells := 0, slots := 0, locals := 45 }) (gP [.ref β, .int a1, .int a2] D cy (TR D cy β X)) (gQi (f_X8_event X a1 a2) (fun _ => True) gNo) 0 0 gNo := by
  refine gm_met (cc := cX8_event) (maxL := 3) (ret := (some .int)) [.ref β, .int a1, .int a2] (by decide) rfl (Nat.le_of_ble_eq_true rfl) ?_
  intro p e s m args below meth c0 ls C hR hl
  obtain ⟨hx, hb, hr, hts, hown, hlocks, hml, hK⟩ := C
  have hl : lv_has ls 3 [(0, .ref β), (1, .int a1), (2, .int a2)] := hl
  have hS : va_S gNo s.heap s.heap [] := va_S.rf
  have lk10 := hts (.fieldLink RX8 10 "MercuryLine" "now" "LMercuryLine$State;") (by decide +kernel)
  have inX8 : ∀ w ∈ u_ws RX8 TX8 8, w ∈ wsX8_event := by decide +kernel
  have lk339 := hts (.fieldLink RX8 339 "MercuryLine$State" "log" "LMercuryLine$Log;") (by decide +kernel)
  have inX3 : ∀ w ∈ u_ws RX3 TX3 14, w ∈ wsX8_event := by decide +kernel
  refine lv_iload_n hx hb dX8_event_0 rfl (lv_at hl 1 rfl) ?_
  refine lv_if_lt (tgt := 13) hx hb dX8_event_1 (by decide) (fun c_1 => ?_) (fun c_1 => ?_)
  · refine lv_bipush (v := (-2)) hx hb dX8_event_13 (by decide) ?_
    exact gm_iret hx hb hr hlocks hS (by (try simp only [f_X8_event, ↓if_pos c_1]); (try rfl)) trivial dX8_event_15
  · refine lv_iload_n hx hb dX8_event_4 rfl (lv_at hl 2 rfl) ?_
    refine lv_iconst (v := 0) hx hb dX8_event_5 (by decide) ?_
    refine lv_iconst (v := 4) hx hb dX8_event_6 (by decide) ?_
    refine gm_ci (gm_callS (As := [.int a2, .int 0, .int 4]) (rest := []) ⟨hx, hb, hml, hown, hts⟩ hK (c_X8_within l D cy a2 0 4) (va_cwS 3 hts gX8_event_X8_within rfl rfl rfl (by decide +kernel) ⟨Nat.le_of_ble_eq_true rfl, Nat.le_of_ble_eq_true rfl⟩) trivial rfl hl.1 rfl (Nat.le_of_ble_eq_true rfl) dX8_event_7 (Nat.zero_le _) (Nat.zero_le _)) hS (fun _ h => h.elim) (fun H locs _ _ hfr hS => ?_)
    have hR := gRep.keep hR hfr (fun _ _ h => h)
    refine lv_if_ne (tgt := 16) hx hb dX8_event_10 (by decide) (fun c_2 => ?_) (fun c_2 => ?_)
    · refine lv_aload_n hx hb dX8_event_16 rfl (lv_at hl 0 rfl) ?_
      refine va_get (D := D) (ci := 8) (v := .ref (β + off 0)) (C := RX8) (T := TX8) (N := 8) hx hb hts inX8 hown hK.1 (TR.mk0 hR) 0 rfl rfl 0 (by decide) lk10 (fun _ h9 => h9) rfl dX8_event_17 ?_
      refine va_get (D := D) (ci := 3) (v := .ref (β + off 0 + 33)) (C := RX3) (T := TX3) (N := 14) hx hb hts inX3 hown hK.1 (SR.mk0 (TR.st hR (by decide))) 0 rfl rfl 4 (by decide) lk339 (fun _ h9 => h9) rfl dX8_event_20 ?_
      refine lv_iload_n hx hb dX8_event_23 rfl (lv_at hl 1 rfl) ?_
      refine lv_iload_n hx hb dX8_event_24 rfl (lv_at hl 2 rfl) ?_
      refine gm_ci (gm_call (As := [.int a1, .int a2]) (rest := []) (ci := 1) (q := (RX1, TX1, 3)) ⟨hx, hb, hml, hown, hts⟩ hK (c_X1_told l D cy (β + off 0) (vw 0 X) 33 a1 a2 (by decide) (by decide)) (cwV 2 hts gX8_event_X1_told rfl rfl rfl (by decide +kernel) ⟨Nat.le_of_ble_eq_true rfl, Nat.le_of_ble_eq_true rfl⟩) (SR.mk1 (TR.st hR (by decide)) (c := 33) (by decide) (bS_1 (by decide))) rfl (TR.st hR (by decide)) rfl hl.1 rfl (Nat.le_of_ble_eq_true rfl) dX8_event_25 (Nat.zero_le _) (Nat.zero_le _)) hS (fun _ h => h.elim) (fun H locs _ _ hfr hS => ?_)
      have hR := gRep.keep hR hfr (fun _ _ h => h)
      exact gm_iret hx hb hr hlocks hS (by (try simp only [f_X8_event, ↓if_neg c_1, ↓if_neg c_2]); (try rfl)) trivial dX8_event_28
    · refine lv_bipush (v := (-2)) hx hb dX8_event_13 (by decide) ?_
      exact gm_iret hx hb hr hlocks hS (by (try simp only [f_X8_event, ↓if_neg c_1, ↓if_pos c_2]); (try rfl)) trivial dX8_event_15
