/-! the constructor of MercuryLine: the object in the making, its States one behind the other -/
def bodyU (cy : Nat → ClassId) (β : Nat) : gB := fun c r =>
  if c = 0 then .inr (8, [gr (r 0) (β + off 0), gr (r 1) (β + off 1), gr (r 2) (β + off 2), gr (r 3) (β + 370), gr (r 4) (β + 371), gr (r 5) (β + 379), .int (r 6), .int (r 7)])
  else if c = 370 then .inl (cy 3, 4, .inr (.inr (.inr (.inr (fun n => gro (r n) (β + off (3 + n)))))))
  else bodyT cy β c r
section LAYU
variable {cy : Nat → ClassId} {β c k : Nat} {r : Nat → Int32}
theorem bU_0 : bodyU cy β 0 r = .inr (8, [gr (r 0) (β + off 0), gr (r 1) (β + off 1), gr (r 2) (β + off 2), gr (r 3) (β + 370), gr (r 4) (β + 371), gr (r 5) (β + 379), .int (r 6), .int (r 7)]) := rfl
theorem bU_h : bodyU cy β 370 r = .inl (cy 3, 4, .inr (.inr (.inr (.inr (fun n => gro (r n) (β + off (3 + n))))))) := rfl
theorem bU_a : bodyU cy β 379 r = gTrip r := rfl
theorem bU_T (h0 : c ≠ 0) (h1 : c ≠ 370) : bodyU cy β c r = bodyT cy β c r := by
  unfold bodyU
  rw [if_neg h0, if_neg h1]
theorem bU_S (hk : k < 7) (hc : c < 123) : bodyU cy β (off k + c) r = bodyS cy (β + off k) c r := by
  have h1 := off_pos k
  have h2 := off_gap k
  rw [bU_T (by omega) (by omega), bT_S hk hc]
theorem bU_X (hc : c < 8) : bodyU cy β (371 + c) r = bodyX cy (β + 371) c r := by
  rw [bU_T (by omega) (by omega), bT_X hc]
end LAYU
/-- n cells of the whole object in the making, at the heap's end -/
def UR (D : va_G) (cy : Nat → ClassId) (β n : Nat) (X : gM) (H : Heap) : Prop := gRep D (bodyU cy β) n (adS β) X H ∧ H.size = β + n
/-- a memory with a new State, a new text behind n cells -/
def wS (X : gM) (n : Nat) : gM := fun a => if a < n then X a else S0 (a - n)
def wX (X : gM) (n : Nat) : gM := fun a => if a < n then X a else T0 (a - n)
theorem wS_o {X : gM} {n a : Nat} (h : a < n) : wS X n a = X a := if_pos h
theorem wX_o {X : gM} {n a : Nat} (h : a < n) : wX X n a = X a := if_pos h
theorem UR.grow {D : va_G} {cy : Nat → ClassId} {β n : Nat} {X : gM} {H H1 : Heap} {e : va_E} (h : UR D cy β n X H) (he : bodyU cy β n (fun _ => 0) = e) (h1 : va_at D vwCl (β + n, e) H1) (hz : H1.size = β + n + 1) (o : ∀ q : Nat, q < β + n → H1[q]? = H[q]?) : UR D cy β (n + 1) (newR X n) H1 :=
  ⟨gRep.grow h.1 (by rw [he]; exact h1) o, hz⟩
theorem UR.growS {D : va_G} {cy : Nat → ClassId} {β n k : Nat} {X : gM} {H H1 : Heap} (h : gRep D (bodyU cy β) n (adS β) X H) (hn : n = off k) (hk : k < 7) (hs : SR D cy (β + n) S0 H1 ∧ H1.size = β + n + 123) (o : ∀ q : Nat, q < β + n → H1[q]? = H[q]?) : UR D cy β (n + 123) (wS X n) H1 := by
  refine ⟨fun c hc => ?_, by omega⟩
  by_cases hcn : c < n
  · rw [wS_o hcn]
    exact (h c hcn).kept (o _ (by simp only [adS]; omega))
  · obtain ⟨j, rfl⟩ : ∃ j, c = n + j := ⟨c - n, by omega⟩
    have q := hs.1 j (by omega)
    have e : wS X n (n + j) = S0 j := by
      unfold wS
      rw [if_neg hcn, Nat.add_sub_cancel_left]
    rw [e, hn, bU_S hk (by omega), ← hn]
    simp only [adS] at q ⊢
    rw [← Nat.add_assoc]
    exact q
theorem UR.growX {D : va_G} {cy : Nat → ClassId} {β : Nat} {X : gM} {H H1 : Heap} (h : gRep D (bodyU cy β) 371 (adS β) X H) (hs : XR D cy (β + 371) T0 H1 ∧ H1.size = β + 371 + 8) (o : ∀ q : Nat, q < β + 371 → H1[q]? = H[q]?) : UR D cy β 379 (wX X 371) H1 := by
  refine ⟨fun c hc => ?_, by omega⟩
  by_cases hcn : c < 371
  · rw [wX_o hcn]
    exact (h c hcn).kept (o _ (by simp only [adS]; omega))
  · obtain ⟨j, rfl⟩ : ∃ j, c = 371 + j := ⟨c - 371, by omega⟩
    have q := hs.1 j (by omega)
    have e : wX X 371 (371 + j) = T0 j := by
      unfold wX
      rw [if_neg hcn, Nat.add_sub_cancel_left]
    rw [e, bU_X (by omega)]
    simp only [adS] at q ⊢
    rw [← Nat.add_assoc]
    exact q
theorem CA_up {β n : Nat} : ∀ q, CA (β + n) q → CA β q := by
  intro q h
  simp only [CA] at h ⊢
  omega
set_option maxHeartbeats 4000000 in
set_option maxRecDepth 100000 in
/-- new State(): it is made behind the n cells that stand -/
theorem mk_state {p : Program} {l : Launch} {e : Env} {s : State} {m : MethodId} {args : Array Value} {below : List Frame} {meth : Method} {c0 : Code} {D : va_G} {cy : Nat → ClassId} {Q : State → Prop} (C : gCtx cX8_init 2 none RX8 wsX8_init D cy p s m args meth c0) {β n k cells slots pc : Nat} {X : gM} {H : Heap} {locs : List Loc} {ls : Array Slot} {rest : List Value} (hn : n = off k) (hk : k < 7)
    (d1 : decode cX8_init pc = .ok (.new 7, 3)) (d2 : decode cX8_init (pc + 3) = .ok (.dup, 1)) (d3 : decode cX8_init (pc + 3 + 1) = .ok (.invokespecial 9, 3)) (hR : UR D cy β n X H) (hS : va_S (CA β) s.heap H locs) (hl : ls.size = 2) (hW : (((Value.ref (β + n)) :: rest).map fun v => v.category).sum ≤ 8) (hc0 : cells + 123 ≤ 871) (hs0 : slots + 1161 ≤ 8231)
    (kk : ∀ (H1 : Heap) (locs1 : List Loc), UR D cy β (n + 123) (wS X n) H1 → va_S (CA β) s.heap H1 locs1 → W p l e { frames := 4, cells := 871, slots := 8231, locals := 85 } s m args below meth c0 H1 locs1 (cells + 123) (slots + 1161) Q (F0 m (pc + 3 + 1 + 3) ls (.ref (β + n) :: rest))) : W p l e { frames := 4, cells := 871, slots := 8231, locals := 85 } s m args below meth c0 H locs cells slots Q (F0 m pc ls rest) := by
  obtain ⟨hx, hb, hr, hts, hown, hlocks, hml, hK⟩ := C
  obtain ⟨hR, hz⟩ := hR
  have inX3 : ∀ w ∈ u_ws RX3 TX3 14, w ∈ wsX8_init := by decide +kernel
  refine gm_new (ci := 3) (fs := [.null, .null, .null, .null, .null, .int 0, .int 0, .int 0, .int 0, .int 0, .int 0, .int 0, .int 0, .int 0]) (C := RX3) (T := TX3) (N := 14) hx hb hts inX3 tyX3 tyX3_ok hown (hts (.classLink RX8 7 RX3) (by decide +kernel)) (hts (.instantiable RX3 14) (by decide +kernel)) (hts (.initialized RX3) (by decide +kernel)) hK.1 rfl (fun j hj => by rcases (show j = 0 ∨ j = 1 ∨ j = 2 ∨ j = 3 ∨ j = 4 ∨ j = 5 ∨ j = 6 ∨ j = 7 ∨ j = 8 ∨ j = 9 ∨ j = 10 ∨ j = 11 ∨ j = 12 ∨ j = 13 by omega) with rfl | rfl | rfl | rfl | rfl | rfl | rfl | rfl | rfl | rfl | rfl | rfl | rfl | rfl <;> rfl) (by show cells + 1 ≤ 871; omega) (by show slots + 14 ≤ 8231; omega) d1 hz (fun H2 h2 z1 o1 => ?_)
  have hS := g_Sm hS hz z1 o1
  refine lv_dup hx hb d2 rfl ?_
  have hC : CR D cy (β + n) 1 gZ H2 := by
    refine ⟨fun c hc => ?_, z1⟩
    have e : c = 0 := by omega
    subst e
    rw [bC_3 (by decide)]
    exact h2
  refine gm_cvC (mc := 122) (ms := 1147) (va_runI (As := []) (rest := .ref (β + n) :: rest) ⟨hx, hb, hml, hown, hts⟩ (c_X3_new l D cy (β + n)) ⟨callB_of 0 hts gX8_init_X3_init rfl rfl rfl (hts (.initialized RX3) (by decide +kernel)) (hts (.methodLink RX8 9 yX3_init) (by decide +kernel)) (by decide +kernel) ⟨Nat.le_of_ble_eq_true rfl, Nat.le_of_ble_eq_true rfl⟩, rfl, hts (.instanceMethod yX3_init) (by decide +kernel)⟩ (gPreS hK hC) rfl rfl hl rfl (lv_room hW) d3 ⟨by show cells + 1 + 122 ≤ 871; omega, by show slots + 14 + 1147 ≤ 8231; omega⟩) hS CA_up (fun H3 locs hRR _ hfr hS => ?_)
  have o3 : ∀ q : Nat, q < β + n → H3[q]? = H[q]? := fun q hq => (hfr q (by omega) (by simp only [CA]; omega)).trans (o1 q hq)
  have hU := UR.growS hR hn hk hRR o3
  have e1 : cells + 1 + 122 = cells + 123 := by omega
  have e2 : slots + 14 + 1147 = slots + 1161 := by omega
  rw [e1, e2]
  exact kk H3 locs hU hS
def p_his : Nat → Nat → gM → gM
  | 0, _, Z => Z
  | n + 1, k, Z => p_his n (k + 1) (updM (wS Z (380 + 123 * k)) 370 k (nI (3 + k)))
set_option maxHeartbeats 4000000 in
set_option maxRecDepth 100000 in
theorem lp_X8_init_69 {p : Program} {l : Launch} {e : Env} {s : State} {m : MethodId} {args : Array Value} {below : List Frame} {meth : Method} {c0 : Code} {D : va_G} {cy : Nat → ClassId} {Q : State → Prop} (C : gCtx cX8_init 2 none RX8 wsX8_init D cy p s m args meth c0) (β : Nat) :
    ∀ (n k : Nat) (Z : gM), k + n = 4 → Z 0 3 = 1 → (∀ (H : Heap) (locs : List Loc) (ls : Array Slot), UR D cy β 872 (p_his n k Z) H → va_S (CA β) s.heap H locs → lv_has ls 2 [(0, .ref β), (1, .int (nI 4))] → W p l e { frames := 4, cells := 871, slots := 8231, locals := 85 } s m args below meth c0 H locs 871 8231 Q (F0 m 97 ls [])) → ∀ (H : Heap) (locs : List Loc) (ls : Array Slot), UR D cy β (380 + 123 * k) Z H → va_S (CA β) s.heap H locs → lv_has ls 2 [(0, .ref β), (1, .int (nI k))] → W p l e { frames := 4, cells := 871, slots := 8231, locals := 85 } s m args below meth c0 H locs (379 + 123 * k) (3587 + 1161 * k) Q (F0 m 69 ls []) := by
  have C2 := C
  obtain ⟨hx, hb, hr, hts, hown, hlocks, hml, hK⟩ := C
  have lkA := hts (.fieldLink RX8 22 "MercuryLine" "history" "[LMercuryLine$State;") (by decide +kernel)
  have inX8 : ∀ w ∈ u_ws RX8 TX8 8, w ∈ wsX8_init := by decide +kernel
  intro n
  induction n with
  | zero =>
    intro k Z hkn h1 hexit H locs ls hR hS hl
    have e : k = 4 := by omega
    subst e
    have b1 : bodyU cy β 0 (Z 0) = .inr (8, [gr (Z 0 0) (β + off 0), gr (Z 0 1) (β + off 1), gr (Z 0 2) (β + off 2), .ref (β + 370), gr (Z 0 4) (β + 371), gr (Z 0 5) (β + 379), .int (Z 0 6), .int (Z 0 7)]) := by rw [bU_0, h1, gr1]
    refine lv_iload_n hx hb dX8_init_69 rfl (lv_at hl 1 rfl) ?_
    refine lv_aload_n hx hb dX8_init_70 rfl (lv_at hl 0 rfl) ?_
    refine va_get (D := D) (ci := 8) (v := .ref (β + 370)) (C := RX8) (T := TX8) (N := 8) hx hb hts inX8 hown hK.1 (gRep.oneAt hR.1 (c := 0) (b0 := β) (by omega) rfl b1) 0 rfl rfl 3 (by decide) lkA (fun _ h9 => h9) rfl dX8_init_71 ?_
    refine va_alen (v := 4) hx hb hK.1 (gRep.one hR.1 (c := 370) (by omega) bU_h) 0 3 rfl rfl rfl dX8_init_74 ?_
    refine lv_icmp_ge (tgt := 97) hx hb dX8_init_75 (by decide) (fun c_1 => ?_) (fun c_1 => ?_)
    · exact hexit H locs ls hR hS hl
    · exact absurd (show (4 : Int32) ≤ nI 4 by decide +kernel) c_1
  | succ n ih =>
    intro k Z hkn h1 hexit H locs ls hR hS hl
    have hk6 : k < 4 := by omega
    have b1 : bodyU cy β 0 (Z 0) = .inr (8, [gr (Z 0 0) (β + off 0), gr (Z 0 1) (β + off 1), gr (Z 0 2) (β + off 2), .ref (β + 370), gr (Z 0 4) (β + 371), gr (Z 0 5) (β + 379), .int (Z 0 6), .int (Z 0 7)]) := by rw [bU_0, h1, gr1]
    have eo : 380 + 123 * k = off (3 + k) := by
      unfold off
      rw [if_neg (by omega)]
      omega
    refine lv_iload_n hx hb dX8_init_69 rfl (lv_at hl 1 rfl) ?_
    refine lv_aload_n hx hb dX8_init_70 rfl (lv_at hl 0 rfl) ?_
    refine va_get (D := D) (ci := 8) (v := .ref (β + 370)) (C := RX8) (T := TX8) (N := 8) hx hb hts inX8 hown hK.1 (gRep.oneAt hR.1 (c := 0) (b0 := β) (by omega) rfl b1) 0 rfl rfl 3 (by decide) lkA (fun _ h9 => h9) rfl dX8_init_71 ?_
    refine va_alen (v := 4) hx hb hK.1 (gRep.one hR.1 (c := 370) (by omega) bU_h) 0 3 rfl rfl rfl dX8_init_74 ?_
    refine lv_icmp_ge (tgt := 97) hx hb dX8_init_75 (by decide) (fun c_1 => ?_) (fun c_1 => ?_)
    · exact absurd c_1 (nI_ge (b := 4) (by omega) (by decide))
    · refine lv_aload_n hx hb dX8_init_78 rfl (lv_at hl 0 rfl) ?_
      refine va_get (D := D) (ci := 8) (v := .ref (β + 370)) (C := RX8) (T := TX8) (N := 8) hx hb hts inX8 hown hK.1 (gRep.oneAt hR.1 (c := 0) (b0 := β) (by omega) rfl b1) 0 rfl rfl 3 (by decide) lkA (fun _ h9 => h9) rfl dX8_init_79 ?_
      refine lv_iload_n hx hb dX8_init_82 rfl (lv_at hl 1 rfl) ?_
      refine mk_state C2 eo (by omega) dX8_init_83 dX8_init_86 dX8_init_87 hR hS hl.1 (Nat.le_of_ble_eq_true rfl) (by omega) (by omega) (fun H locs hR hS => ?_)
      obtain ⟨hR, hz⟩ := hR
      generalize eX : wS Z (380 + 123 * k) = X1 at hR
      have x1 : X1 0 = Z 0 := by rw [← eX, wS_o (by omega)]
      have bn : bodyU cy β (380 + 123 * k) (X1 (380 + 123 * k)) = bodyS cy (β + off (3 + k)) 0 (X1 (380 + 123 * k)) := by
        have q := bU_S (cy := cy) (β := β) (k := 3 + k) (c := 0) (r := X1 (380 + 123 * k)) (by omega) (by decide)
        rw [Nat.add_zero, ← eo] at q
        rw [q, eo]
      refine gm_astA hx hb hK.1 hR injC hS gA_CA (a := 370) (by omega) rfl bU_h (t0 := 3) rfl (gRep.one hR (c := 380 + 123 * k) (by omega) (bn.trans (bS_3 (by decide)))) (ci := 3) rfl (vp_in_nI hk6 (by decide)) (j := k) (x := nI (3 + k)) ?_ dX8_init_90 (fun H locs hR z hS => ?_)
      · rw [bU_h, c1 (show k < 2147483648 by omega)]
        have nz : nI (3 + k) ≠ 0 := by
          rcases (show k = 0 ∨ k = 1 ∨ k = 2 ∨ k = 3 by omega) with rfl | rfl | rfl | rfl <;> decide +kernel
        have ef : (fun n => gro (upd (X1 370) k (nI (3 + k)) n) (β + off (3 + n))) = va_up (fun n => gro (X1 370 n) (β + off (3 + n))) k (some (β + (380 + 123 * k))) := by
          funext q
          unfold va_up upd
          by_cases hq : q = k
          · subst hq
            rw [if_pos rfl, if_pos rfl, eo]
            exact if_neg nz
          · rw [if_neg hq, if_neg hq]
        rw [ef]
      · have hz := z.trans hz
        refine lv_iinc (v := nI (k + 1)) (lv' := [(1, .int (nI (k + 1))), (0, .ref β)]) hx hb dX8_init_91 hl (k := 1) rfl (nI_1 _) (by decide) rfl (fun ls hl => ?_)
        refine lv_goto (tgt := 69) hx hb dX8_init_94 (by decide) ?_
        have e1 : 379 + 123 * k + 123 = 379 + 123 * (k + 1) := by omega
        have e2 : 3587 + 1161 * k + 1161 = 3587 + 1161 * (k + 1) := by omega
        have e3 : 380 + 123 * k + 123 = 380 + 123 * (k + 1) := by omega
        rw [e1, e2]
        rw [e3] at hR hz
        exact ih (k + 1) (updM X1 370 k (nI (3 + k))) (by omega) (by rw [updM_o (by omega), x1]; exact h1) (by intro H locs ls g1 g2 g3; refine hexit H locs ls ?_ g2 g3; show UR D cy β 872 (p_his n (k + 1) _) H; rw [eX]; exact g1) _ _ _ ⟨hR, hz⟩ hS (lv_sub hl [1, 0] rfl)
def mT1 (X : gM) : gM := updM (wS X 1) 0 0 1
def mT2 (X : gM) : gM := updM (wS X 124) 0 1 1
def mT3 (X : gM) : gM := updM (wS X 247) 0 2 1
def mT4 (X : gM) : gM := updM (newR X 370) 0 3 1
def mT5 (X : gM) : gM := updM (wX X 371) 0 4 1
def mT6 (X : gM) : gM := updM (newR X 379) 0 5 1
def U0 : gM := p_his 4 0 (mT6 (mT5 (mT4 (mT3 (mT2 (mT1 gZ))))))
set_option maxHeartbeats 4000000 in
set_option maxRecDepth 100000 in
/-- MercuryLine(): three States, the history's row, the text, a trip, four States more -/
theorem c_X8_init (l : Launch) (D : va_G) (cy : Nat → ClassId) (β : Nat) : Met l yX8_init wsX8_init ({ frames := 4, cells := 871, slots := 8231, locals := 85 }) (gP [.ref β] D cy (UR D cy β 1 gZ)) (gQv (UR D cy β 872 U0) (CA β)) 871 8231 (CA β) := by
  refine gm_metC (cc := cX8_init) (maxL := 2) (ret := none) [.ref β] (by decide) rfl (Nat.le_of_ble_eq_true rfl) ?_
  intro p e s m args below meth c0 ls C hin hR hl
  have C2 := C
  obtain ⟨hx, hb, hr, hts, hown, hlocks, hml, hK⟩ := C
  have hl : lv_has ls 2 [(0, .ref β)] := hl
  have hS : va_S (CA β) s.heap s.heap [] := va_S.rf
  have inX8 : ∀ w ∈ u_ws RX8 TX8 8, w ∈ wsX8_init := by decide +kernel
  have inX7 : ∀ w ∈ u_ws RX7 TX7 5, w ∈ wsX8_init := by decide +kernel
  have inX6 : ∀ w ∈ u_ws RX6 TX6 5, w ∈ wsX8_init := by decide +kernel
  refine lv_aload_n hx hb dX8_init_0 rfl (lv_at hl 0 rfl) ?_
  refine W.objInit hx hb hown (hts (.methodLink RX8 1 objectInit) (by decide +kernel)) (hts (.instanceMethod objectInit) (by decide +kernel)) (hts (.code objectInit ⟨#[0xb1]⟩ 1 none) (by decide +kernel)) rfl (by rw [hml]; exact hl.1) rfl dX8_init_1 (Nat.le_of_ble_eq_true rfl) (Nat.le_of_ble_eq_true rfl) ?_
  refine W.eq (g2 := F0 m 4 ls []) rfl ?_
  refine lv_aload_n hx hb dX8_init_4 rfl (lv_at hl 0 rfl) ?_
  refine mk_state C2 (n := 1) (k := 0) rfl (by decide) dX8_init_5 dX8_init_8 dX8_init_9 hR hS hl.1 (Nat.le_of_ble_eq_true rfl) (Nat.le_of_ble_eq_true rfl) (Nat.le_of_ble_eq_true rfl) (fun H locs hR hS => ?_)
  obtain ⟨hR, hz⟩ := hR
  have hR : gRep D (bodyU cy β) 124 (adS β) (wS gZ 1) H := hR
  obtain ⟨P1, f1⟩ : ∃ Y : gM, Y = wS gZ 1 := ⟨_, rfl⟩
  rw [← f1] at hR
  refine gm_putFA (v := .ref (β + 1)) (ty := .object "MercuryLine$State") (ci := 8) (C := RX8) (T := TX8) (N := 8) hx hb hts inX8 tyX8 tyX8_ok nmX8 hown hK.1 hR injC hS gA_CA (a := 0) (b0 := β) (by omega) rfl bU_0 rfl 0 (by decide) (hts (.fieldLink RX8 10 "MercuryLine" "now" "LMercuryLine$State;") (by decide +kernel)) (fun _ h9 => h9) rfl hin rfl (by decide +kernel) rfl rfl (Nat.le_of_ble_eq_true rfl) (j := 0) (x := 1) (by rw [bU_0]; rfl) dX8_init_12 (fun H locs hR z hS => ?_)
  have hz := z.trans hz
  obtain ⟨X1, e1⟩ : ∃ Y : gM, Y = mT1 gZ := ⟨_, rfl⟩
  have hR : UR D cy β 124 X1 H := ⟨by rw [e1]; unfold mT1; rw [← f1]; exact hR, hz⟩
  refine lv_aload_n hx hb dX8_init_15 rfl (lv_at hl 0 rfl) ?_
  refine mk_state C2 (n := 124) (k := 1) rfl (by decide) dX8_init_16 dX8_init_19 dX8_init_20 hR hS hl.1 (Nat.le_of_ble_eq_true rfl) (Nat.le_of_ble_eq_true rfl) (Nat.le_of_ble_eq_true rfl) (fun H locs hR hS => ?_)
  obtain ⟨hR, hz⟩ := hR
  have hR : gRep D (bodyU cy β) 247 (adS β) (wS X1 124) H := hR
  obtain ⟨P2, f2⟩ : ∃ Y : gM, Y = wS X1 124 := ⟨_, rfl⟩
  rw [← f2] at hR
  refine gm_putFA (v := .ref (β + 124)) (ty := .object "MercuryLine$State") (ci := 8) (C := RX8) (T := TX8) (N := 8) hx hb hts inX8 tyX8 tyX8_ok nmX8 hown hK.1 hR injC hS gA_CA (a := 0) (b0 := β) (by omega) rfl bU_0 rfl 1 (by decide) (hts (.fieldLink RX8 16 "MercuryLine" "kept" "LMercuryLine$State;") (by decide +kernel)) (fun _ h9 => h9) rfl hin rfl (by decide +kernel) rfl rfl (Nat.le_of_ble_eq_true rfl) (j := 1) (x := 1) (by rw [bU_0]; rfl) dX8_init_23 (fun H locs hR z hS => ?_)
  have hz := z.trans hz
  obtain ⟨X2, e2⟩ : ∃ Y : gM, Y = mT2 X1 := ⟨_, rfl⟩
  have hR : UR D cy β 247 X2 H := ⟨by rw [e2]; unfold mT2; rw [← f2]; exact hR, hz⟩
  refine lv_aload_n hx hb dX8_init_26 rfl (lv_at hl 0 rfl) ?_
  refine mk_state C2 (n := 247) (k := 2) rfl (by decide) dX8_init_27 dX8_init_30 dX8_init_31 hR hS hl.1 (Nat.le_of_ble_eq_true rfl) (Nat.le_of_ble_eq_true rfl) (Nat.le_of_ble_eq_true rfl) (fun H locs hR hS => ?_)
  obtain ⟨hR, hz⟩ := hR
  have hR : gRep D (bodyU cy β) 370 (adS β) (wS X2 247) H := hR
  obtain ⟨P3, f3⟩ : ∃ Y : gM, Y = wS X2 247 := ⟨_, rfl⟩
  rw [← f3] at hR
  refine gm_putFA (v := .ref (β + 247)) (ty := .object "MercuryLine$State") (ci := 8) (C := RX8) (T := TX8) (N := 8) hx hb hts inX8 tyX8 tyX8_ok nmX8 hown hK.1 hR injC hS gA_CA (a := 0) (b0 := β) (by omega) rfl bU_0 rfl 2 (by decide) (hts (.fieldLink RX8 19 "MercuryLine" "trial" "LMercuryLine$State;") (by decide +kernel)) (fun _ h9 => h9) rfl hin rfl (by decide +kernel) rfl rfl (Nat.le_of_ble_eq_true rfl) (j := 2) (x := 1) (by rw [bU_0]; rfl) dX8_init_34 (fun H locs hR z hS => ?_)
  have hz := z.trans hz
  obtain ⟨X3, e3⟩ : ∃ Y : gM, Y = mT3 X2 := ⟨_, rfl⟩
  have hR : UR D cy β 370 X3 H := ⟨by rw [e3]; unfold mT3; rw [← f3]; exact hR, hz⟩
  refine lv_aload_n hx hb dX8_init_37 rfl (lv_at hl 0 rfl) ?_
  refine lv_iconst (v := 4) hx hb dX8_init_38 (by decide) ?_
  obtain ⟨hR, hz⟩ := hR
  refine gm_newq (N := 4) (C := "MercuryLine$State") (t := 3) hx hb hown (hts (.classLink RX8 7 RX3) (by decide +kernel)) (hK.2.2 _ (by decide)) hK.1 rfl (by decide) (by decide) (Nat.le_of_ble_eq_true rfl) (Nat.le_of_ble_eq_true rfl) (Nat.le_of_ble_eq_true rfl) dX8_init_39 hz (fun H h2 z1 o1 => ?_)
  have hS := g_Sm hS hz z1 o1
  obtain ⟨hR, hz⟩ := UR.grow ⟨hR, hz⟩ (show bodyU cy β 370 (fun _ => 0) = .inl (cy 3, 4, .inr (.inr (.inr (.inr (fun _ => none))))) from rfl) h2 z1 o1
  refine gm_putFA (v := .ref (β + 370)) (ty := .array (.object "MercuryLine$State")) (ci := 8) (C := RX8) (T := TX8) (N := 8) hx hb hts inX8 tyX8 tyX8_ok nmX8 hown hK.1 hR injC hS gA_CA (a := 0) (b0 := β) (by omega) rfl bU_0 rfl 3 (by decide) (hts (.fieldLink RX8 22 "MercuryLine" "history" "[LMercuryLine$State;") (by decide +kernel)) (fun _ h9 => h9) rfl hin rfl (by decide +kernel) rfl rfl (Nat.le_of_ble_eq_true rfl) (j := 3) (x := 1) (by rw [bU_0]; rfl) dX8_init_42 (fun H locs hR z hS => ?_)
  have hz := z.trans hz
  obtain ⟨X4, e4⟩ : ∃ Y : gM, Y = mT4 X3 := ⟨_, rfl⟩
  have hR : gRep D (bodyU cy β) 371 (adS β) X4 H := by rw [e4]; exact hR
  have hz : H.size = β + 371 := hz
  refine lv_aload_n hx hb dX8_init_45 rfl (lv_at hl 0 rfl) ?_
  refine gm_new (ci := 6) (fs := [.null, .null, .int 0, .int 0, .int 0]) (C := RX6) (T := TX6) (N := 5) hx hb hts inX6 tyX6 tyX6_ok hown (hts (.classLink RX8 26 RX6) (by decide +kernel)) (hts (.instantiable RX6 5) (by decide +kernel)) (hts (.initialized RX6) (by decide +kernel)) hK.1 rfl (fun j hj => by rcases (show j = 0 ∨ j = 1 ∨ j = 2 ∨ j = 3 ∨ j = 4 by omega) with rfl | rfl | rfl | rfl | rfl <;> rfl) (Nat.le_of_ble_eq_true rfl) (Nat.le_of_ble_eq_true rfl) dX8_init_46 hz (fun H2 h2 z1 o1 => ?_)
  have hS := g_Sm hS hz z1 o1
  refine lv_dup hx hb dX8_init_49 rfl ?_
  have hC : YR D cy (β + 371) 1 gZ H2 := by
    refine ⟨fun c hc => ?_, z1⟩
    have e : c = 0 := by omega
    subst e
    rw [bY_6 (by decide)]
    exact h2
  refine gm_cvC (mc := 7) (ms := 90) (va_runI (As := []) (rest := [.ref (β + 371), .ref β]) ⟨hx, hb, hml, hown, hts⟩ (c_X6_new l D cy (β + 371)) ⟨callB_of 0 hts gX8_init_X6_init rfl rfl rfl (hts (.initialized RX6) (by decide +kernel)) (hts (.methodLink RX8 28 yX6_init) (by decide +kernel)) (by decide +kernel) ⟨Nat.le_of_ble_eq_true rfl, Nat.le_of_ble_eq_true rfl⟩, rfl, hts (.instanceMethod yX6_init) (by decide +kernel)⟩ (gPreS hK hC) rfl rfl hl.1 rfl (lv_room (Nat.le_of_ble_eq_true rfl)) dX8_init_50 ⟨Nat.le_of_ble_eq_true rfl, Nat.le_of_ble_eq_true rfl⟩) hS CA_up (fun H3 locs hRR _ hfr hS => ?_)
  have o3 : ∀ q : Nat, q < β + 371 → H3[q]? = H[q]? := fun q hq => (hfr q (by omega) (by simp only [CA]; omega)).trans (o1 q hq)
  obtain ⟨hR, hz⟩ := UR.growX hR hRR o3
  obtain ⟨P5, f5⟩ : ∃ Y : gM, Y = wX X4 371 := ⟨_, rfl⟩
  rw [← f5] at hR
  clear hfr hRR o3 hC
  refine gm_putFA (v := .ref (β + 371)) (ty := .object "MercuryLine$TicketText") (ci := 8) (C := RX8) (T := TX8) (N := 8) hx hb hts inX8 tyX8 tyX8_ok nmX8 hown hK.1 hR injC hS gA_CA (a := 0) (b0 := β) (by omega) rfl bU_0 rfl 4 (by decide) (hts (.fieldLink RX8 29 "MercuryLine" "text" "LMercuryLine$TicketText;") (by decide +kernel)) (fun _ h9 => h9) rfl hin rfl (by decide +kernel) rfl rfl (Nat.le_of_ble_eq_true rfl) (j := 4) (x := 1) (by rw [bU_0]; rfl) dX8_init_53 (fun H locs hR z hS => ?_)
  have hz := z.trans hz
  obtain ⟨X5, e5⟩ : ∃ Y : gM, Y = mT5 X4 := ⟨_, rfl⟩
  have hR : gRep D (bodyU cy β) 379 (adS β) X5 H := by rw [e5]; unfold mT5; rw [← f5]; exact hR
  have hz : H.size = β + 379 := hz
  refine lv_aload_n hx hb dX8_init_56 rfl (lv_at hl 0 rfl) ?_
  refine gm_new (ci := 7) (fs := [.int 0, .int 0, .int 0, .int 0, .int 0]) (C := RX7) (T := TX7) (N := 5) hx hb hts inX7 tyX7 tyX7_ok hown (hts (.classLink RX8 33 RX7) (by decide +kernel)) (hts (.instantiable RX7 5) (by decide +kernel)) (hts (.initialized RX7) (by decide +kernel)) hK.1 rfl (fun j hj => by rcases (show j = 0 ∨ j = 1 ∨ j = 2 ∨ j = 3 ∨ j = 4 by omega) with rfl | rfl | rfl | rfl | rfl <;> rfl) (Nat.le_of_ble_eq_true rfl) (Nat.le_of_ble_eq_true rfl) dX8_init_57 hz (fun H h2 z1 o1 => ?_)
  have hS := g_Sm hS hz z1 o1
  obtain ⟨hR, hz⟩ := UR.grow ⟨hR, hz⟩ (show bodyU cy β 379 (fun _ => 0) = .inr (7, [.int 0, .int 0, .int 0, .int 0, .int 0]) from rfl) h2 z1 o1
  refine lv_dup hx hb dX8_init_60 rfl ?_
  refine gm_cvC (mc := 0) (ms := 0) (va_runIN (As := []) (rest := [.ref (β + 379), .ref β]) ⟨hx, hb, hml, hown, hts⟩ (c_X7_init l D cy (β + 379) (β + (379 + 1))) ⟨va_cnB 0 hts gX8_init_X7_init_n35 rfl rfl rfl (hK.2.1 (RX8, 35, yX7_init, "MercuryLine") (by decide +kernel)) (hts (.initialized RX7) (by decide +kernel)) (by decide +kernel) ⟨Nat.le_of_ble_eq_true rfl, Nat.le_of_ble_eq_true rfl⟩, rfl, hts (.instanceMethod yX7_init) (by decide +kernel)⟩ (gPreS hK hz) rfl rfl hl.1 rfl (lv_room (Nat.le_of_ble_eq_true rfl)) dX8_init_61 ⟨Nat.le_of_ble_eq_true rfl, Nat.le_of_ble_eq_true rfl⟩) hS (fun _ h => h.elim) (fun H locs hz _ hfr hS => ?_)
  have hR := gRep.keep hR hfr (fun _ _ h => h)
  refine gm_putFA (v := .ref (β + 379)) (ty := .object "MercuryLine$Trip") (ci := 8) (C := RX8) (T := TX8) (N := 8) hx hb hts inX8 tyX8 tyX8_ok nmX8 hown hK.1 hR injC hS gA_CA (a := 0) (b0 := β) (by omega) rfl bU_0 rfl 5 (by decide) (hts (.fieldLink RX8 36 "MercuryLine" "asked" "LMercuryLine$Trip;") (by decide +kernel)) (fun _ h9 => h9) rfl hin rfl (by decide +kernel) rfl rfl (Nat.le_of_ble_eq_true rfl) (j := 5) (x := 1) (by rw [bU_0]; rfl) dX8_init_64 (fun H locs hR z hS => ?_)
  have hz := z.trans hz
  obtain ⟨X6, e6⟩ : ∃ Y : gM, Y = mT6 X5 := ⟨_, rfl⟩
  have hR : gRep D (bodyU cy β) 380 (adS β) X6 H := by rw [e6]; exact hR
  have hz : H.size = β + 380 := hz
  have r3 : X6 0 3 = 1 := by rw [e6]; unfold mT6; rw [updM_sn (by decide), newR_o (by decide), e5]; unfold mT5; rw [updM_sn (by decide), wX_o (by decide), e4]; unfold mT4; rw [updM_ss]
  refine lv_iconst (v := 0) hx hb dX8_init_67 (by decide) ?_
  refine lv_istore_n (lv' := [(1, .int 0), (0, .ref β)]) hx hb dX8_init_68 rfl hl (by decide) rfl (fun ls hl => ?_)
  refine lp_X8_init_69 C2 β 4 0 X6 rfl r3 (fun H locs ls hR hS hl => ?_) _ _ _ ⟨hR, hz⟩ hS (lv_sub hl [1, 0] rfl)
  exact gm_vretC hx hb hr hlocks hS (by unfold U0; rw [← e1, ← e2, ← e3, ← e4, ← e5, ← e6]; exact hR) dX8_init_97
/-! the memory of a new object -/
theorem U0_0 : U0 0 0 = 1 ∧ U0 0 1 = 1 ∧ U0 0 2 = 1 ∧ U0 0 3 = 1 ∧ U0 0 4 = 1 ∧ U0 0 5 = 1 ∧ U0 0 6 = 0 ∧ U0 0 7 = 0 := by decide +kernel
theorem U0_h : ∀ j, j < 4 → U0 370 j = nI (3 + j) := by decide +kernel
theorem U0_t : U0 371 2 = 0 := by decide +kernel
theorem U0_r0 : ∀ i, i < 974 → zp i = true → vw 0 U0 (zc i) (zf i) = r0 i := by decide +kernel
theorem U0_log : vw 0 U0 33 1 = 0 ∧ vw 0 U0 33 2 = 0 := by decide +kernel
theorem U0_sim {cy : Nat → ClassId} {β : Nat} : ∀ c, c < 872 → gSim (bodyU cy β c (U0 c)) (bodyT cy β c (U0 c)) := by
  intro c hc
  by_cases h0 : c = 0
  · subst h0
    left
    obtain ⟨a0, a1, a2, a3, a4, a5, -, -⟩ := U0_0
    rw [bU_0, bT_0, a0, a1, a2, a3, a4, a5]
    simp only [gr1]
  · by_cases h1 : c = 370
    · subst h1
      refine Or.inr ⟨_, _, _, _, bU_h, bT_h, fun n hn => ?_⟩
      rw [U0_h n hn, c1 (show 3 + n < 2147483648 by omega)]
      unfold gro
      rw [if_neg (by rcases (show n = 0 ∨ n = 1 ∨ n = 2 ∨ n = 3 by omega) with rfl | rfl | rfl | rfl <;> decide +kernel)]
    · left
      exact bU_T h0 h1
theorem UR.TR {D : va_G} {cy : Nat → ClassId} {β : Nat} {H : Heap} (h : UR D cy β 872 U0 H) : TR D cy β U0 H := gRep.sim h.1 U0_sim
