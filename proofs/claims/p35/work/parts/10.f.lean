/-! the constructor of the text of tickets -/
def bodyY (cy : Nat → ClassId) (τ : Nat) : gB := fun c r =>
  if kdX c = 6 then .inr (6, [gr (r 0) (τ + 1), gr (r 1) (τ + 2), .int (r 2), .int (r 3), .int (r 4)])
  else if kdX c = 31 then .inl (cy 1, 60, .inl r)
  else if kdX c = 32 then .inl (cy 6, 5, .inr (.inr (.inr (.inr (fun n => gro (r n) (τ + (3 + n)))))))
  else .inr (7, [.int (r 0), .int (r 1), .int (r 2), .int (r 3), .int (r 4)])
section LAYY
variable {cy : Nat → ClassId} {τ c : Nat} {r : Nat → Int32}
theorem bY_6 (h : kdX c = 6) : bodyY cy τ c r = .inr (6, [gr (r 0) (τ + 1), gr (r 1) (τ + 2), .int (r 2), .int (r 3), .int (r 4)]) := by simp [bodyY, h]
theorem bY_31 (h : kdX c = 31) : bodyY cy τ c r = .inl (cy 1, 60, .inl r) := by simp [bodyY, h]
theorem bY_32 (h : kdX c = 32) : bodyY cy τ c r = .inl (cy 6, 5, .inr (.inr (.inr (.inr (fun n => gro (r n) (τ + (3 + n))))))) := by simp [bodyY, h]
theorem bY_7 (h : kdX c = 7) : bodyY cy τ c r = .inr (7, [.int (r 0), .int (r 1), .int (r 2), .int (r 3), .int (r 4)]) := by simp [bodyY, h]
end LAYY
/-- n cells of a text in the making, at the heap's end -/
def YR (D : va_G) (cy : Nat → ClassId) (σ n : Nat) (X : gM) (H : Heap) : Prop := gRep D (bodyY cy σ) n (adS σ) X H ∧ H.size = σ + n
theorem YR.grow {D : va_G} {cy : Nat → ClassId} {σ n : Nat} {X : gM} {H H1 : Heap} {e : va_E} (h : YR D cy σ n X H) (he : bodyY cy σ n (fun _ => 0) = e) (h1 : va_at D vwCl (σ + n, e) H1) (hz : H1.size = σ + n + 1) (o : ∀ q : Nat, q < σ + n → H1[q]? = H[q]?) : YR D cy σ (n + 1) (newR X n) H1 :=
  ⟨gRep.grow h.1 (by rw [he]; exact h1) o, hz⟩
def p_tri : Nat → Nat → gM → gM
  | 0, _, Z => Z
  | n + 1, k, Z => p_tri n (k + 1) (updM (newR Z (3 + k)) 2 k 1)
set_option maxHeartbeats 400000 in
set_option maxRecDepth 100000 in
theorem lp_X6_init_22 {p : Program} {l : Launch} {e : Env} {s : State} {m : MethodId} {args : Array Value} {below : List Frame} {meth : Method} {c0 : Code} {D : va_G} {cy : Nat → ClassId} {Q : State → Prop} (C : gCtx cX6_init 2 none RX6 wsX6_init D cy p s m args meth c0) (σ : Nat) :
    ∀ (n k : Nat) (Z : gM), k + n = 5 → Z 0 1 = 1 → (∀ (H : Heap) (locs : List Loc) (ls : Array Slot), YR D cy σ 8 (p_tri n k Z) H → va_S (CA σ) s.heap H locs → lv_has ls 2 [(0, .ref σ), (1, .int (nI 5))] → W p l e { frames := 2, cells := 7, slots := 90, locals := 32 } s m args below meth c0 H locs 7 90 Q (F0 m 50 ls [])) → ∀ (H : Heap) (locs : List Loc) (ls : Array Slot), YR D cy σ (3 + k) Z H → va_S (CA σ) s.heap H locs → lv_has ls 2 [(0, .ref σ), (1, .int (nI k))] → W p l e { frames := 2, cells := 7, slots := 90, locals := 32 } s m args below meth c0 H locs (2 + k) (65 + 5 * k) Q (F0 m 22 ls []) := by
  obtain ⟨hx, hb, hr, hts, hown, hlocks, hml, hK⟩ := C
  have lkA := hts (.fieldLink RX6 17 "MercuryLine$TicketText" "trips" "[LMercuryLine$Trip;") (by decide +kernel)
  have inX6 : ∀ w ∈ u_ws RX6 TX6 5, w ∈ wsX6_init := by decide +kernel
  have inX7 : ∀ w ∈ u_ws RX7 TX7 5, w ∈ wsX6_init := by decide +kernel
  intro n
  induction n with
  | zero =>
    intro k Z hkn h1 hexit H locs ls hR hS hl
    have e : k = 5 := by omega
    subst e
    have b1 : bodyY cy σ 0 (Z 0) = .inr (6, [gr (Z 0 0) (σ + 1), .ref (σ + 2), .int (Z 0 2), .int (Z 0 3), .int (Z 0 4)]) := by rw [bY_6 (by decide), h1, gr1]
    refine lv_iload_n hx hb dX6_init_22 rfl (lv_at hl 1 rfl) ?_
    refine lv_aload_n hx hb dX6_init_23 rfl (lv_at hl 0 rfl) ?_
    refine va_get (D := D) (ci := 6) (v := .ref (σ + 2)) (C := RX6) (T := TX6) (N := 5) hx hb hts inX6 hown hK.1 (gRep.oneAt hR.1 (c := 0) (b0 := σ) (by omega) rfl b1) 0 rfl rfl 1 (by decide) lkA (fun _ h9 => h9) rfl dX6_init_24 ?_
    refine va_alen (v := 5) hx hb hK.1 (gRep.one hR.1 (c := 2) (by omega) (bY_32 (by decide))) 0 6 rfl rfl rfl dX6_init_27 ?_
    refine lv_icmp_ge (tgt := 50) hx hb dX6_init_28 (by decide) (fun c_1 => ?_) (fun c_1 => ?_)
    · exact hexit H locs ls hR hS hl
    · exact absurd (show (5 : Int32) ≤ nI 5 by decide +kernel) c_1
  | succ n ih =>
    intro k Z hkn h1 hexit H locs ls hR hS hl
    have hk6 : k < 5 := by omega
    have b1 : bodyY cy σ 0 (Z 0) = .inr (6, [gr (Z 0 0) (σ + 1), .ref (σ + 2), .int (Z 0 2), .int (Z 0 3), .int (Z 0 4)]) := by rw [bY_6 (by decide), h1, gr1]
    have q42 : kdX (3 + k) = 7 := (kd_X k hk6).2
    refine lv_iload_n hx hb dX6_init_22 rfl (lv_at hl 1 rfl) ?_
    refine lv_aload_n hx hb dX6_init_23 rfl (lv_at hl 0 rfl) ?_
    refine va_get (D := D) (ci := 6) (v := .ref (σ + 2)) (C := RX6) (T := TX6) (N := 5) hx hb hts inX6 hown hK.1 (gRep.oneAt hR.1 (c := 0) (b0 := σ) (by omega) rfl b1) 0 rfl rfl 1 (by decide) lkA (fun _ h9 => h9) rfl dX6_init_24 ?_
    refine va_alen (v := 5) hx hb hK.1 (gRep.one hR.1 (c := 2) (by omega) (bY_32 (by decide))) 0 6 rfl rfl rfl dX6_init_27 ?_
    refine lv_icmp_ge (tgt := 50) hx hb dX6_init_28 (by decide) (fun c_1 => ?_) (fun c_1 => ?_)
    · exact absurd c_1 (nI_ge (b := 5) (by omega) (by decide))
    · refine lv_aload_n hx hb dX6_init_31 rfl (lv_at hl 0 rfl) ?_
      refine va_get (D := D) (ci := 6) (v := .ref (σ + 2)) (C := RX6) (T := TX6) (N := 5) hx hb hts inX6 hown hK.1 (gRep.oneAt hR.1 (c := 0) (b0 := σ) (by omega) rfl b1) 0 rfl rfl 1 (by decide) lkA (fun _ h9 => h9) rfl dX6_init_32 ?_
      refine lv_iload_n hx hb dX6_init_35 rfl (lv_at hl 1 rfl) ?_
      obtain ⟨hR, hz⟩ := hR
      refine gm_new (ci := 7) (fs := [.int 0, .int 0, .int 0, .int 0, .int 0]) (C := RX7) (T := TX7) (N := 5) hx hb hts inX7 tyX7 tyX7_ok hown (hts (.classLink RX6 15 RX7) (by decide +kernel)) (hts (.instantiable RX7 5) (by decide +kernel)) (hts (.initialized RX7) (by decide +kernel)) hK.1 rfl (fun j hj => by rcases (show j = 0 ∨ j = 1 ∨ j = 2 ∨ j = 3 ∨ j = 4 by omega) with rfl | rfl | rfl | rfl | rfl <;> rfl) (by show 2 + k + 1 ≤ 7; omega) (by show 65 + 5 * k + 5 ≤ 90; omega) dX6_init_36 hz (fun H h2 z1 o1 => ?_)
      have hS := g_Sm hS hz z1 o1
      obtain ⟨hR, hz⟩ := YR.grow ⟨hR, hz⟩ (show bodyY cy σ (3 + k) (fun _ => 0) = .inr (7, [.int 0, .int 0, .int 0, .int 0, .int 0]) by rw [bY_7 q42]) h2 z1 o1
      refine lv_dup hx hb dX6_init_39 rfl ?_
      refine gm_cvC (mc := 0) (ms := 0) (va_runIN (As := []) (rest := [.ref (σ + (3 + k)), .int (nI k), .ref (σ + 2)]) ⟨hx, hb, hml, hown, hts⟩ (c_X7_init l D cy (σ + (3 + k)) (σ + (3 + k + 1))) ⟨va_cnB 0 hts gX6_init_X7_init_n21 rfl rfl rfl (hK.2.1 (RX6, 21, yX7_init, "MercuryLine") (by decide +kernel)) (hts (.initialized RX7) (by decide +kernel)) (by decide +kernel) ⟨Nat.le_of_ble_eq_true rfl, Nat.le_of_ble_eq_true rfl⟩, rfl, hts (.instanceMethod yX7_init) (by decide +kernel)⟩ (gPreS hK hz) rfl rfl hl.1 rfl (lv_room (Nat.le_of_ble_eq_true rfl)) dX6_init_40 ⟨by show 2 + k + 1 + 0 ≤ 7; omega, by show 65 + 5 * k + 5 + 0 ≤ 90; omega⟩) hS (fun _ h => h.elim) (fun H locs hz _ hfr hS => ?_)
      have hR := gRep.keep hR hfr (fun _ _ h => h)
      refine gm_astA hx hb hK.1 hR injC hS gA_CA (a := 2) (by omega) rfl (bY_32 (by decide)) (t0 := 6) rfl (gRep.one hR (c := 3 + k) (by omega) (bY_7 q42)) (ci := 7) rfl (vp_in_nI hk6 (by decide)) (j := k) (x := 1) ?_ dX6_init_43 (fun H locs hR z hS => ?_)
      · rw [bY_32 (by decide), c1 (show k < 2147483648 by omega)]
        have ef : (fun n => gro (upd (newR Z (3 + k) 2) k 1 n) (σ + (3 + n))) = va_up (fun n => gro (newR Z (3 + k) 2 n) (σ + (3 + n))) k (some (σ + (3 + k))) := by
          funext q
          unfold va_up upd
          by_cases hq : q = k
          · subst hq
            rw [if_pos rfl, if_pos rfl]
            exact if_neg (by decide)
          · rw [if_neg hq, if_neg hq]
        rw [ef]
      · have hz := z.trans hz
        refine lv_iinc (v := nI (k + 1)) (lv' := [(1, .int (nI (k + 1))), (0, .ref σ)]) hx hb dX6_init_44 hl (k := 1) rfl (nI_1 _) (by decide) rfl (fun ls hl => ?_)
        refine lv_goto (tgt := 22) hx hb dX6_init_47 (by decide) ?_
        have e1 : 2 + k + 1 + 0 = 2 + (k + 1) := by omega
        have e2 : 65 + 5 * k + 5 + 0 = 65 + 5 * (k + 1) := by omega
        rw [e1, e2]
        exact ih (k + 1) _ (by omega) (by rw [updM_o (by omega), newR_o (by omega)]; exact h1) hexit _ _ _ ⟨hR, hz⟩ hS (lv_sub hl [1, 0] rfl)
