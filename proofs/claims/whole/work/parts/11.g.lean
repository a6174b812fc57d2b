/-! the law's loop -/
theorem ix2 (i : Nat) : nI i + 2 = nI (i + 2) := by
  rw [show (2 : Int32) = 1 + 1 from by decide, ← Int32.add_assoc, nI_1, nI_1]
theorem ix3 (i : Nat) : nI i + 3 = nI (i + 3) := by
  rw [show (3 : Int32) = 2 + 1 from by decide, ← Int32.add_assoc, ix2, nI_1]
theorem ix4 (i : Nat) : nI i + 4 = nI (i + 4) := by
  rw [show (4 : Int32) = 3 + 1 from by decide, ← Int32.add_assoc, ix3, nI_1]
theorem ix5 (i : Nat) : nI i + 5 = nI (i + 5) := by
  rw [show (5 : Int32) = 4 + 1 from by decide, ← Int32.add_assoc, ix4, nI_1]
theorem ix6 (i : Nat) : nI i + 6 = nI (i + 6) := by
  rw [show (6 : Int32) = 5 + 1 from by decide, ← Int32.add_assoc, ix5, nI_1]
theorem sub6 {L : Nat} (h : L ≤ 3072) : (Int32.ofNat L - 6).toInt = (L : Int) - 6 := by
  have h1 : (Int32.ofNat L).toInt = (L : Int) := toInt_of rfl (by omega)
  rw [Int32.toInt_sub, h1, show (6 : Int32).toInt = 6 from by decide, Int.bmod_eq_of_le (by omega) (by omega)]
set_option maxHeartbeats 4000000 in
set_option maxRecDepth 100000 in
theorem law_loop {p : Program} {l : Launch} {e : Env} {s : State} {m : MethodId} {below : List Frame} {meth : Method} {c : Code} {D : va_G} {cy : Nat → ClassId} {b L : Nat} {xs : Nat → Int32} {cells slots : Nat} (hL : L ≤ 3072) (C0 : lw_At p s m meth c b L xs) (C : lw_C D cy p s m c b L xs) (hc0 : cells ≤ 600000) (hs0 : slots ≤ 7302250) :
    ∀ (n i : Nat), i ≤ L → L + 1 ≤ i + n → ∀ (X Y : gM) (H : Heap) (locs : List Loc), lw_I D cy s X Y H locs → ∀ (ls : Array Slot), lv_has ls 4 [(0, .ref b), (1, .ref s.heap.size), (2, .ref (s.heap.size + 872)), (3, .int (nI i))] → W p l e room_1 s m #[Value.ref b] below meth c H locs cells slots (lw_Z below #[Value.ref b] s) (F0 m 18 ls []) := by
  obtain ⟨-, -, hr, -, -, -, -, -, hlocks, -⟩ := C0
  obtain ⟨hx, hb, hml, hown, hts, hX, hbl, hK⟩ := id C
  have hbA : ¬ CA s.heap.size b := Nat.not_le.mpr hbl
  intro n
  induction n with
  | zero =>
    intro i h1 h2
    exact absurd h2 (by omega)
  | succ n ih =>
    intro i hi hin X Y H locs hI ls hl
    obtain ⟨hR, hM, hrel, hS⟩ := id hI
    refine lv_iload_n hx hb dL_law_18 rfl (lv_at hl 3 rfl) ?_
    refine lv_aload_n hx hb dL_law_19 rfl (lv_at hl 0 rfl) ?_
    refine va_slen hx hb hX hbl hbA hS dL_law_20 ?_
    refine lv_bipush (v := 6) hx hb dL_law_21 (by decide) ?_
    refine lv_isub hx hb dL_law_23 ?_
    have e6 := sub6 hL
    have ei : (nI i).toInt = (i : Int) := nI_toInt (by omega)
    refine lv_icmp_gt (tgt := 1080) hx hb dL_law_24 (by decide) (fun z => ?_) (fun z => ?_)
    · refine lv_iconst (v := 1) hx hb dL_law_1080 (by decide) ?_
      refine va_forget (fun q hq => hS.2.2 q hq) ?_
      refine W.widen (k := 600000) (n := 7302250) hc0 hs0 ?_
      exact lw_ret hx hb hr hlocks dL_law_1081
    · have hlt : i + 6 ≤ L := by
        rw [Int32.lt_iff_toInt_lt, e6, ei] at z
        omega
      have h_0 : vp_in (nI i) L := vp_in_nI (by omega) (by omega)
      have h_1 : vp_in (nI i + 1) L := by rw [nI_1]; exact vp_in_nI (by omega) (by omega)
      have h_2 : vp_in (nI i + 2) L := by rw [ix2]; exact vp_in_nI (by omega) (by omega)
      have h_3 : vp_in (nI i + 3) L := by rw [ix3]; exact vp_in_nI (by omega) (by omega)
      have h_4 : vp_in (nI i + 4) L := by rw [ix4]; exact vp_in_nI (by omega) (by omega)
      have h_5 : vp_in (nI i + 5) L := by rw [ix5]; exact vp_in_nI (by omega) (by omega)
      refine lv_aload_n hx hb dL_law_27 rfl (lv_at hl 0 rfl) ?_
      refine lv_iload_n hx hb dL_law_28 rfl (lv_at hl 3 rfl) ?_
      refine va_sld hx hb hX hbl hbA hS h_0 dL_law_29 ?_
      refine lv_bipush (v := 31) hx hb dL_law_30 (by decide) ?_
      refine lv_iand hx hb dL_law_32 ?_
      have hkk : ∀ (X Y : gM) (H : Heap) (locs : List Loc), lw_I D cy s X Y H locs → W p l e room_1 s m #[Value.ref b] below meth c H locs cells slots (lw_Z below #[Value.ref b] s) (F0 m 1074 ls []) := by
        intro X Y H locs hI
        refine lv_iinc (v := nI (i + 6)) (lv' := [(3, .int (nI (i + 6))), (0, .ref b), (1, .ref s.heap.size), (2, .ref (s.heap.size + 872))]) hx hb dL_law_1074 hl (k := 3) rfl (ix6 _) (by decide) rfl (fun ls hl => ?_)
        refine lv_goto (tgt := 18) hx hb dL_law_1077 (by decide) ?_
        exact ih (i + 6) hlt (by omega) X Y H locs hI ls (lv_sub hl [1, 2, 3, 0] rfl)
      exact law_sw C h_1 h_2 h_3 h_4 h_5 hI hl hc0 hs0 hkk _

/-! the law from its entry -/
theorem lw_new8 {D : va_G} {cy : Nat → ClassId} {β : Nat} {H : Heap} (h : va_at D vwCl (β, .inr (8, [.null, .null, .null, .null, .null, .null, .int 0, .int 0])) H) (hz : H.size = β + 1) : UR D cy β 1 gZ H := by
  refine ⟨fun c hc => ?_, hz⟩
  have e : c = 0 := by omega
  subst e
  exact h
theorem lw_new9 {D : va_G} {cy : Nat → ClassId} {μ : Nat} {H : Heap} (h : va_at D vwCl (μ, .inr (9, [.null, .null, .int 0, .null, .int 0, .null, .null, .int 0, .int 0, .int 0, .int 0, .null, .int 0, .int 0, .int 0])) H) (hz : H.size = μ + 1) : NR D cy μ 1 gZ H := by
  refine ⟨fun c hc => ?_, hz⟩
  have e : c = 0 := by omega
  subst e
  exact h
set_option maxHeartbeats 4000000 in
set_option maxRecDepth 100000 in
/-- YOUR PART: from the entry, for every script of at most 3072 ints, the law comes to its end with true -/
theorem whole_start {p : Program} {e : Env} {s : State} {m : MethodId} {below : List Frame} {meth : Method} {c : Code} (l : Launch) (hflags : l.flags = flags0) {b L : Nat} {xs : Nat → Int32} (hL : L ≤ 3072) (C0 : lw_At p s m meth c b L xs) : W p l e room_1 s m #[Value.ref b] below meth c s.heap [] 0 0 (lw_Z below #[Value.ref b] s) (entryFrame m ([Value.ref b] : List Value).toArray 4) := by
  obtain ⟨hx, hb, hr, hml, hown, htb, hX, hbl, hlocks, hgv⟩ := id C0
  have hb : c.code = cL_law := hb
  have hown : s.vm.findClass RL = some m.cls := hown
  obtain ⟨D, cy, hK⟩ := law_K htb
  have hts : ∀ w ∈ wsL_law, w.before #[Value.ref b] s = true := fun w h => htb w (wsL_law_all w h)
  have C : lw_C D cy p s m c b L xs := ⟨hx, hb, hml, hown, hts, hX, hbl, hK⟩
  have hS : va_S (CA s.heap.size) s.heap s.heap [] := va_S.rf
  have hl := lv_entry ([.ref b]) (n := 4) (Nat.le_of_ble_eq_true rfl)
  rw [lg_entry_eq]
  generalize (lg_sl ([.ref b]) ++ List.replicate (4 - (lg_sl ([.ref b])).length) Slot.unset).toArray = ls at hl ⊢
  have hl : lv_has ls 4 [(0, .ref b)] := hl
  refine gm_new (ci := 8) (fs := [.null, .null, .null, .null, .null, .null, .int 0, .int 0]) (C := RX8) (T := TX8) (N := 8) hx hb hts inlX8 tyX8 tyX8_ok hown (hts (.classLink RL 7 RX8) (by decide +kernel)) (hts (.instantiable RX8 8) (by decide +kernel)) (hts (.initialized RX8) (by decide +kernel)) hK.1 rfl (fun j hj => by rcases (show j = 0 ∨ j = 1 ∨ j = 2 ∨ j = 3 ∨ j = 4 ∨ j = 5 ∨ j = 6 ∨ j = 7 by omega) with rfl | rfl | rfl | rfl | rfl | rfl | rfl | rfl <;> rfl) (Nat.le_of_ble_eq_true rfl) (Nat.le_of_ble_eq_true rfl) dL_law_0 rfl (fun H h2 z1 o1 => ?_)
  have hS := g_Sm hS rfl z1 o1
  refine lv_dup hx hb dL_law_3 rfl ?_
  refine gm_cvC (mc := 871) (ms := 8231) (va_runI (As := []) (rest := [.ref s.heap.size]) ⟨hx, hb, hml, hown, hts⟩ (c_X8_init l D cy s.heap.size) ⟨callB_of 0 hts gL_law_X8_init rfl rfl rfl (hts (.initialized RX8) (by decide +kernel)) (hts (.methodLink RL 9 yX8_init) (by decide +kernel)) (by decide +kernel) ⟨Nat.le_of_ble_eq_true rfl, Nat.le_of_ble_eq_true rfl⟩, rfl, hts (.instanceMethod yX8_init) (by decide +kernel)⟩ (gPreS hK (lw_new8 h2 z1)) rfl rfl hl.1 rfl (lv_room (Nat.le_of_ble_eq_true rfl)) dL_law_4 ⟨Nat.le_of_ble_eq_true rfl, Nat.le_of_ble_eq_true rfl⟩) hS (fun _ h => h) (fun H locs hU _ hfr hS => ?_)
  clear hfr h2 z1 o1
  refine lv_astore_n (lv' := [(1, .ref s.heap.size), (0, .ref b)]) hx hb dL_law_7 rfl hl (by decide) rfl (fun ls hl => ?_)
  have hR := hU.TR
  have hz2 := hU.2
  clear hU
  refine gm_new (ci := 9) (fs := [.null, .null, .int 0, .null, .int 0, .null, .null, .int 0, .int 0, .int 0, .int 0, .null, .int 0, .int 0, .int 0]) (C := RX9) (T := TX9) (N := 15) hx hb hts inlX9 tyX9 tyX9_ok hown (hts (.classLink RL 10 RX9) (by decide +kernel)) (hts (.instantiable RX9 15) (by decide +kernel)) (hts (.initialized RX9) (by decide +kernel)) hK.1 rfl (fun j hj => by rcases (show j = 0 ∨ j = 1 ∨ j = 2 ∨ j = 3 ∨ j = 4 ∨ j = 5 ∨ j = 6 ∨ j = 7 ∨ j = 8 ∨ j = 9 ∨ j = 10 ∨ j = 11 ∨ j = 12 ∨ j = 13 ∨ j = 14 by omega) with rfl | rfl | rfl | rfl | rfl | rfl | rfl | rfl | rfl | rfl | rfl | rfl | rfl | rfl | rfl <;> rfl) (Nat.le_of_ble_eq_true rfl) (Nat.le_of_ble_eq_true rfl) dL_law_8 hz2 (fun H h2 z1 o1 => ?_)
  have hS := g_Sm hS hz2 z1 o1
  have hR : TR D cy s.heap.size U0 H := fun c hc => (hR c hc).kept (o1 _ (by simp only [adS]; omega))
  refine lv_dup hx hb dL_law_11 rfl ?_
  refine gm_cvC (mc := 6) (ms := 6908) (va_runI (As := []) (rest := [.ref (s.heap.size + 872)]) ⟨hx, hb, hml, hown, hts⟩ (c_X9_init l D cy (s.heap.size + 872)) ⟨callB_of 0 hts gL_law_X9_init rfl rfl rfl (hts (.initialized RX9) (by decide +kernel)) (hts (.methodLink RL 12 yX9_init) (by decide +kernel)) (by decide +kernel) ⟨Nat.le_of_ble_eq_true rfl, Nat.le_of_ble_eq_true rfl⟩, rfl, hts (.instanceMethod yX9_init) (by decide +kernel)⟩ (gPreS hK (lw_new9 h2 z1)) rfl rfl hl.1 rfl (lv_room (Nat.le_of_ble_eq_true rfl)) dL_law_12 ⟨Nat.le_of_ble_eq_true rfl, Nat.le_of_ble_eq_true rfl⟩) hS CA_up (fun H locs hV _ hfr hS => ?_)
  have hR : TR D cy s.heap.size U0 H := gRep.keep hR hfr (fun c hc q => by simp only [adS, CA] at q; omega)
  clear hfr h2 z1 o1
  refine lv_astore_n (lv' := [(2, .ref (s.heap.size + 872)), (1, .ref s.heap.size), (0, .ref b)]) hx hb dL_law_15 rfl hl (by decide) rfl (fun ls hl => ?_)
  refine lv_iconst (v := 0) hx hb dL_law_16 (by decide) ?_
  refine lv_istore_n (lv' := [(3, .int 0), (2, .ref (s.heap.size + 872)), (1, .ref s.heap.size), (0, .ref b)]) hx hb dL_law_17 rfl hl (by decide) rfl (fun ls hl => ?_)
  exact law_loop hL C0 C (Nat.le_of_ble_eq_true rfl) (Nat.le_of_ble_eq_true rfl) (L + 1) 0 (Nat.zero_le L) (by omega) U0 V0 H locs ⟨hR, hV.MR, Rl_new, hS⟩ ls (lv_sub hl [3, 2, 1, 0] rfl)
