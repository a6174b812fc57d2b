set_option maxHeartbeats 8000000 in
set_option maxRecDepth 100000 in
theorem whole_start {p : Program} {e : Env} {s : State} {m : MethodId} {below : List Frame} {meth : Method} {c : Code} (l : Launch) (hflags : l.flags = flags0) {b L : Nat} {xs : Nat → Int32} (hL : L ≤ 260) (C0 : lw_At p s m meth c b L xs) : W p l e room_1 s m #[Value.ref b] below meth c s.heap [] 0 0 (lw_Z below #[Value.ref b] s) (entryFrame m ([Value.ref b] : List Value).toArray 15) := by
  obtain ⟨hx, hb, hr, hml, hown, htb, hX, hbl, hlocks, hgv⟩ := id C0
  have hb : c.code = cL_law := hb
  have hown : s.vm.findClass RL = some m.cls := hown
  obtain ⟨D, cy, hK⟩ := law_K htb
  have hts : ∀ w ∈ wsL_law, w.before #[Value.ref b] s = true := fun w h => htb w (wsL_law_all w h)
  have C : lw_C D cy p s m c b L xs := ⟨hx, hb, hml, hown, hts, hX, hbl, hK⟩
  have hbA : ¬ CA s.heap.size b := Nat.not_le.mpr hbl
  have hS : va_S (CA s.heap.size) s.heap s.heap [] := va_S.rf
  have hl := lv_entry ([.ref b]) (n := 15) (Nat.le_of_ble_eq_true rfl)
  rw [lg_entry_eq]
  generalize (lg_sl ([.ref b]) ++ List.replicate (15 - (lg_sl ([.ref b])).length) Slot.unset).toArray = ls at hl ⊢
  have hl : lv_has ls 15 [(0, .ref b)] := hl
  obtain ⟨η, hz⟩ : ∃ n : Nat, s.heap.size = n := ⟨_, rfl⟩
  refine gm_ciC (mc := 872) (ms := 8239) (gm_callSC (As := []) (rest := []) ⟨hx, hb, hml, hown, hts⟩ hK (c_L_texts l D cy η) (va_cwS 0 hts ks_texts rfl rfl rfl (by decide +kernel) ⟨Nat.le_of_ble_eq_true rfl, Nat.le_of_ble_eq_true rfl⟩) hz rfl hl.1 rfl (Nat.le_of_ble_eq_true rfl) dL_law_0 (Nat.le_of_ble_eq_true rfl) (Nat.le_of_ble_eq_true rfl)) hS (fun q hq => Nat.le_trans (by rw [← hz]; exact hS.1) hq) (fun H locs _ hz9 hfr hS => ?_)
  clear hfr hz9 hz η
  refine lv_if_eq (tgt := 24) hx hb dL_law_3 (by decide) (fun c1 => absurd c1 (by decide)) (fun _ => ?_)
  obtain ⟨η, hz⟩ : ∃ n : Nat, H.size = n := ⟨_, rfl⟩
  refine gm_ciC (mc := 1744) (ms := 16478) (gm_callSC (As := []) (rest := []) ⟨hx, hb, hml, hown, hts⟩ hK (c_L_rides l D cy η) (va_cwS 0 hts ks_rides rfl rfl rfl (by decide +kernel) ⟨Nat.le_of_ble_eq_true rfl, Nat.le_of_ble_eq_true rfl⟩) hz rfl hl.1 rfl (Nat.le_of_ble_eq_true rfl) dL_law_6 (Nat.le_of_ble_eq_true rfl) (Nat.le_of_ble_eq_true rfl)) hS (fun q hq => Nat.le_trans (by rw [← hz]; exact hS.1) hq) (fun H locs _ hz9 hfr hS => ?_)
  clear hfr hz9 hz η
  refine lv_if_eq (tgt := 24) hx hb dL_law_9 (by decide) (fun c1 => absurd c1 (by decide)) (fun _ => ?_)
  obtain ⟨η, hz⟩ : ∃ n : Nat, H.size = n := ⟨_, rfl⟩
  refine gm_ciC (mc := 1744) (ms := 16478) (gm_callSC (As := []) (rest := []) ⟨hx, hb, hml, hown, hts⟩ hK (c_L_pauses l D cy η) (va_cwS 0 hts ks_pauses rfl rfl rfl (by decide +kernel) ⟨Nat.le_of_ble_eq_true rfl, Nat.le_of_ble_eq_true rfl⟩) hz rfl hl.1 rfl (Nat.le_of_ble_eq_true rfl) dL_law_12 (Nat.le_of_ble_eq_true rfl) (Nat.le_of_ble_eq_true rfl)) hS (fun q hq => Nat.le_trans (by rw [← hz]; exact hS.1) hq) (fun H locs _ hz9 hfr hS => ?_)
  clear hfr hz9 hz η
  refine lv_if_eq (tgt := 24) hx hb dL_law_15 (by decide) (fun c1 => absurd c1 (by decide)) (fun _ => ?_)
  obtain ⟨η, hz⟩ : ∃ n : Nat, H.size = n := ⟨_, rfl⟩
  refine gm_ciC (mc := 872) (ms := 8239) (gm_callSC (As := []) (rest := []) ⟨hx, hb, hml, hown, hts⟩ hK (c_L_orders l D cy η) (va_cwS 0 hts ks_orders rfl rfl rfl (by decide +kernel) ⟨Nat.le_of_ble_eq_true rfl, Nat.le_of_ble_eq_true rfl⟩) hz rfl hl.1 rfl (Nat.le_of_ble_eq_true rfl) dL_law_18 (Nat.le_of_ble_eq_true rfl) (Nat.le_of_ble_eq_true rfl)) hS (fun q hq => Nat.le_trans (by rw [← hz]; exact hS.1) hq) (fun H locs _ hz9 hfr hS => ?_)
  clear hfr hz9 hz η
  refine lv_if_ne (tgt := 26) hx hb dL_law_21 (by decide) (fun _ => ?_) (fun c1 => absurd c1 (by decide))
  obtain ⟨β, hz⟩ : ∃ n : Nat, H.size = n := ⟨_, rfl⟩
  have hβ : s.heap.size ≤ β := by rw [← hz]; exact hS.1
  refine gm_new (ci := 8) (fs := [.null, .null, .null, .null, .null, .null, .int 0, .int 0]) (C := RX8) (T := TX8) (N := 8) hx hb hts inlX8 tyX8 tyX8_ok hown (hts _ kw_classLink_RL_14_RX8) (hts _ kw_instantiable_RX8_8) (hts _ kw_initialized_RX8) hK.1 rfl (fun j hj => by rcases (show j = 0 ∨ j = 1 ∨ j = 2 ∨ j = 3 ∨ j = 4 ∨ j = 5 ∨ j = 6 ∨ j = 7 by omega) with rfl | rfl | rfl | rfl | rfl | rfl | rfl | rfl <;> rfl) (Nat.le_of_ble_eq_true rfl) (Nat.le_of_ble_eq_true rfl) dL_law_26 hz (fun H h2 z1 o1 => ?_)
  have hS := g_Sm hS hz z1 o1
  refine lv_dup hx hb dL_law_29 rfl ?_
  refine gm_cvC (mc := 871) (ms := 8231) (va_runI (As := []) (rest := [.ref β]) ⟨hx, hb, hml, hown, hts⟩ (c_X8_init l D cy β) ⟨callB_of 0 hts kg_init rfl rfl rfl (hts _ kw_initialized_RX8) (hts _ kw_methodLink_RL_134_yX8_init) (by decide +kernel) ⟨Nat.le_of_ble_eq_true rfl, Nat.le_of_ble_eq_true rfl⟩, rfl, hts _ kw_instanceMethod_yX8_init⟩ (gPreS hK (lw_new8 h2 z1)) rfl rfl hl.1 rfl (lv_room (Nat.le_of_ble_eq_true rfl)) dL_law_30 ⟨Nat.le_of_ble_eq_true rfl, Nat.le_of_ble_eq_true rfl⟩) hS (fun q hq => Nat.le_trans hβ hq) (fun H locs hU _ hfr hS => ?_)
  clear hfr h2 z1 o1
  have hR := hU.TR
  have hzl : β + 872 ≤ H.size := Nat.le_of_eq hU.2.symm
  clear hU hz
  refine lv_astore_n (lv' := [(1, .ref β), (0, .ref b)]) hx hb dL_law_33 rfl hl (by decide) rfl (fun ls hl => ?_)
  refine lv_aload_n hx hb dL_law_34 rfl (lv_at hl 0 rfl) ?_
  refine gm_ci (gm_callS (As := [.ref β]) (rest := []) ⟨hx, hb, hml, hown, hts⟩ hK (c_L_refused l D cy β U0 B0 Ev_new ev_new) (va_cwS 1 hts ks_refused rfl rfl rfl (by decide +kernel) ⟨Nat.le_of_ble_eq_true rfl, Nat.le_of_ble_eq_true rfl⟩) hR rfl hl.1 rfl (Nat.le_of_ble_eq_true rfl) dL_law_35 (Nat.le_of_ble_eq_true rfl) (Nat.le_of_ble_eq_true rfl)) hS (TA_up hβ) (fun H locs hR9 hz9 hfr hS => ?_)
  obtain ⟨X, hR, hm⟩ := hR9
  replace hzl := Nat.le_trans hzl hz9
  clear hfr hz9
  have hI : Iv X := hm.iv Ev_new.iv
  have hA : KA X := KA_U0.sm hm
  have h6 : X 0 6 = nI 0 := by rw [hm.2.2.1]; exact U0_06
  have h7 : X 0 7 = 0 := by rw [hm.2.2.2.1]; exact U0_07
  clear hm
  refine lv_if_eq (tgt := 59) hx hb dL_law_38 (by decide) (fun c1 => absurd c1 (by decide)) (fun _ => ?_)
  refine lv_aload_n hx hb dL_law_41 rfl (lv_at hl 0 rfl) ?_
  refine gm_ci (gm_call (As := []) (rest := []) (ci := 8) (q := (RX8, TX8, 8)) ⟨hx, hb, hml, hown, hts⟩ hK (c_X8_undo l D cy β X hI.ok) (cwV 0 hts kv_undo rfl rfl rfl (by decide +kernel) ⟨Nat.le_of_ble_eq_true rfl, Nat.le_of_ble_eq_true rfl⟩) (TR.mk0 hR) rfl hR rfl hl.1 rfl (Nat.le_of_ble_eq_true rfl) dL_law_42 (Nat.le_of_ble_eq_true rfl) (Nat.le_of_ble_eq_true rfl)) hS (TA_up hβ) (fun H locs hR hz9 hfr hS => ?_)
  rw [undo_0 h6] at hR ⊢
  replace hzl := Nat.le_trans hzl hz9
  clear hfr hz9
  refine lv_bipush (v := (-5)) hx hb dL_law_45 (by decide) ?_
  refine lv_icmp_ne (tgt := 59) hx hb dL_law_47 (by decide) (fun c1 => absurd rfl c1) (fun _ => ?_)
  refine lv_aload_n hx hb dL_law_50 rfl (lv_at hl 0 rfl) ?_
  refine gm_ci (gm_call (As := []) (rest := []) (ci := 8) (q := (RX8, TX8, 8)) ⟨hx, hb, hml, hown, hts⟩ hK (c_X8_restore l D cy β X hI.ok) (cwV 0 hts kv_restore rfl rfl rfl (by decide +kernel) ⟨Nat.le_of_ble_eq_true rfl, Nat.le_of_ble_eq_true rfl⟩) (TR.mk0 hR) rfl hR rfl hl.1 rfl (Nat.le_of_ble_eq_true rfl) dL_law_51 (Nat.le_of_ble_eq_true rfl) (Nat.le_of_ble_eq_true rfl)) hS (TA_up hβ) (fun H locs hR hz9 hfr hS => ?_)
  rw [restore_0 h7] at hR ⊢
  replace hzl := Nat.le_trans hzl hz9
  clear hfr hz9
  refine lv_bipush (v := (-5)) hx hb dL_law_54 (by decide) ?_
  refine lv_icmp_eq (tgt := 61) hx hb dL_law_56 (by decide) (fun _ => ?_) (fun c1 => absurd rfl c1)
  refine lv_aload_n hx hb dL_law_61 rfl (lv_at hl 0 rfl) ?_
  refine lv_aload_n hx hb dL_law_62 rfl (lv_at hl 1 rfl) ?_
  refine lv_bipush (v := 80) hx hb dL_law_63 (by decide) ?_
  refine gm_ci (va_runS (As := [.ref b, .int 80]) (rest := [.ref β]) ⟨hx, hb, hml, hown, hts⟩ (c_L_take l D cy b L xs 80 hL (by decide)) (va_cwS 2 hts ks_take rfl rfl rfl (by decide +kernel) ⟨Nat.le_of_ble_eq_true rfl, Nat.le_of_ble_eq_true rfl⟩) (tkPre 80 hK (va_X.kept hX (hS.2.1 b hbl hbA)) (Nat.lt_of_lt_of_le hbl hS.1)) rfl rfl hl.1 rfl (lv_room (Nat.le_of_ble_eq_true rfl)) dL_law_65 ⟨Nat.le_of_ble_eq_true rfl, Nat.le_of_ble_eq_true rfl⟩) hS (fun _ h => h.elim) (fun H locs _ hz9 hfr hS => ?_)
  replace hR := gRep.keep hR hfr (fun _ _ h => h)
  replace hzl := Nat.le_trans hzl hz9
  clear hfr hz9
  generalize tkV L xs 80 = x8
  refine gm_ci (gm_callS (As := [.ref β, .int x8]) (rest := []) ⟨hx, hb, hml, hown, hts⟩ hK (c_L_lays l D cy β X x8 hI) (va_cwS 2 hts ks_lays rfl rfl rfl (by decide +kernel) ⟨Nat.le_of_ble_eq_true rfl, Nat.le_of_ble_eq_true rfl⟩) hR rfl hl.1 rfl (Nat.le_of_ble_eq_true rfl) dL_law_68 (Nat.le_of_ble_eq_true rfl) (Nat.le_of_ble_eq_true rfl)) hS (TA_up hβ) (fun H locs hR hz9 hfr hS => ?_)
  have hg := lays_all hI hA x8
  replace hzl := Nat.le_trans hzl hz9
  clear hfr hz9 hI hA h6 h7
  generalize p_L_lays X x8 = r at hR hg ⊢
  obtain ⟨hI, hA, hs60⟩ := hg
  refine lv_istore_n (lv' := [(2, .int r.1), (1, .ref β), (0, .ref b)]) hx hb dL_law_71 rfl hl (by decide) rfl (fun ls hl => ?_)
  refine lv_bipush (v := 8) hx hb dL_law_72 (by decide) ?_
  obtain ⟨γ, hz⟩ : ∃ n : Nat, H.size = n := ⟨_, rfl⟩
  have hγ : β + 872 ≤ γ := by rw [← hz]; exact hzl
  refine lw_newl hx hb (hts _ kw_arrayClass_long) (Nat.le_of_ble_eq_true rfl) (Nat.le_of_ble_eq_true rfl) dL_law_74 hz (fun H cA e1 z1 o1 hAr => ?_)
  have hS := g_Sm hS hz z1 o1
  replace hR := gRep.keep hR (A1 := gNo) (fun q hq _ => o1 q (by rw [← hz]; exact hq)) (fun _ _ h => h)
  have hW : lw_I D cy s cA β γ r.2 (fun _ => 0) H _ := ⟨hR, hS, ⟨hI, hA⟩, ⟨hβ, hγ, by rw [z1]; exact Nat.lt_succ_self γ⟩, e1⟩
  refine lv_astore_n (lv' := [(3, .ref γ), (2, .int r.1), (1, .ref β), (0, .ref b)]) hx hb dL_law_76 rfl hl (by decide) rfl (fun ls hl => ?_)
  refine lv_lconst (v := 0) hx hb dL_law_77 (by decide) ?_
  refine lv_lstore (lv' := [(4, .long 0), (3, .ref γ), (2, .int r.1), (1, .ref β), (0, .ref b)]) hx hb dL_law_78 hl (by decide) rfl (fun ls hl => ?_)
  refine lv_iconst (v := 0) hx hb dL_law_80 (by decide) ?_
  refine lv_istore (lv' := [(6, .int 0), (4, .long 0), (3, .ref γ), (2, .int r.1), (1, .ref β), (0, .ref b)]) hx hb dL_law_81 hl (by decide) rfl (fun ls hl => ?_)
  refine lw_loop C hAr (Nat.le_of_ble_eq_true rfl) (Nat.le_of_ble_eq_true rfl) hL (fun H locs ls hS hl => ?_) 45 0 (by decide) r.2 _ 0 H _ ls (fun h => absurd h (by decide)) hW (lv_sub hl [5, 4, 3, 2, 1, 0] rfl)
  refine lv_iload_n hx hb dL_law_417 rfl (lv_at hl 1 rfl) ?_
  refine lv_bipush (v := -99) hx hb dL_law_418 (by decide) ?_
  refine lv_icmp_le (tgt := 427) hx hb dL_law_420 (by decide) (fun c1 => absurd c1 (fun c2 => ?_)) (fun _ => ?_)
  · rw [Int32.le_iff_toInt_le, show (-99 : Int32).toInt = -99 from by decide] at c2
    omega
  refine lv_iconst (v := 1) hx hb dL_law_423 (by decide) ?_
  refine lv_goto (tgt := 428) hx hb dL_law_424 (by decide) ?_
  refine va_forget (fun q hq => hS.2.2 q hq) ?_
  refine W.widen (k := 600000) (n := 7302250) (Nat.le_of_ble_eq_true rfl) (Nat.le_of_ble_eq_true rfl) ?_
  exact lw_ret hx hb hr hlocks dL_law_428
