theorem kd_1 : ∀ c, c < 123 → kdS c = 1 → (c + 1 < 123 ∧ kdS (c + 1) = 22) := by decide +kernel
theorem kd_24 : ∀ c, c < 123 → kdS c = 24 → ∀ n, n < 6 → c + 1 + 2 * n < 123 ∧ kdS (c + 1 + 2 * n) = 4 := by decide +kernel
theorem g_vl {x : Int32} {n : Nat} (h : vp_in x n) : x.toNatClampNeg < n := Nat.not_le.mp fun q => h (Or.inr q)
theorem g_lt {k N : Nat} (hk : k < 2 ^ 31) (hN : N < 2 ^ 31) (h : ¬ nI N ≤ nI k) : k < N := by
  rcases Nat.lt_or_ge k N with q | q
  · exact q
  · exact absurd (nI_le q hk) h
theorem g_lt2 {k N : Nat} (hk : k < 2 ^ 31) (hN : N < 2 ^ 31) (h : nI k < nI N) : k < N := (nI_ltI hk hN).mp h
theorem g_big {k : Nat} {y : Int32} (hk : k < 2 ^ 31) (h : ¬ y ≤ nI k) : k < 2147483647 := by
  have h1 := Int32.toInt_lt y
  simp only [Int32.le_iff_toInt_le, nI_toInt hk] at h
  omega
theorem g_big2 {k : Nat} {y : Int32} (hk : k < 2 ^ 31) (h : nI k < y) : k < 2147483647 := by
  have h1 := Int32.toInt_lt y
  simp only [Int32.lt_iff_toInt_lt, nI_toInt hk] at h
  omega
theorem g_bool {v : Int32} (h : v = 0 ∨ v = 1) : narrow .boolean (.int v) = .int v := by
  rcases h with rfl | rfl <;> rfl
theorem g_keep1 {D : va_G} {ws : va_W} {H H1 : Heap} (h : va_P D vwCl ws H) (hk : ∀ q : Nat, q < H.size → ¬ gNo q → H1[q]? = H[q]?) : va_P D vwCl ws H1 := h.kept (fun k q hq => hk _ (h k q hq).lt id)
theorem ti_m5 : (-5 : Int32).toInt = -5 := by decide
theorem ti_0 : (0 : Int32).toInt = 0 := by decide
theorem ti_1 : (1 : Int32).toInt = 1 := by decide
theorem ti_2 : (2 : Int32).toInt = 2 := by decide
theorem ti_3 : (3 : Int32).toInt = 3 := by decide
theorem ti_4 : (4 : Int32).toInt = 4 := by decide
theorem ti_5 : (5 : Int32).toInt = 5 := by decide
theorem ti_6 : (6 : Int32).toInt = 6 := by decide
theorem ti_12 : (12 : Int32).toInt = 12 := by decide
theorem ti_19 : (19 : Int32).toInt = 19 := by decide
theorem ti_23 : (23 : Int32).toInt = 23 := by decide
theorem ti_24 : (24 : Int32).toInt = 24 := by decide
theorem ti_39 : (39 : Int32).toInt = 39 := by decide
theorem ti_40 : (40 : Int32).toInt = 40 := by decide
theorem ti_59 : (59 : Int32).toInt = 59 := by decide
theorem ti_60 : (60 : Int32).toInt = 60 := by decide
section GMROWS2
variable {p : Program} {l : Launch} {e : Env} {R : Room} {s : State} {m : MethodId} {args : Array Value} {below : List Frame} {meth : Method} {c : Code} {H : Heap} {locs : List Loc} {cells slots : Nat} {Q : State → Prop}
variable {cc : ByteArray} {pc : Nat} {ls : Array Slot} {rest st0 : List Value} {D : va_G} {cy : Nat → ClassId} {kb : gB} {n : Nat} {ad : Nat → Nat} {X : gM} {H0 : Heap} {A0 A1 : Nat → Prop}
theorem gm_aald (hexec : p.tables.exec = Jvm.exec) (hb : c.code = cc) (hK : va_K D vwCl (gt cy) s) {a cA N b : Nat} {f : Nat → Option Nat} (hP : va_P D vwCl [(a, .inl (cA, N, .inr (.inr (.inr (.inr f)))))] H) (t0 : Nat) {C : String} (ht : (gt cy)[t0]? = some (cA, .object C)) {i : Int32} (hin : vp_in i N) (hf : f i.toNatClampNeg = some b) (hdg : decode cc pc = .ok (.aaload, 1))
    (kk : W p l e R s m args below meth c H locs cells slots Q (F0 m (pc + 1) ls (.ref b :: rest))) : W p l e R s m args below meth c H locs cells slots Q (F0 m pc ls (.int i :: .ref a :: rest)) := by
  refine va_aldq hexec hb hK hP 0 t0 rfl ht hin hdg ?_
  rw [hf]
  exact kk
theorem gm_cald (hexec : p.tables.exec = Jvm.exec) (hb : c.code = cc) (hK : va_K D vwCl (gt cy) s) {b : Nat} {k : Nat} {f : Nat → Int32} (hP : va_P D vwCl [(b, .inl (cy 1, k, .inl f))] H) {i : Int32} (hin : vp_in i k) (hdg : decode cc pc = .ok (.caload, 1))
    (kk : W p l e R s m args below meth c H locs cells slots Q (F0 m (pc + 1) ls (.int (f i.toNatClampNeg) :: rest))) : W p l e R s m args below meth c H locs cells slots Q (F0 m pc ls (.int i :: .ref b :: rest)) :=
  va_cald hexec hb hK hP 0 1 rfl rfl hin hdg kk
theorem gm_cast (hexec : p.tables.exec = Jvm.exec) (hb : c.code = cc) (hK : va_K D vwCl (gt cy) s) (hR : gRep D kb n ad X H) (hi : gInj n ad) (hS0 : va_S (gA n ad) H0 H locs) {a : Nat} (ha : a < n) {b0 : Nat} (hab : ad a = b0) {k : Nat} (he : ∀ r, kb a r = .inl (cy 1, k, .inl r)) {i x : Int32} (hin : vp_in i k) (hdg : decode cc pc = .ok (.castore, 1))
    (kk : ∀ (H1 : Heap) (locs1 : List Loc), gRep D kb n ad (updM X a i.toNatClampNeg (vp_nar .char x)) H1 → va_S (gA n ad) H0 H1 locs1 → W p l e R s m args below meth c H1 locs1 cells slots Q (F0 m (pc + 1) ls rest)) : W p l e R s m args below meth c H locs cells slots Q (F0 m pc ls (.int x :: .int i :: .ref b0 :: rest)) := by
  subst hab
  refine va_cast hexec hb hK hR.P (gW_D hi) hS0 a 1 (by rw [gW_get ha, he]) rfl hin hdg (fun H1 locs1 hP1 _ hS1 => ?_)
  exact kk H1 locs1 (gRep.ofSet ha (he _) hP1) hS1
end GMROWS2
theorem gm_q {p : Program} {l : Launch} {e : Env} {R : Room} {s : State} {m : MethodId} {args : Array Value} {below : List Frame} {meth : Method} {c : Code} {H : Heap} {locs : List Loc} {cells slots : Nat} {Q Q2 : State → Prop} {g : JFrame} (h : Q = Q2) (k : W p l e R s m args below meth c H locs cells slots Q2 g) : W p l e R s m args below meth c H locs cells slots Q g := h ▸ k
theorem g_dec {k : Nat} (h : 1 ≤ k) : nI k + (-1) = nI (k - 1) := sb_m1 h
theorem g_ge {k N : Nat} (hk : k < 2 ^ 31) (hN : N < 2 ^ 31) (h : ¬ nI k < nI N) : N ≤ k := by
  rcases Nat.lt_or_ge k N with q | q
  · exact absurd (nI_lt q hN) h
  · exact q
theorem g_ge2 {k N : Nat} (hk : k < 2 ^ 31) (hN : N < 2 ^ 31) (h : nI N ≤ nI k) : N ≤ k := (nI_leI hN hk).mp h
/-- a trip that is read: outside of the State, or one of its own cells -/
abbrev gTrip (v : Nat → Int32) : va_E := .inr (7, [.int (v 0), .int (v 1), .int (v 2), .int (v 3), .int (v 4)])
def gSrc (D : va_G) (σ : Nat) (X : gM) (H : Heap) (b : Nat) (v : Nat → Int32) : Prop := (va_P D vwCl [(b, gTrip v)] H ∧ ¬ SA σ b) ∨ ∃ c, c < 123 ∧ kdS c = 7 ∧ b = σ + c ∧ v = X c
theorem gSrc.now {D : va_G} {σ : Nat} {X Y : gM} {H0 H : Heap} {b : Nat} {v : Nat → Int32} {locs : List Loc} (h : gSrc D σ X H0 b v) (hS : va_S (SA σ) H0 H locs) (hX : ∀ c, b = σ + c → Y c = X c) : gSrc D σ Y H b v := by
  rcases h with ⟨h1, h2⟩ | ⟨c, h1, h2, h3, h4⟩
  · refine Or.inl ⟨h1.kept (fun k q hq => ?_), h2⟩
    have hz : k < 1 := (List.getElem?_eq_some_iff.mp hq).1
    have hk0 : k = 0 := by omega
    subst hk0
    cases hq
    exact hS.2.1 b (h1 0 _ rfl).lt h2
  · exact Or.inr ⟨c, h1, h2, h3, by rw [h4, hX c h3]⟩
theorem gSrc.get {D : va_G} {cy : Nat → ClassId} {σ : Nat} {X : gM} {H : Heap} {b : Nat} {v : Nat → Int32} (h : gSrc D σ X H b v) (hR : SR D cy σ X H) : va_P D vwCl [(b, gTrip v)] H := by
  rcases h with ⟨h1, h2⟩ | ⟨c, h1, h2, h3, h4⟩
  · exact h1
  · subst h3; subst h4
    exact SR.mk1 hR h1 (bS_7 h2)
theorem SR.mk0 {D : va_G} {cy : Nat → ClassId} {σ : Nat} {X : gM} {H : Heap} (h : SR D cy σ X H) : va_P D vwCl [(σ, .inr (3, [.ref (σ + 1), .ref (σ + 16), .ref (σ + 31), .ref (σ + 32), .ref (σ + 33), .int (X 0 5), .int (X 0 6), .int (X 0 7), .int (X 0 8), .int (X 0 9), .int (X 0 10), .int (X 0 11), .int (X 0 12), .int (X 0 13)]))] H := SR.mk1 h (c := 0) (by decide) (bS_3 (by decide))
/-- by cases on an answer that may be none -/
def gOpt {α : Type} (o : Option Nat) (a : α) (f : Nat → α) : α := match o with
  | none => a
  | some c => f c
theorem gOpt_none {α : Type} {a : α} {f : Nat → α} : gOpt none a f = a := rfl
theorem gOpt_some {α : Type} {a : α} {f : Nat → α} {c : Nat} : gOpt (some c) a f = f c := rfl
theorem gOpt_n {α : Type} {o : Option Nat} {a : α} {f : Nat → α} (h : o = none) : gOpt o a f = a := by rw [h]; rfl
theorem gOpt_s {α : Type} {o : Option Nat} {a : α} {f : Nat → α} {c : Nat} (h : o = some c) : gOpt o a f = f c := by rw [h]; rfl
theorem g_Sno {A : Nat → Prop} {H0 H : Heap} {locs : List Loc} (h : va_S gNo H0 H locs) : va_S A H0 H locs := ⟨h.1, fun q h1 _ => h.2.1 q h1 id, fun q hq => (h.2.2 q hq).elim⟩
theorem g_inc {x y : Int32} (h : ¬ y ≤ x) : (x + 1).toInt = x.toInt + 1 := by
  have h1 := Int32.toInt_lt y
  have h2 := Int32.le_toInt x
  simp only [Int32.le_iff_toInt_le] at h
  rw [Int32.toInt_add, ti_1, Int.bmod_eq_of_le (by omega) (by omega)]
theorem g_inc2 {x y : Int32} (h : x < y) : (x + 1).toInt = x.toInt + 1 := g_inc (y := y) (fun q => by
  simp only [Int32.le_iff_toInt_le, Int32.lt_iff_toInt_lt] at h q
  omega)
theorem g_gt {k N : Nat} (hk : k < 2 ^ 31) (hN : N < 2 ^ 31) (h : ¬ nI k ≤ nI N) : N < k := by
  rcases Nat.lt_or_ge N k with q | q
  · exact q
  · exact absurd (nI_le q hN) h
theorem ti_7 : (7 : Int32).toInt = 7 := by decide
theorem ti_8 : (8 : Int32).toInt = 8 := by decide
theorem ti_9 : (9 : Int32).toInt = 9 := by decide
theorem ti_10 : (10 : Int32).toInt = 10 := by decide
theorem ti_11 : (11 : Int32).toInt = 11 := by decide
theorem ti_13 : (13 : Int32).toInt = 13 := by decide
theorem ti_14 : (14 : Int32).toInt = 14 := by decide
theorem ti_15 : (15 : Int32).toInt = 15 := by decide
theorem ti_16 : (16 : Int32).toInt = 16 := by decide
theorem ti_17 : (17 : Int32).toInt = 17 := by decide
theorem ti_18 : (18 : Int32).toInt = 18 := by decide
theorem ti_20 : (20 : Int32).toInt = 20 := by decide
theorem ti_21 : (21 : Int32).toInt = 21 := by decide
theorem ti_22 : (22 : Int32).toInt = 22 := by decide
theorem ti_25 : (25 : Int32).toInt = 25 := by decide
theorem ti_26 : (26 : Int32).toInt = 26 := by decide
theorem ti_27 : (27 : Int32).toInt = 27 := by decide
theorem ti_28 : (28 : Int32).toInt = 28 := by decide
theorem ti_29 : (29 : Int32).toInt = 29 := by decide
theorem ti_30 : (30 : Int32).toInt = 30 := by decide
theorem ti_31 : (31 : Int32).toInt = 31 := by decide
theorem g_sw0_2 {x : Int32} (h0 : ¬ x = 0) (h1 : ¬ x = 1) (h2 : ¬ x = 2) : x.toInt < 0 ∨ 2 < x.toInt := by
  simp only [← Int32.toInt_inj, ti_0, ti_1, ti_2] at h0 h1 h2
  omega
theorem g_sw0_3 {x : Int32} (h0 : ¬ x = 0) (h1 : ¬ x = 1) (h2 : ¬ x = 2) (h3 : ¬ x = 3) : x.toInt < 0 ∨ 3 < x.toInt := by
  simp only [← Int32.toInt_inj, ti_0, ti_1, ti_2, ti_3] at h0 h1 h2 h3
  omega
theorem g_sw0_6 {x : Int32} (h0 : ¬ x = 0) (h1 : ¬ x = 1) (h2 : ¬ x = 2) (h3 : ¬ x = 3) (h4 : ¬ x = 4) (h5 : ¬ x = 5) (h6 : ¬ x = 6) : x.toInt < 0 ∨ 6 < x.toInt := by
  simp only [← Int32.toInt_inj, ti_0, ti_1, ti_2, ti_3, ti_4, ti_5, ti_6] at h0 h1 h2 h3 h4 h5 h6
  omega
theorem g_sw0_8 {x : Int32} (h0 : ¬ x = 0) (h1 : ¬ x = 1) (h2 : ¬ x = 2) (h3 : ¬ x = 3) (h4 : ¬ x = 4) (h5 : ¬ x = 5) (h6 : ¬ x = 6) (h7 : ¬ x = 7) (h8 : ¬ x = 8) : x.toInt < 0 ∨ 8 < x.toInt := by
  simp only [← Int32.toInt_inj, ti_0, ti_1, ti_2, ti_3, ti_4, ti_5, ti_6, ti_7, ti_8] at h0 h1 h2 h3 h4 h5 h6 h7 h8
  omega
theorem g_sw0_13 {x : Int32} (h0 : ¬ x = 0) (h1 : ¬ x = 1) (h2 : ¬ x = 2) (h3 : ¬ x = 3) (h4 : ¬ x = 4) (h5 : ¬ x = 5) (h6 : ¬ x = 6) (h7 : ¬ x = 7) (h8 : ¬ x = 8) (h9 : ¬ x = 9) (h10 : ¬ x = 10) (h11 : ¬ x = 11) (h12 : ¬ x = 12) (h13 : ¬ x = 13) : x.toInt < 0 ∨ 13 < x.toInt := by
  simp only [← Int32.toInt_inj, ti_0, ti_1, ti_2, ti_3, ti_4, ti_5, ti_6, ti_7, ti_8, ti_9, ti_10, ti_11, ti_12, ti_13] at h0 h1 h2 h3 h4 h5 h6 h7 h8 h9 h10 h11 h12 h13
  omega
theorem g_sw0_20 {x : Int32} (h0 : ¬ x = 0) (h1 : ¬ x = 1) (h2 : ¬ x = 2) (h3 : ¬ x = 3) (h4 : ¬ x = 4) (h5 : ¬ x = 5) (h6 : ¬ x = 6) (h7 : ¬ x = 7) (h8 : ¬ x = 8) (h9 : ¬ x = 9) (h10 : ¬ x = 10) (h11 : ¬ x = 11) (h12 : ¬ x = 12) (h13 : ¬ x = 13) (h14 : ¬ x = 14) (h15 : ¬ x = 15) (h16 : ¬ x = 16) (h17 : ¬ x = 17) (h18 : ¬ x = 18) (h19 : ¬ x = 19) (h20 : ¬ x = 20) : x.toInt < 0 ∨ 20 < x.toInt := by
  simp only [← Int32.toInt_inj, ti_0, ti_1, ti_2, ti_3, ti_4, ti_5, ti_6, ti_7, ti_8, ti_9, ti_10, ti_11, ti_12, ti_13, ti_14, ti_15, ti_16, ti_17, ti_18, ti_19, ti_20] at h0 h1 h2 h3 h4 h5 h6 h7 h8 h9 h10 h11 h12 h13 h14 h15 h16 h17 h18 h19 h20
  omega
theorem g_sw0_31 {x : Int32} (h0 : ¬ x = 0) (h1 : ¬ x = 1) (h2 : ¬ x = 2) (h3 : ¬ x = 3) (h4 : ¬ x = 4) (h5 : ¬ x = 5) (h6 : ¬ x = 6) (h7 : ¬ x = 7) (h8 : ¬ x = 8) (h9 : ¬ x = 9) (h10 : ¬ x = 10) (h11 : ¬ x = 11) (h12 : ¬ x = 12) (h13 : ¬ x = 13) (h14 : ¬ x = 14) (h15 : ¬ x = 15) (h16 : ¬ x = 16) (h17 : ¬ x = 17) (h18 : ¬ x = 18) (h19 : ¬ x = 19) (h20 : ¬ x = 20) (h21 : ¬ x = 21) (h22 : ¬ x = 22) (h23 : ¬ x = 23) (h24 : ¬ x = 24) (h25 : ¬ x = 25) (h26 : ¬ x = 26) (h27 : ¬ x = 27) (h28 : ¬ x = 28) (h29 : ¬ x = 29) (h30 : ¬ x = 30) (h31 : ¬ x = 31) : x.toInt < 0 ∨ 31 < x.toInt := by
  simp only [← Int32.toInt_inj, ti_0, ti_1, ti_2, ti_3, ti_4, ti_5, ti_6, ti_7, ti_8, ti_9, ti_10, ti_11, ti_12, ti_13, ti_14, ti_15, ti_16, ti_17, ti_18, ti_19, ti_20, ti_21, ti_22, ti_23, ti_24, ti_25, ti_26, ti_27, ti_28, ti_29, ti_30, ti_31] at h0 h1 h2 h3 h4 h5 h6 h7 h8 h9 h10 h11 h12 h13 h14 h15 h16 h17 h18 h19 h20 h21 h22 h23 h24 h25 h26 h27 h28 h29 h30 h31
  omega
theorem g_le {k N : Nat} (hk : k < 2 ^ 31) (hN : N < 2 ^ 31) (h : ¬ nI N < nI k) : k < N + 1 := by
  rcases Nat.lt_or_ge N k with q | q
  · exact absurd (nI_lt q hk) h
  · omega
theorem g_le2 {k N : Nat} (hk : k < 2 ^ 31) (hN : N < 2 ^ 31) (h : nI k ≤ nI N) : k < N + 1 := by
  have := (nI_leI hk hN).mp h
  omega
def f_X8_within (a1 : Int32) (a2 : Int32) (a3 : Int32) : Int32 :=
  if a1 < a2 then
    0
  else
    if a3 < a1 then
      0
    else
      1
set_option maxHeartbeats 4000000 in
set_option maxRecDepth 100000 in
theorem c_X8_within (l : Launch) (D : va_G) (cy : Nat → ClassId) (a1 : Int32) (a2 : Int32) (a3 : Int32)  : Met l yX8_within wsX8_within ({ frames := 0, cells := 0, slots := 0, locals := 0 }) (gP [.int a1, .int a2, .int a3] D cy (fun _ => True)) (gQi (f_X8_within a1 a2 a3) (fun _ => True) gNo) 0 0 gNo := by
  refine gm_met (cc := cX8_within) (maxL := 3) (ret := (some .boolean)) [.int a1, .int a2, .int a3] (by decide) rfl (Nat.le_of_ble_eq_true rfl) ?_
  intro p e s m args below meth c0 ls C hR hl
  obtain ⟨hx, hb, hr, hts, hown, hlocks, hml, hK⟩ := C
  have hl : lv_has ls 3 [(0, .int a1), (1, .int a2), (2, .int a3)] := hl
  have hS : va_S gNo s.heap s.heap [] := va_S.rf
  refine lv_iload_n hx hb dX8_within_0 rfl (lv_at hl 0 rfl) ?_
  refine lv_iload_n hx hb dX8_within_1 rfl (lv_at hl 1 rfl) ?_
  refine lv_icmp_lt (tgt := 14) hx hb dX8_within_2 (by decide) (fun c_1 => ?_) (fun c_1 => ?_)
  · refine lv_iconst (v := 0) hx hb dX8_within_14 (by decide) ?_
    exact gm_zret hx hb hr hlocks rfl hS (by (try simp only [f_X8_within, ↓if_pos c_1]); (try rfl)) trivial dX8_within_15
  · refine lv_iload_n hx hb dX8_within_5 rfl (lv_at hl 0 rfl) ?_
    refine lv_iload_n hx hb dX8_within_6 rfl (lv_at hl 2 rfl) ?_
    refine lv_icmp_gt (tgt := 14) hx hb dX8_within_7 (by decide) (fun c_2 => ?_) (fun c_2 => ?_)
    · refine lv_iconst (v := 0) hx hb dX8_within_14 (by decide) ?_
      exact gm_zret hx hb hr hlocks rfl hS (by (try simp only [f_X8_within, ↓if_neg c_1, ↓if_pos c_2]); (try rfl)) trivial dX8_within_15
    · refine lv_iconst (v := 1) hx hb dX8_within_10 (by decide) ?_
      refine lv_goto (tgt := 15) hx hb dX8_within_11 (by decide) ?_
      exact gm_zret hx hb hr hlocks rfl hS (by (try simp only [f_X8_within, ↓if_neg c_1, ↓if_neg c_2]); (try rfl)) trivial dX8_within_15
theorem f_X8_within_b (a b c : Int32) : f_X8_within a b c = 0 ∨ f_X8_within a b c = 1 := by
  unfold f_X8_within
  split
  · exact Or.inl rfl
  · split
    · exact Or.inl rfl
    · exact Or.inr rfl
theorem w_ne (a b c : Int32) : f_X8_within a b c = 0 ↔ (a.toInt < b.toInt ∨ c.toInt < a.toInt) := by
  unfold f_X8_within
  by_cases h1 : a < b
  · simp [h1, Int32.lt_iff_toInt_lt.mp h1]
  · have h1' : ¬ a.toInt < b.toInt := fun q => h1 (Int32.lt_iff_toInt_lt.mpr q)
    by_cases h2 : c < a
    · simp [h1, h2, Int32.lt_iff_toInt_lt.mp h2]
    · have h2' : ¬ c.toInt < a.toInt := fun q => h2 (Int32.lt_iff_toInt_lt.mpr q)
      simp [h1, h2, h1', h2']
