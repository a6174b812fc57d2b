/-! the law's world -/
def lw_C (D : va_G) (cy : Nat → ClassId) (p : Program) (s : State) (m : MethodId) (c : Code) (b L : Nat) (xs : Nat → Int32) : Prop :=
  p.tables.exec = Jvm.exec ∧ c.code = cL_law ∧ c.maxLocals = 15 ∧ s.vm.findClass RL = some m.cls ∧ (∀ w ∈ wsL_law, w.before #[Value.ref b] s = true) ∧ va_X b L xs s s.heap ∧ b < s.heap.size ∧ gK D cy s
/-- the object stands, the array of states stands -/
def lw_I (D : va_G) (cy : Nat → ClassId) (s : State) (cA : ClassId) (β γ : Nat) (X : gM) (f : Nat → Int64) (H : Heap) (locs : List Loc) : Prop :=
  TR D cy β X H ∧ va_S (CA s.heap.size) s.heap H locs ∧ (Iv X ∧ KA X) ∧ (s.heap.size ≤ β ∧ β + 872 ≤ γ ∧ γ < H.size) ∧ H[γ]? = some (vp_cell cA (8, .inr (.inl f)))
theorem TA_up {σ β : Nat} (h : σ ≤ β) : ∀ q, TA β q → CA σ q := fun q hq => Nat.le_trans h (gA_CA q hq)
theorem TA_no {β γ : Nat} (h : β + 872 ≤ γ) : ¬ TA β γ := by
  rintro ⟨c, hc, he⟩
  simp only [adS] at he
  omega
theorem lw_I.no {D : va_G} {cy : Nat → ClassId} {s : State} {cA : ClassId} {β γ : Nat} {X : gM} {f : Nat → Int64} {H H1 : Heap} {locs locs1 : List Loc} (h : lw_I D cy s cA β γ X f H locs) (hz : H.size ≤ H1.size) (hk : ∀ q : Nat, q < H.size → ¬ gNo q → H1[q]? = H[q]?) (hS : va_S (CA s.heap.size) s.heap H1 locs1) : lw_I D cy s cA β γ X f H1 locs1 := by
  obtain ⟨h1, h2, h3, h4, h5⟩ := h
  exact ⟨gRep.keep h1 hk (fun _ _ h => h), hS, h3, ⟨h4.1, h4.2.1, Nat.lt_of_lt_of_le h4.2.2 hz⟩, by rw [hk γ h4.2.2 (fun h => h)]; exact h5⟩
theorem lw_I.ta {D : va_G} {cy : Nat → ClassId} {s : State} {cA : ClassId} {β γ : Nat} {X X1 : gM} {f : Nat → Int64} {H H1 : Heap} {locs locs1 : List Loc} (h : lw_I D cy s cA β γ X f H locs) (hR : TR D cy β X1 H1) (hz : H.size ≤ H1.size) (hk : ∀ q : Nat, q < H.size → ¬ TA β q → H1[q]? = H[q]?) (hS : va_S (CA s.heap.size) s.heap H1 locs1) (hI : Iv X1) (hA : KA X1) : lw_I D cy s cA β γ X1 f H1 locs1 := by
  obtain ⟨h1, h2, h3, h4, h5⟩ := h
  exact ⟨hR, hS, ⟨hI, hA⟩, ⟨h4.1, h4.2.1, Nat.lt_of_lt_of_le h4.2.2 hz⟩, by rw [hk γ h4.2.2 (TA_no h4.2.1)]; exact h5⟩
theorem lw_I.ar {D : va_G} {cy : Nat → ClassId} {s : State} {cA : ClassId} {β γ : Nat} {X : gM} {f f1 : Nat → Int64} {H H1 : Heap} {locs locs1 : List Loc} (h : lw_I D cy s cA β γ X f H locs) (ha : H1[γ]? = some (vp_cell cA (8, .inr (.inl f1)))) (hz : H1.size = H.size) (hk : ∀ q : Nat, q ≠ γ → H1[q]? = H[q]?) (hS : va_S (CA s.heap.size) s.heap H1 locs1) : lw_I D cy s cA β γ X f1 H1 locs1 := by
  obtain ⟨h1, h2, h3, h4, h5⟩ := h
  exact ⟨gRep.keep h1 (A1 := fun q => q = γ) (fun q _ hq => hk q hq) (fun c hc => by simp only [adS]; omega), hS, h3, ⟨h4.1, h4.2.1, by omega⟩, ha⟩
section LWROWS
variable {p : Program} {l : Launch} {e : Env} {R : Room} {s : State} {m : MethodId} {args : Array Value} {below : List Frame} {meth : Method} {c : Code} {H : Heap} {locs : List Loc} {cells slots : Nat} {Q : State → Prop}
variable {cc : ByteArray} {pc : Nat} {ls : Array Slot} {rest : List Value} {H0 : Heap} {A : Nat → Prop}
theorem lw_newl (hexec : p.tables.exec = Jvm.exec) (hb : c.code = cc) (harr : (Cond.arrayClass .long).before args s = true) (hcells : cells + 1 ≤ R.cells) (hslots : slots + 8 ≤ R.slots) (hdg : decode cc pc = .ok (.newarray .long, 2)) {h : Nat} (hh : H.size = h)
    (kk : ∀ (H1 : Heap) (cA : ClassId), H1[h]? = some (vp_cell cA (8, .inr (.inl (fun _ => 0)))) → H1.size = h + 1 → (∀ q : Nat, q < h → H1[q]? = H[q]?) → ArrOfT s cA .long → W p l e R s m args below meth c H1 locs (cells + 1) (slots + 8) Q (F0 m (pc + 2) ls (.ref h :: rest))) : W p l e R s m args below meth c H locs cells slots Q (F0 m pc ls (.int 8 :: rest)) :=
  va_newaK (atype := .long) hexec hb harr rfl hdg rfl (by decide) rfl (Nat.le_of_ble_eq_true rfl) hcells hslots hh fun H1 cA e1 z1 o1 hAr _ => kk H1 cA e1 z1 o1 hAr
theorem lw_last (hexec : p.tables.exec = Jvm.exec) (hb : c.code = cc) {cA : ClassId} {γ : Nat} {f : Nat → Int64} (hA : ArrOfT s cA .long) (hP : H[γ]? = some (vp_cell cA (8, .inr (.inl f)))) (hS : va_S A H0 H locs) (hγ : A γ) {i : Int32} {x : Int64} (hin : vp_in i 8) (hdg : decode cc pc = .ok (.lastore, 1))
    (kk : ∀ (H1 : Heap) (locs1 : List Loc), H1[γ]? = some (vp_cell cA (8, .inr (.inl (vp_updL f i.toNatClampNeg x)))) → H1.size = H.size → (∀ q : Nat, q ≠ γ → H1[q]? = H[q]?) → va_S A H0 H1 locs1 → W p l e R s m args below meth c H1 locs1 cells slots Q (F0 m (pc + 1) ls rest)) : W p l e R s m args below meth c H locs cells slots Q (F0 m pc ls (.long x :: .int i :: .ref γ :: rest)) := by
  refine W.last hexec hb hP (hA 8 (fun j => .long (f j))) (fun q => by cases q) (by show ¬ (i < 0 ∨ (arrV _ _ _).slots.size ≤ _); rw [arrV_size]; exact hin) rfl rfl hdg fun H1 e z oq => ?_
  refine kk H1 _ ?_ z oq (hS.put z oq hγ)
  rw [e]
  rw [vp_cell_l, vp_cell_l, arrV_store]
  congr 2
  funext q
  by_cases hq : q = i.toNatClampNeg
  · subst hq
    simp [updV, vp_updL]
  · simp [updV, vp_updL, hq]
theorem lw_lald (hexec : p.tables.exec = Jvm.exec) (hb : c.code = cc) {cA : ClassId} {γ : Nat} {f : Nat → Int64} (hA : ArrOfT s cA .long) (hP : H[γ]? = some (vp_cell cA (8, .inr (.inl f)))) {i : Int32} (hin : vp_in i 8) (hdg : decode cc pc = .ok (.laload, 1))
    (kk : W p l e R s m args below meth c H locs cells slots Q (F0 m (pc + 1) ls (.long (f i.toNatClampNeg) :: rest))) : W p l e R s m args below meth c H locs cells slots Q (F0 m pc ls (.int i :: .ref γ :: rest)) := by
  have hlt : i.toNatClampNeg < 8 := Nat.not_le.mp fun q => hin (Or.inr q)
  exact W.lald (v := .long (f i.toNatClampNeg)) hexec hb hP (hA 8 (fun j => .long (f j))) (fun q => by cases q) (by show ¬ (i < 0 ∨ (arrV _ _ _).slots.size ≤ _); rw [arrV_size]; exact hin) (by show (arrV _ _ _).slots[_]? = _; rw [arrV_read _ _ hlt]) rfl rfl hdg kk
end LWROWS
section LWPURE
variable {X : gM}
/-- what is kept, by the number of its state -/
def Kp (X : gM) (z : Int64) : Prop := X 0 7 = 1 ∧ ∀ Z, Iv Z → (∀ c j, c < 123 → vw 0 Z c j = vw 1 X c j) → f_L_state Z = z
theorem Kp.cg {X1 : gM} {z : Int64} (h : Kp X z) (h7 : X1 0 7 = X 0 7) (h1 : ∀ c j, c < 123 → vw 1 X1 c j = vw 1 X c j) : Kp X1 z :=
  ⟨by rw [h7]; exact h.1, fun Z hZ hz => h.2 Z hZ (fun c j hc => by rw [hz c j hc, h1 c j hc])⟩
theorem Kp.sm {X1 : gM} {z : Int64} (h : Kp X z) (g : Sm X X1) : Kp X1 z := h.cg g.2.2.2.1 (fun _ _ hc => g.2.kp hc)
theorem Kp.rc {X1 : gM} {z : Int64} (h : Kp X z) (g : Rc X X1) : Kp X1 z := by
  obtain ⟨n, -, -, a, -, b, -⟩ := g
  exact h.cg a b
theorem Kp.keep (hI : Iv X) : Kp (p_X8_keep X).2 (f_L_state (p_X8_keep X).2) := by
  obtain ⟨-, a, b, -, d⟩ := keep_f (X := X)
  refine ⟨b, fun Z hZ hz => Nw.st (fun c j hc => ?_) (I_keep hI)⟩
  rw [hz c j hc, d c j hc, a c j hc]
theorem Rc.num {X1 : gM} (g : Rc X X1) : ∃ h, X 0 6 = nI h ∧ ((h < 4 ∧ X1 0 6 = nI (h + 1)) ∨ (h = 4 ∧ X1 0 6 = nI 4)) := by
  obtain ⟨h, -, a, -, -, -, b⟩ := g
  rcases b with ⟨b1, b2, -⟩ | ⟨b1, b2, -⟩
  · exact ⟨h, a, Or.inl ⟨b1, b2⟩⟩
  · exact ⟨h, a, Or.inr ⟨b1, b2⟩⟩
theorem Iv.num (hI : Iv X) : ∃ h, h ≤ 4 ∧ X 0 6 = nI h := by
  obtain ⟨Y, -, ⟨n, h4, a1, -, -⟩, -⟩ := hI
  exact ⟨n, h4, a1⟩
theorem lt_4 {h : Nat} (hh : h < 4) : ¬ (4 : Int32) ≤ nI h := nI_ge (b := 4) hh (by decide)
/-- restore, then undo -/
theorem rest_undo (hI : Iv X) {z : Int64} (hk : Kp X z) : ∃ h, h ≤ 4 ∧ X 0 6 = nI h ∧ (p_X8_restore X).1 = f_X8_count (p_X8_restore X).2 0 ∧ f_L_state (p_X8_restore X).2 = z ∧ (p_X8_undo (p_X8_restore X).2).1 = nI (if h < 4 then h else 3) ∧ f_L_state (p_X8_undo (p_X8_restore X).2).2 = f_L_state X ∧ Kp (p_X8_undo (p_X8_restore X).2).2 z := by
  obtain ⟨h, h4, e6⟩ := hI.num
  obtain ⟨a1, a2, a3⟩ := restore_f hI hk.1
  have hI3 : Iv (p_X8_restore X).2 := I_restore hI
  have t0 : Tp X h 0 (fun _ => X) := ⟨h4, e6, Nat.zero_le _, fun i hi => absurd hi (by omega)⟩
  have t1 := t0.rc a2 (n := 1) (by omega) (by omega)
  have eh : (if h < 4 then h + 1 else 4) = (if h < 4 then h else 3) + 1 := by split <;> omega
  rw [eh] at t1
  obtain ⟨u1, u2, -, u4, u5⟩ := undo_f (m := 0) hI3 t1
  refine ⟨h, h4, e6, a1, hk.2 _ hI3 a3, u1, Nw.st (fun c j hc => ?_) hI, (hk.rc a2).cg u4 u5⟩
  rw [u2 c j hc]
  rfl
theorem tick_yes (hI : Iv X) (a1 : Int32) (hw : ¬ f_X8_within a1 1 60 = 0) : 0 ≤ (p_X8_tick X a1).1 := by
  obtain ⟨Y, hR⟩ := id hI
  obtain ⟨tc, oc, sl, ph, mn, hs⟩ := hR.1
  obtain ⟨Y1, e1, h1, R1, o1, -, -⟩ := rec_use hR hs
  obtain ⟨N, N1, N60, rfl⟩ := in_13 (N := 60) (by omega) hw
  have h40 := hs.tc4
  unfold p_X8_tick
  rw [if_neg hw]
  dsimp only
  have R2 : Rl (p_X8_recordState X) (sR (updM Y1 0 8 0) (Y 1)) := R1.fr h1.se FX.rf fy_a8
  obtain ⟨Z', r', tc', ph', v, q1, -, q3, -, ⟨D, d1, -⟩, -⟩ := tick_loop (N := N) (by omega) (y2 := f_X3_countIn (vw 0 (p_X8_recordState X)) 3) (K := fun X2 _ => ((f_X3_countIn (vw 0 X2) 3) - (f_X3_countIn (vw 0 (p_X8_recordState X)) 3), X2)) (K' := fun X3 _ => (X3 0 8, X3)) N 0 2147483648 2147483648 (p_X8_recordState X) (updM Y1 0 8 0) (Y 1) tc ph (by omega) (by omega) (by omega) h1 R2
  rw [q1]
  have h40' := q3.tc4
  dsimp only
  rw [X_countIn (r := r') 3 (by rw [q3.1.g LK1, q3.r1]) h40' (fun t ht => q3.1.g (LT6 (by omega))), X_countIn (r := Y 1) 3 (by rw [h1.1.g LK1, h1.r1]) h40 (fun t ht => h1.1.g (LT6 (by omega))), d1, Nat.add_comm, ← nI_add, Int32.add_sub_cancel]
  have := cn_le (bSt r' 3) tc'
  exact nI_pos' (by omega)
/-- the states behind a run of ticks, by their numbers -/
def TI (j : Nat) (X : gM) (f : Nat → Int64) : Prop := ∃ (h : Nat) (S : Nat → gM), Tp X h (min j 4) S ∧ ∀ i, i < min j 4 → ∀ Z, Iv Z → (∀ c k, c < 123 → vw 0 Z c k = S i c k) → f_L_state Z = f (j - 1 - i)
theorem TI.zero (hI : Iv X) (f : Nat → Int64) : TI 0 X f := by
  obtain ⟨h, h4, e6⟩ := hI.num
  exact ⟨h, fun _ => X, ⟨h4, e6, Nat.zero_le _, fun i hi => absurd hi (by omega)⟩, fun i hi => absurd hi (by omega)⟩
theorem TI.tick {j : Nat} {X1 : gM} {f : Nat → Int64} (hI : Iv X) (t : TI j X f) (r : Rc X X1) : TI (j + 1) X1 (vp_updL f j (f_L_state X)) := by
  obtain ⟨h, S, tp, hs⟩ := t
  refine ⟨_, _, tp.rc r (n := min (j + 1) 4) (by omega) (by omega), fun i hi Z hZ hz => ?_⟩
  unfold tcons at hz
  by_cases hi0 : i = 0
  · subst hi0
    rw [if_pos rfl] at hz
    rw [show j + 1 - 1 - 0 = j by omega, pk_uLs]
    exact Nw.st (fun c k hc => hz c k hc) hI
  · rw [if_neg hi0] at hz
    rw [show j + 1 - 1 - i = j - 1 - (i - 1) by omega, pk_uLn (by omega)]
    exact hs (i - 1) (by omega) Z hZ hz
/-- so many are left to be undone -/
def UI (n : Nat) (X : gM) (f : Nat → Int64) : Prop := ∃ S : Nat → gM, Tp X n n S ∧ ∀ i, i < n → ∀ Z, Iv Z → (∀ c k, c < 123 → vw 0 Z c k = S i c k) → f_L_state Z = f (n + 1 - i)
theorem TI.six {f : Nat → Int64} (t : TI 6 X f) : UI 4 X f := by
  obtain ⟨h, S, tp, hs⟩ := t
  have e : h = 4 := by
    have := tp.1
    have := tp.2.2.1
    omega
  subst e
  have tp : Tp X 4 4 S := by
    have := tp
    rwa [show min 6 4 = 4 from by decide] at this
  exact ⟨S, tp, fun i hi Z hZ hz => (hs i (by omega) Z hZ hz).trans (congrArg f (by omega))⟩
theorem UI.undo {n : Nat} {f : Nat → Int64} (hI : Iv X) (u : UI (n + 1) X f) : (p_X8_undo X).1 = nI n ∧ f_L_state (p_X8_undo X).2 = f (n + 2) ∧ UI n (p_X8_undo X).2 f ∧ (p_X8_undo X).2 0 7 = X 0 7 ∧ (∀ c j, c < 123 → vw 1 (p_X8_undo X).2 c j = vw 1 X c j) := by
  obtain ⟨S, tp, hs⟩ := u
  obtain ⟨a, b, c, d, e⟩ := undo_f hI tp
  refine ⟨a, ?_, ⟨_, c, fun i hi Z hZ hz => ?_⟩, d, e⟩
  · exact (hs 0 (by omega) _ (I_undo hI) b).trans (congrArg f (by omega))
  · exact (hs (i + 1) (by omega) Z hZ hz).trans (congrArg f (by omega))
theorem UI.fin {f : Nat → Int64} (u : UI 0 X f) : p_X8_undo X = (-5, X) := by
  obtain ⟨S, tp, -⟩ := u
  exact undo_0 tp.2.1
theorem part_pos (a : Int32) : ¬ f_X8_within (1 + f_L_part a 4) 1 60 = 0 := by
  have hx : ∃ n, n < 2147483648 ∧ a &&& 2147483647 = nI n := ⟨_, Nat.mod_lt _ (by decide), pk_and a 31 (by decide +kernel)⟩
  obtain ⟨n, hn, e⟩ := hx
  unfold f_L_part
  rw [e, show (nI n - nI n / 4 * 4 : Int32) = nI (n % 4) from pk_rem (d := 4) hn (by decide) (by decide), show (1 + nI (n % 4) : Int32) = nI (1 + n % 4) from nI_add 1 _]
  rcases (show n % 4 = 0 ∨ n % 4 = 1 ∨ n % 4 = 2 ∨ n % 4 = 3 by omega) with h | h | h | h <;> rw [h] <;> decide +kernel
end LWPURE
