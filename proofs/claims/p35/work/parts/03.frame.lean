/-! the memory of a system as a function of cell and field; a world of cells at known places; rows over it -/
abbrev gM : Type := Nat → Nat → Int32
def updM (X : gM) (c j : Nat) (v : Int32) : gM := fun a => if a = c then upd (X c) j v else X a
theorem updM_s (X : gM) (c j : Nat) (v : Int32) : updM X c j v c = upd (X c) j v := by simp [updM]
theorem updM_o {X : gM} {c a j : Nat} {v : Int32} (h : a ≠ c) : updM X c j v a = X a := by simp [updM, h]
def gt (cy : Nat → ClassId) : List (ClassId × FieldType) := [(cy 0, .int), (cy 1, .char), (cy 2, .object "MercuryLine$Order"), (cy 3, .object "MercuryLine$State"), (cy 4, .object "MercuryLine$Station"), (cy 5, .object "MercuryLine$Ticket"), (cy 6, .object "MercuryLine$Trip")]
abbrev gB : Type := Nat → (Nat → Int32) → va_E
/-- n cells at the places ad, with the memory X, stand in the heap H -/
def gRep (D : va_G) (kb : gB) (n : Nat) (ad : Nat → Nat) (X : gM) (H : Heap) : Prop := ∀ c, c < n → va_at D vwCl (ad c, kb c (X c)) H
def gInj (n : Nat) (ad : Nat → Nat) : Prop := ∀ a b, a < n → b < n → ad a = ad b → a = b
def gA (n : Nat) (ad : Nat → Nat) : Nat → Prop := fun q => ∃ c, c < n ∧ q = ad c
def gNo : Nat → Prop := fun _ => False
def gW (kb : gB) (n : Nat) (ad : Nat → Nat) (X : gM) : va_W := (List.range n).map (fun c => (ad c, kb c (X c)))
theorem gW_get {kb : gB} {n : Nat} {ad : Nat → Nat} {X : gM} {c : Nat} (h : c < n) : (gW kb n ad X)[c]? = some (ad c, kb c (X c)) := by
  simp [gW, h]
theorem gW_lt {kb : gB} {n : Nat} {ad : Nat → Nat} {X : gM} {c : Nat} {q : Nat × va_E} (h : (gW kb n ad X)[c]? = some q) : c < n ∧ q = (ad c, kb c (X c)) := by
  have h1 := (List.getElem?_eq_some_iff.mp h).1
  have h2 : c < n := by simpa [gW] using h1
  rw [gW_get h2] at h
  exact ⟨h2, (Option.some.inj h).symm⟩
theorem gRep.P {D : va_G} {kb : gB} {n : Nat} {ad : Nat → Nat} {X : gM} {H : Heap} (h : gRep D kb n ad X H) : va_P D vwCl (gW kb n ad X) H := by
  intro k q hq
  obtain ⟨h1, rfl⟩ := gW_lt hq
  exact h k h1
theorem gW_D {kb : gB} {n : Nat} {ad : Nat → Nat} {X : gM} (hi : gInj n ad) : va_D (gA n ad) (gW kb n ad X) := by
  refine ⟨fun i j p q h1 h2 h3 => ?_, fun k q hq => ?_⟩
  · obtain ⟨l1, rfl⟩ := gW_lt h1
    obtain ⟨l2, rfl⟩ := gW_lt h2
    exact hi i j l1 l2 h3
  · obtain ⟨l1, rfl⟩ := gW_lt hq
    exact ⟨k, l1, rfl⟩
theorem gRep.ofSet {D : va_G} {kb : gB} {n : Nat} {ad : Nat → Nat} {X : gM} {H : Heap} {c j : Nat} {x : Int32} {e : va_E} (hc : c < n) (he : kb c (upd (X c) j x) = e) (h : va_P D vwCl ((gW kb n ad X).set c (ad c, e)) H) : gRep D kb n ad (updM X c j x) H := by
  intro a ha
  refine h a _ ?_
  by_cases hac : a = c
  · subst hac
    rw [List.getElem?_set_self (by simpa [gW] using ha), updM_s, he]
  · rw [List.getElem?_set_ne (Ne.symm hac), updM_o hac]
    exact gW_get ha
theorem gRep.oneAt {D : va_G} {kb : gB} {n : Nat} {ad : Nat → Nat} {X : gM} {H : Heap} (h : gRep D kb n ad X H) {c : Nat} (hc : c < n) {b0 : Nat} (hab : ad c = b0) {e : va_E} (he : kb c (X c) = e) : va_P D vwCl [(b0, e)] H := by
  intro k q hq
  have hz : k < 1 := (List.getElem?_eq_some_iff.mp hq).1
  rw [show k = 0 by omega] at hq
  cases hq
  rw [← he, ← hab]
  exact h c hc
theorem gRep.merge {D : va_G} {kb : gB} {n : Nat} {ad : Nat → Nat} {X Y : gM} {H H1 : Heap} (h : gRep D kb n ad X H) (he : ∀ c, c < n → va_at D vwCl (ad c, kb c (Y c)) H1 ∨ (H1[ad c]? = H[ad c]? ∧ kb c (X c) = kb c (Y c))) : gRep D kb n ad Y H1 := by
  intro c hc
  rcases he c hc with q | ⟨q1, q2⟩
  · exact q
  · rw [← q2]
    exact (h c hc).kept q1
/-- one cell alone -/
theorem gRep.one {D : va_G} {kb : gB} {n : Nat} {ad : Nat → Nat} {X : gM} {H : Heap} (h : gRep D kb n ad X H) {c : Nat} (hc : c < n) {e : va_E} (he : kb c (X c) = e) : va_P D vwCl [(ad c, e)] H := by
  intro k q hq
  have hz : k < 1 := (List.getElem?_eq_some_iff.mp hq).1
  rw [show k = 0 by omega] at hq
  cases hq
  rw [← he]
  exact h c hc
theorem gRep.lt {D : va_G} {kb : gB} {n : Nat} {ad : Nat → Nat} {X : gM} {H : Heap} (h : gRep D kb n ad X H) {c : Nat} (hc : c < n) : ad c < H.size := (h c hc).lt
theorem gRep.keep {D : va_G} {kb : gB} {n : Nat} {ad : Nat → Nat} {X : gM} {H H1 : Heap} (h : gRep D kb n ad X H) {A1 : Nat → Prop} (hk : ∀ q : Nat, q < H.size → ¬ A1 q → H1[q]? = H[q]?) (ha : ∀ c, c < n → ¬ A1 (ad c)) : gRep D kb n ad X H1 :=
  fun c hc => (h c hc).kept (hk _ (h.lt hc) (ha c hc))
theorem gRep.same {D : va_G} {kb : gB} {n : Nat} {ad : Nat → Nat} {X Y : gM} {H : Heap} (h : gRep D kb n ad X H) (he : ∀ c, c < n → kb c (X c) = kb c (Y c)) : gRep D kb n ad Y H := fun c hc => by rw [← he c hc]; exact h c hc
/-- the calls of private members between nest mates: own class, entry, method, host -/
def gNests : List (String × Nat × MethodName × String) := [(RX3, 37, yX1_init, "MercuryLine"), (RX5, 11, yX7_init, "MercuryLine"), (RX3, 50, yX2_init, "MercuryLine"), (RX2, 9, yX7_init, "MercuryLine"), (RX6, 21, yX7_init, "MercuryLine"), (RX8, 35, yX7_init, "MercuryLine"), (RX0, 59, yX8_within, "MercuryLine"), (RX3, 85, yX8_within, "MercuryLine"), (RX7, 26, yX8_within, "MercuryLine"), (RX4, 50, yX8_within, "MercuryLine"), (RX6, 26, yX8_within, "MercuryLine"), (RX1, 28, yX8_within, "MercuryLine")]
def gNe (U : State) : Prop := ∀ q ∈ gNests, va_Nw (.methodLinkNest q.1 q.2.1 q.2.2.1 q.2.2.2) U
/-- the classes of which there are arrays -/
def gAO (U : State) : Prop := ∀ C ∈ ["MercuryLine$Order", "MercuryLine$State", "MercuryLine$Station", "MercuryLine$Ticket", "MercuryLine$Trip"], va_AO C U
def gK (D : va_G) (cy : Nat → ClassId) (U : State) : Prop := va_K D vwCl (gt cy) U ∧ gNe U ∧ gAO U
theorem gK.warm {D : va_G} {cy : Nat → ClassId} {s U : State} (h : gK D cy s) (hW : s.WarmedH U.vm) : gK D cy U := ⟨va_K.moved hW.alike h.1, fun q hq => va_Nw.warmM hW (h.2.1 q hq), fun C hC => va_AO.moved hW.alike (h.2.2 C hC)⟩
theorem gK.same {D : va_G} {cy : Nat → ClassId} {u U : State} (h : gK D cy u) (he : u.vm = U.vm) : gK D cy U := ⟨va_K.moved (by rw [he]; exact Vm.Alike.refl U.vm) h.1, fun q hq => va_Nw.same rfl he (h.2.1 q hq), fun C hC => va_AO.moved (by rw [he]; exact Vm.Alike.refl U.vm) (h.2.2 C hC)⟩
/-- what a method stands on -/
def gCtx (cc : ByteArray) (nL : Nat) (ret : Option FieldType) (own : String) (ws : List Cond) (D : va_G) (cy : Nat → ClassId) (p : Program) (s : State) (m : MethodId) (args : Array Value) (meth : Method) (c : Code) : Prop :=
  p.tables.exec = Jvm.exec ∧ c.code = cc ∧ meth.sig.returnType = ret ∧ (∀ w ∈ ws, w.before args s = true) ∧ s.vm.findClass own = some m.cls ∧ meth.locks = false ∧ c.maxLocals = nL ∧ gK D cy s
def gP (av : List Value) (D : va_G) (cy : Nat → ClassId) (P : Heap → Prop) : Array Value → State → Prop := va_Pc av (fun U => P U.heap ∧ gK D cy U)
def gQi (f : Int32) (R : Heap → Prop) (A : Nat → Prop) : Array Value → State → Outcome → State → Prop := va_Qi (S := Unit) (fun r _ => r = f) (fun _ t => R t.heap) A
def gQv (R : Heap → Prop) (A : Nat → Prop) : Array Value → State → Outcome → State → Prop := va_Qv (S := Unit) (fun _ => True) (fun _ t => R t.heap) A
def gQq (o : Option Nat) (R : Heap → Prop) (A : Nat → Prop) : Array Value → State → Outcome → State → Prop := va_Qq (S := Unit) (fun r _ => r = o) (fun _ t => R t.heap) A
theorem gP_blind {av : List Value} {D : va_G} {cy : Nat → ClassId} {P : Heap → Prop} : FrameBlind (gP av D cy P) := by
  intro a U g mk q
  obtain ⟨q1, qP, qK⟩ := q
  exact ⟨q1, qP, gK.same (u := U) (U := U.calling g mk a) qK rfl⟩
theorem gPreV {s : State} {H : Heap} {D : va_G} {cy : Nat → ClassId} {P : Heap → Prop} {b ci : Nat} {fs As : List Value} {q : vw_C} (hK : gK D cy s) (hb : va_P D vwCl [(b, .inr (ci, fs))] H) (hc : vwCl[ci]? = some q) (hP : P H) : PreV s H q.1 b (gP (.ref b :: As) D cy P) As :=
  ⟨gP_blind, va_recv hK.1 hb (q0 := 0) hc rfl, fun U hU hW => ⟨rfl, by rw [hU]; exact hP, hK.warm hW⟩⟩
theorem gPreS {s : State} {H : Heap} {D : va_G} {cy : Nat → ClassId} {P : Heap → Prop} {As : List Value} (hK : gK D cy s) (hP : P H) : PreS s H (gP As D cy P) As :=
  ⟨gP_blind, fun U hU hW => ⟨rfl, by rw [hU]; exact hP, hK.warm hW⟩⟩
theorem gm_met {l : Launch} {y : MethodName} {ws ws' : List Cond} {rm : Room} {cc : ByteArray} {maxL : Nat} {ret : Option FieldType} {D : va_G} {cy : Nat → ClassId} {P : Heap → Prop} {Qc : Array Value → State → Outcome → State → Prop} {A : Nat → Prop} (av : List Value) (hy : plainName y.cls = true) (hw : ws = Cond.code y cc maxL ret :: ws') (hlen : (lg_sl av).length ≤ maxL)
    (body : ∀ (p : Program) (e : Env) (s : State) (m : MethodId) (args : Array Value) (below : List Frame) (meth : Method) (c : Code) (ls : Array Slot), gCtx cc maxL ret y.cls ws D cy p s m args meth c → P s.heap → lv_has ls maxL (lv_args 0 av) → W p l e rm s m args below meth c s.heap [] 0 0 (MQ below Qc args s 0 0 A) (F0 m 0 ls [])) : Met l y ws rm (gP av D cy P) Qc 0 0 A := by
  refine Met.ofW (cc := cc) (maxL := maxL) (ret := ret) hy hw ?_
  intro p e s m args below meth c s₁ B hml hv
  obtain ⟨rfl, hP, hK⟩ := hv
  have hl := lv_entry av hlen
  rw [lg_entry_eq]
  generalize (lg_sl av ++ List.replicate (maxL - (lg_sl av).length) Slot.unset).toArray = ls at hl ⊢
  exact body p e s m _ below meth c ls ⟨B.exec, B.bytes, B.returns, atoms_spec (ws := ws) B.pre, findClass_of_methodNamed B.named, B.notSynchronized, hml, hK⟩ hP hl
section GMROWS
variable {p : Program} {l : Launch} {e : Env} {R : Room} {s : State} {m : MethodId} {args : Array Value} {below : List Frame} {meth : Method} {c : Code} {H : Heap} {locs : List Loc} {cells slots : Nat} {Q : State → Prop}
variable {cc : ByteArray} {pc : Nat} {ls : Array Slot} {rest st0 : List Value} {D : va_G} {cy : Nat → ClassId} {kb : gB} {n : Nat} {ad : Nat → Nat} {X : gM} {H0 : Heap} {A0 A1 : Nat → Prop}
theorem gm_put (hexec : p.tables.exec = Jvm.exec) (hb : c.code = cc) {own ref C : String} {T : u_T} {N ci index : Nat} {Ts : List Cond} (hts : ∀ w ∈ Ts, w.before args s = true) (hin : ∀ w ∈ u_ws C T N, w ∈ Ts) (ty0 : Nat → FieldType) (hty : ∀ k, k < N → parseFieldDescriptor (T k).2.2.1 = some (ty0 k)) (hnm : ∀ a, a < N → ∀ b, b < N → a ≠ b → (T a).2.1 ≠ (T b).2.1) (hown : s.vm.findClass own = some m.cls) (hK : va_K D vwCl (gt cy) s)
    (hR : gRep D kb n ad X H) (hi : gInj n ad) (hS0 : va_S (gA n ad) H0 H locs) {a : Nat} (ha : a < n) {b0 : Nat} (hab : ad a = b0) {fs : List Value} (he : kb a (X a) = .inr (ci, fs)) (hc : vwCl[ci]? = some (C, T, N)) (k : Nat) (hk : k < N) (hlink : (Cond.fieldLink own index ref (T k).2.1 (T k).2.2.1).before args s = true) (hsame : ∀ x, s.fieldFound? (T k).1 (T k).2.1 (T k).2.2.1 = some x → s.fieldFound? ref (T k).2.1 (T k).2.2.1 = some x) (hfin : (T k).2.2.2 = false) {ty : FieldType} {v : Value} (hd : parseFieldDescriptor (T k).2.2.1 = some ty) (hn : narrow ty v = v) (hfit : fits ty v = true) (hl : k < fs.length) {j : Nat} {x : Int32} (he' : kb a (upd (X a) j x) = .inr (ci, fs.set k v))
    (hdg : decode cc pc = .ok (.putfield index, 3)) (kk : ∀ (H1 : Heap) (locs1 : List Loc), gRep D kb n ad (updM X a j x) H1 → va_S (gA n ad) H0 H1 locs1 → W p l e R s m args below meth c H1 locs1 cells slots Q (F0 m (pc + 3) ls rest)) : W p l e R s m args below meth c H locs cells slots Q (F0 m pc ls (v :: .ref b0 :: rest)) := by
  subst hab
  refine va_put hexec hb hts hin ty0 hty hnm hown hK hR.P (gW_D hi) hS0 a (fs := fs) (by rw [gW_get ha, he]) hc k hk hlink hsame hfin hd hn hfit hl hdg (fun H1 locs1 hP1 _ hS1 => ?_)
  exact kk H1 locs1 (gRep.ofSet ha he' hP1) hS1
theorem gm_iast (hexec : p.tables.exec = Jvm.exec) (hb : c.code = cc) (hK : va_K D vwCl (gt cy) s) (hR : gRep D kb n ad X H) (hi : gInj n ad) (hS0 : va_S (gA n ad) H0 H locs) {a : Nat} (ha : a < n) {b0 : Nat} (hab : ad a = b0) {k : Nat} (he : ∀ r, kb a r = .inl (cy 0, k, .inl r)) {i x : Int32} (hin : vp_in i k) (hdg : decode cc pc = .ok (.iastore, 1))
    (kk : ∀ (H1 : Heap) (locs1 : List Loc), gRep D kb n ad (updM X a i.toNatClampNeg x) H1 → va_S (gA n ad) H0 H1 locs1 → W p l e R s m args below meth c H1 locs1 cells slots Q (F0 m (pc + 1) ls rest)) : W p l e R s m args below meth c H locs cells slots Q (F0 m pc ls (.int x :: .int i :: .ref b0 :: rest)) := by
  subst hab
  refine va_iast hexec hb hK hR.P (gW_D hi) hS0 a 0 (by rw [gW_get ha, he]) rfl hin hdg (fun H1 locs1 hP1 _ hS1 => ?_)
  exact kk H1 locs1 (gRep.ofSet ha (he _) hP1) hS1
theorem gm_iald (hexec : p.tables.exec = Jvm.exec) (hb : c.code = cc) (hK : va_K D vwCl (gt cy) s) {b : Nat} {k : Nat} {f : Nat → Int32} (hP : va_P D vwCl [(b, .inl (cy 0, k, .inl f))] H) {i : Int32} (hin : vp_in i k) (hdg : decode cc pc = .ok (.iaload, 1))
    (kk : W p l e R s m args below meth c H locs cells slots Q (F0 m (pc + 1) ls (.int (f i.toNatClampNeg) :: rest))) : W p l e R s m args below meth c H locs cells slots Q (F0 m pc ls (.int i :: .ref b :: rest)) :=
  va_iald hexec hb hK hP 0 0 rfl rfl hin hdg kk
theorem gm_call {y : MethodName} {bytes : ByteArray} {maxL index na nL : Nat} {ret : Option FieldType} {ws : List Cond} {rm : Room} {Ts : List Cond} {own : String} {b ci : Nat} {As fs : List Value} {P : Heap → Prop} {q : vw_C} {Qc : Array Value → State → Outcome → State → Prop} (S : CallFix p m c cc nL s args Ts own) (hK : gK D cy s) (hM : Met l y ws rm (gP (.ref b :: As) D cy P) Qc 0 0 A1) (cw : CallW R s args own q.1 index y bytes maxL ret ws rm 0 0 na)
    (hbq : va_P D vwCl [(b, .inr (ci, fs))] H) (hc : vwCl[ci]? = some q) (hP : P H) (hn : As.length = na) (hsize : ls.size = nL) (hst : st0 = As.reverse ++ .ref b :: rest) (hW : (rest.map fun v => v.category).sum ≤ 8) (hdg : decode cc pc = .ok (.invokevirtual index, 3)) (hc0 : cells ≤ R.cells) (hs0 : slots ≤ R.slots) :
    va_Run p l e R s m args below meth c H locs cells slots 0 0 (F0 m pc ls st0) rest (Qc (Value.ref b :: As).toArray) A1 :=
  va_runV S hM cw (gPreV hK hbq hc hP) rfl hn hsize hst (lv_room hW) hdg ⟨hc0, hs0⟩
theorem gm_callS {y : MethodName} {bytes : ByteArray} {maxL index na nL : Nat} {ret : Option FieldType} {ws : List Cond} {rm : Room} {Ts : List Cond} {own : String} {As : List Value} {P : Heap → Prop} {Qc : Array Value → State → Outcome → State → Prop} (S : CallFix p m c cc nL s args Ts own) (hK : gK D cy s) (hM : Met l y ws rm (gP As D cy P) Qc 0 0 A1) (cw : CallB R s args own index y bytes maxL ret ws rm 0 0 na ∧ (Cond.static y).before args s = true)
    (hP : P H) (hn : As.length = na) (hsize : ls.size = nL) (hst : st0 = As.reverse ++ rest) (hW : (rest.map fun v => v.category).sum ≤ 8) (hdg : decode cc pc = .ok (.invokestatic index, 3)) (hc0 : cells ≤ R.cells) (hs0 : slots ≤ R.slots) :
    va_Run p l e R s m args below meth c H locs cells slots 0 0 (F0 m pc ls st0) rest (Qc As.toArray) A1 :=
  va_runS S hM cw (gPreS hK hP) rfl hn hsize hst (lv_room hW) hdg ⟨hc0, hs0⟩
theorem gm_callN {y : MethodName} {bytes : ByteArray} {maxL index na nL : Nat} {ret : Option FieldType} {ws : List Cond} {rm : Room} {Ts : List Cond} {own host : String} {As : List Value} {P : Heap → Prop} {Qc : Array Value → State → Outcome → State → Prop} (S : CallFix p m c cc nL s args Ts own) (hK : gK D cy s) (hM : Met l y ws rm (gP As D cy P) Qc 0 0 A1) (cw : va_CN R s args own index y host bytes maxL ret ws rm 0 0 na ∧ (Cond.static y).before args s = true ∧ True)
    (hP : P H) (hn : As.length = na) (hsize : ls.size = nL) (hst : st0 = As.reverse ++ rest) (hW : (rest.map fun v => v.category).sum ≤ 8) (hdg : decode cc pc = .ok (.invokestatic index, 3)) (hc0 : cells ≤ R.cells) (hs0 : slots ≤ R.slots) :
    va_Run p l e R s m args below meth c H locs cells slots 0 0 (F0 m pc ls st0) rest (Qc As.toArray) A1 :=
  va_runSN S hM cw (gPreS hK hP) rfl hn hsize hst (lv_room hW) hdg ⟨hc0, hs0⟩
theorem gm_ci {a : Array Value} {f : Int32} {RR : Heap → Prop} (hr : va_Run p l e R s m args below meth c H locs cells slots 0 0 (F0 m pc ls st0) rest (gQi f RR A1 a) A1) (hS : va_S A0 H0 H locs) (hA : ∀ q, A1 q → A0 q)
    (kk : ∀ (H1 : Heap) (locs1 : List Loc), RR H1 → H.size ≤ H1.size → (∀ q : Nat, q < H.size → ¬ A1 q → H1[q]? = H[q]?) → va_S A0 H0 H1 locs1 → W p l e R s m args below meth c H1 locs1 cells slots Q (F0 m (pc + 3) ls (.int f :: rest))) : W p l e R s m args below meth c H locs cells slots Q (F0 m pc ls st0) := by
  refine va_calli hr hS (fun q _ h => hA q h) hA (fun r u t H1 locs1 ht _ hw hB hz hk hS1 => ?_)
  subst hw
  exact kk H1 locs1 (by rw [← ht]; exact hB) hz hk hS1
theorem gm_cv {a : Array Value} {RR : Heap → Prop} (hr : va_Run p l e R s m args below meth c H locs cells slots 0 0 (F0 m pc ls st0) rest (gQv RR A1 a) A1) (hS : va_S A0 H0 H locs) (hA : ∀ q, A1 q → A0 q)
    (kk : ∀ (H1 : Heap) (locs1 : List Loc), RR H1 → H.size ≤ H1.size → (∀ q : Nat, q < H.size → ¬ A1 q → H1[q]? = H[q]?) → va_S A0 H0 H1 locs1 → W p l e R s m args below meth c H1 locs1 cells slots Q (F0 m (pc + 3) ls rest)) : W p l e R s m args below meth c H locs cells slots Q (F0 m pc ls st0) := by
  refine va_callv hr hS (fun q _ h => hA q h) hA (fun u t H1 locs1 ht _ hw hB hz hk hS1 => ?_)
  exact kk H1 locs1 (by rw [← ht]; exact hB) hz hk hS1
theorem gm_cq {a : Array Value} {o : Option Nat} {RR : Heap → Prop} (hr : va_Run p l e R s m args below meth c H locs cells slots 0 0 (F0 m pc ls st0) rest (gQq o RR A1 a) A1) (hS : va_S A0 H0 H locs) (hA : ∀ q, A1 q → A0 q)
    (kk : ∀ (H1 : Heap) (locs1 : List Loc), RR H1 → H.size ≤ H1.size → (∀ q : Nat, q < H.size → ¬ A1 q → H1[q]? = H[q]?) → va_S A0 H0 H1 locs1 → W p l e R s m args below meth c H1 locs1 cells slots Q (F0 m (pc + 3) ls (va_rf o :: rest))) : W p l e R s m args below meth c H locs cells slots Q (F0 m pc ls st0) := by
  refine va_callq hr hS (fun q _ h => hA q h) hA (fun r u t H1 locs1 ht _ hw hB hz hk hS1 => ?_)
  subst hw
  exact kk H1 locs1 (by rw [← ht]; exact hB) hz hk hS1
theorem gm_iret {A : Nat → Prop} {RR : Heap → Prop} {f v : Int32} (hexec : p.tables.exec = Jvm.exec) (hb : c.code = cc) (hr : meth.sig.returnType = some .int) (hlocks : meth.locks = false) (hS : va_S A s.heap H locs) (hv : v = f) (hR : RR H) (hdg : decode cc pc = .ok (.ireturn, 1)) : W p l e R s m args below meth c H locs cells slots (MQ below (gQi f RR A) args s cells slots A) (F0 m pc ls [.int v]) := by
  subst hv
  exact W.iret hexec hb hr (fun t ht hW => ⟨⟨v, (), rfl, rfl, by subst ht; exact hR⟩, hS.F ht⟩) hS.2.2 hdg hlocks
theorem gm_zret {A : Nat → Prop} {RR : Heap → Prop} {f v : Int32} (hexec : p.tables.exec = Jvm.exec) (hb : c.code = cc) (hr : meth.sig.returnType = some .boolean) (hlocks : meth.locks = false) (hn : narrow .boolean (.int v) = .int v) (hS : va_S A s.heap H locs) (hv : v = f) (hR : RR H) (hdg : decode cc pc = .ok (.ireturn, 1)) : W p l e R s m args below meth c H locs cells slots (MQ below (gQi f RR A) args s cells slots A) (F0 m pc ls [.int v]) := by
  subst hv
  exact W.zret hexec hb hr hn (fun t ht hW => ⟨⟨v, (), rfl, rfl, by subst ht; exact hR⟩, hS.F ht⟩) hS.2.2 hdg hlocks
theorem gm_vret {A : Nat → Prop} {RR : Heap → Prop} (hexec : p.tables.exec = Jvm.exec) (hb : c.code = cc) (hr : meth.sig.returnType = none) (hlocks : meth.locks = false) (hS : va_S A s.heap H locs) (hR : RR H) (hdg : decode cc pc = .ok (.return_, 1)) : W p l e R s m args below meth c H locs cells slots (MQ below (gQv RR A) args s cells slots A) (F0 m pc ls []) :=
  W.vret hexec hb hr (fun t ht hW => ⟨⟨(), rfl, trivial, by subst ht; exact hR⟩, hS.F ht⟩) hS.2.2 hdg hlocks
theorem gm_aret {A : Nat → Prop} {RR : Heap → Prop} {o : Option Nat} {v : Value} {C : String} (hexec : p.tables.exec = Jvm.exec) (hb : c.code = cc) (hr : meth.sig.returnType = some (.object C)) (hlocks : meth.locks = false) (hS : va_S A s.heap H locs) (hv : v = va_rf o) (hR : RR H) (hdg : decode cc pc = .ok (.areturn, 1)) : W p l e R s m args below meth c H locs cells slots (MQ below (gQq o RR A) args s cells slots A) (F0 m pc ls [v]) := by
  subst hv
  exact W.aret hexec hb hr (Or.inl ⟨C, rfl⟩) (va_rf_or o) (fun t ht hW => ⟨⟨o, (), rfl, rfl, by subst ht; exact hR⟩, hS.F ht⟩) hS.2.2 hdg hlocks
end GMROWS
