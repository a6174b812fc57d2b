/-! answers that are long, calls that make cells; small facts for the law's walk -/
def gQl (f : Int64) (R : Heap → Prop) (A : Nat → Prop) : Array Value → State → Outcome → State → Prop := va_Ql (S := Unit) (fun r _ => r = f) (fun _ t => R t.heap) A
section GMROWSL
variable {p : Program} {l : Launch} {e : Env} {R : Room} {s : State} {m : MethodId} {args : Array Value} {below : List Frame} {meth : Method} {c : Code} {H : Heap} {locs : List Loc} {cells slots mc ms : Nat} {Q : State → Prop}
variable {cc : ByteArray} {pc : Nat} {ls : Array Slot} {rest st0 : List Value} {D : va_G} {cy : Nat → ClassId} {H0 : Heap} {A0 A1 : Nat → Prop}
theorem gm_cl {a : Array Value} {f : Int64} {RR : Heap → Prop} (hr : va_Run p l e R s m args below meth c H locs cells slots 0 0 (F0 m pc ls st0) rest (gQl f RR A1 a) A1) (hS : va_S A0 H0 H locs) (hA : ∀ q, A1 q → A0 q)
    (kk : ∀ (H1 : Heap) (locs1 : List Loc), RR H1 → H.size ≤ H1.size → (∀ q : Nat, q < H.size → ¬ A1 q → H1[q]? = H[q]?) → va_S A0 H0 H1 locs1 → W p l e R s m args below meth c H1 locs1 cells slots Q (F0 m (pc + 3) ls (.long f :: rest))) : W p l e R s m args below meth c H locs cells slots Q (F0 m pc ls st0) := by
  refine va_calll hr hS (fun q _ h => hA q h) hA (fun r u t H1 locs1 ht _ hw hB hz hk hS1 => ?_)
  subst hw
  exact kk H1 locs1 (by rw [← ht]; exact hB) hz hk hS1
theorem gm_lret {A : Nat → Prop} {RR : Heap → Prop} {f v : Int64} (hexec : p.tables.exec = Jvm.exec) (hb : c.code = cc) (hr : meth.sig.returnType = some .long) (hlocks : meth.locks = false) (hS : va_S A s.heap H locs) (hv : v = f) (hR : RR H) (hdg : decode cc pc = .ok (.lreturn, 1)) : W p l e R s m args below meth c H locs cells slots (MQ below (gQl f RR A) args s cells slots A) (F0 m pc ls [.long v]) := by
  subst hv
  exact W.lret hexec hb hr (fun t ht hW => ⟨⟨v, (), rfl, rfl, by subst ht; exact hR⟩, hS.F ht⟩) hS.2.2 hdg hlocks
/-- calls that make cells -/
theorem gm_ciC {a : Array Value} {f : Int32} {RR : Heap → Prop} (hr : va_Run p l e R s m args below meth c H locs cells slots mc ms (F0 m pc ls st0) rest (gQi f RR A1 a) A1) (hS : va_S A0 H0 H locs) (hA : ∀ q, A1 q → A0 q)
    (kk : ∀ (H1 : Heap) (locs1 : List Loc), RR H1 → H.size ≤ H1.size → (∀ q : Nat, q < H.size → ¬ A1 q → H1[q]? = H[q]?) → va_S A0 H0 H1 locs1 → W p l e R s m args below meth c H1 locs1 (cells + mc) (slots + ms) Q (F0 m (pc + 3) ls (.int f :: rest))) : W p l e R s m args below meth c H locs cells slots Q (F0 m pc ls st0) := by
  refine va_calli hr hS (fun q _ h => hA q h) hA (fun r u t H1 locs1 ht _ hw hB hz hk hS1 => ?_)
  subst hw
  exact kk H1 locs1 (by rw [← ht]; exact hB) hz hk hS1
theorem gm_cqC {a : Array Value} {o : Option Nat} {RR : Heap → Prop} (hr : va_Run p l e R s m args below meth c H locs cells slots mc ms (F0 m pc ls st0) rest (gQq o RR A1 a) A1) (hS : va_S A0 H0 H locs) (hA : ∀ q, A1 q → A0 q)
    (kk : ∀ (H1 : Heap) (locs1 : List Loc), RR H1 → H.size ≤ H1.size → (∀ q : Nat, q < H.size → ¬ A1 q → H1[q]? = H[q]?) → va_S A0 H0 H1 locs1 → W p l e R s m args below meth c H1 locs1 (cells + mc) (slots + ms) Q (F0 m (pc + 3) ls (va_rf o :: rest))) : W p l e R s m args below meth c H locs cells slots Q (F0 m pc ls st0) := by
  refine va_callq hr hS (fun q _ h => hA q h) hA (fun r u t H1 locs1 ht _ hw hB hz hk hS1 => ?_)
  subst hw
  exact kk H1 locs1 (by rw [← ht]; exact hB) hz hk hS1
theorem gm_callSC {y : MethodName} {bytes : ByteArray} {maxL index na nL : Nat} {ret : Option FieldType} {ws : List Cond} {rm : Room} {Ts : List Cond} {own : String} {As : List Value} {P : Heap → Prop} {Qc : Array Value → State → Outcome → State → Prop} (S : CallFix p m c cc nL s args Ts own) (hK : gK D cy s) (hM : Met l y ws rm (gP As D cy P) Qc mc ms A1) (cw : CallB R s args own index y bytes maxL ret ws rm mc ms na ∧ (Cond.static y).before args s = true)
    (hP : P H) (hn : As.length = na) (hsize : ls.size = nL) (hst : st0 = As.reverse ++ rest) (hW : (rest.map fun v => v.category).sum ≤ 8) (hdg : decode cc pc = .ok (.invokestatic index, 3)) (hc0 : cells + mc ≤ R.cells) (hs0 : slots + ms ≤ R.slots) :
    va_Run p l e R s m args below meth c H locs cells slots mc ms (F0 m pc ls st0) rest (Qc As.toArray) A1 :=
  va_runS S hM cw (gPreS hK hP) rfl hn hsize hst (lv_room hW) hdg ⟨hc0, hs0⟩
end GMROWSL
theorem lg_cmp_s (x : Int64) : lg_cmp x x = 0 := by
  unfold lg_cmp
  rw [if_neg, if_pos rfl]
  intro h
  have h := Int64.lt_iff_toInt_lt.mp h
  omega
theorem st_w {X : gM} (h : Iv X) (a : Int32) : (f_X8_station X a 2).toInt ≤ 40 := by
  obtain ⟨Y, hR⟩ := h
  obtain ⟨tc, oc, sl, ph, mn, hs⟩ := hR.1
  have h40 := hs.tc4
  unfold f_X8_station
  obtain ⟨hA, -⟩ := station_arg (Y := Y) hs a
  rcases hA with ⟨e1, -⟩ | ⟨l, n, hl, hn, rfl, e1, -⟩
  · rw [e1]
    simp only [gOpt]
    decide
  · have hn6 : n < 6 := Nat.lt_of_lt_of_le hn (hs.mn6 hl)
    rw [e1]
    simp only [gOpt]
    rw [nS_lin hl hn6, nS_sta hl hn6]
    rw [if_neg (show ¬ (2 : Int32) = 0 by decide), if_neg (show ¬ (2 : Int32) = 1 by decide), if_pos trivial, X_queueLength (r := Y 1) (nI (10 * l + n)) (by rw [hs.1.g LK1, hs.r1]) h40 (fun t ht => queue_w hs hl hn6 ht)]
    have h2 := cn_le (bWt (Y 1) (nI (10 * l + n))) tc
    rw [nI_toInt (by omega)]
    omega
theorem st_bd {X : gM} {a : Int32} {k : Nat} (h : Iv X) (hc : ¬ f_X8_station X a 2 < nI k) (hk : k < 2147483648) : k < 2147483647 := by
  have h1 := st_w h a
  rw [Int32.lt_iff_toInt_lt, nI_toInt hk] at hc
  omega
/-- what a method with a script's row stands on -/
theorem TA_CA {β : Nat} : ∀ q, TA β q → CA β q := gA_CA
theorem CA_le {β γ : Nat} (h : β + 872 ≤ γ) : ∀ q, CA γ q → CA β q := fun q hq => Nat.le_trans (Nat.le_trans (Nat.le_add_right β 872) h) hq
theorem TA_le {β γ : Nat} (h : β + 872 ≤ γ) : ∀ q, TA γ q → CA β q := fun q hq => CA_le h q (gA_CA q hq)
theorem TR.keepC {D : va_G} {cy : Nat → ClassId} {β γ : Nat} {X : gM} {H H1 : Heap} (h : TR D cy β X H) (hb : β + 872 ≤ γ) (hk : ∀ q : Nat, q < H.size → ¬ CA γ q → H1[q]? = H[q]?) : TR D cy β X H1 := gRep.keep h hk (fun c hc q => by simp only [adS, CA] at q; omega)
theorem TR.keepT {D : va_G} {cy : Nat → ClassId} {β γ : Nat} {X : gM} {H H1 : Heap} (h : TR D cy β X H) (hb : β + 872 ≤ γ) (hk : ∀ q : Nat, q < H.size → ¬ TA γ q → H1[q]? = H[q]?) : TR D cy β X H1 := TR.keepC h hb (fun q hq hc => hk q hq (fun z => hc (gA_CA q z)))
theorem TR.keepL {D : va_G} {cy : Nat → ClassId} {β γ : Nat} {X : gM} {H H1 : Heap} (h : TR D cy γ X H) (hb : β + 872 ≤ γ) (hk : ∀ q : Nat, q < H.size → ¬ TA β q → H1[q]? = H[q]?) : TR D cy γ X H1 := gRep.keep h hk (fun c hc q => by
  obtain ⟨j, hj, he⟩ := q
  simp only [adS] at he
  omega)
theorem lw_new8 {D : va_G} {cy : Nat → ClassId} {β : Nat} {H : Heap} (h : va_at D vwCl (β, .inr (8, [.null, .null, .null, .null, .null, .null, .int 0, .int 0])) H) (hz : H.size = β + 1) : UR D cy β 1 gZ H := by
  refine ⟨fun c hc => ?_, hz⟩
  have e : c = 0 := by omega
  subst e
  exact h
