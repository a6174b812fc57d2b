section GMROWS7
variable {p : Program} {l : Launch} {e : Env} {R : Room} {s : State} {m : MethodId} {args : Array Value} {below : List Frame} {meth : Method} {c : Code} {H : Heap} {locs : List Loc} {cells slots : Nat} {Q : State → Prop}
variable {cc : ByteArray} {pc : Nat} {ls : Array Slot} {rest : List Value} {D : va_G} {cy : Nat → ClassId} {kb : gB} {n : Nat} {ad : Nat → Nat} {X : gM} {H0 : Heap}
theorem gm_iastZ (hexec : p.tables.exec = Jvm.exec) (hb : c.code = cc) (hK : va_K D vwCl (gt cy) s) (hR : gRep D kb n ad X H) (hi : gInj n ad) (hS0 : va_S (gA n ad) H0 H locs) {a : Nat} (ha : a < n) {b0 : Nat} (hab : ad a = b0) {k : Nat} (he : ∀ r, kb a r = .inl (cy 0, k, .inl r)) {i x : Int32} (hin : vp_in i k) (hdg : decode cc pc = .ok (.iastore, 1))
    (kk : ∀ (H1 : Heap) (locs1 : List Loc), gRep D kb n ad (updM X a i.toNatClampNeg x) H1 → H1.size = H.size → va_S (gA n ad) H0 H1 locs1 → W p l e R s m args below meth c H1 locs1 cells slots Q (F0 m (pc + 1) ls rest)) : W p l e R s m args below meth c H locs cells slots Q (F0 m pc ls (.int x :: .int i :: .ref b0 :: rest)) := by
  subst hab
  have hc : H[ad a]? = some (vp_cell (cy 0) (k, .inl (X a))) := by
    have q := hR a ha
    rw [he] at q
    exact q
  refine W.iast hexec hb hc ((hK.2 0 _ rfl).1 k (fun j => .int (X a j))) (fun q => by cases q) (by show ¬ (i < 0 ∨ (arrV _ _ _).slots.size ≤ _); rw [arrV_size]; exact hin) rfl rfl hdg fun H1 e1 z oq => ?_
  refine kk H1 _ (gm_putE hR hi ha (he _) oq ?_) z (hS0.put z oq ⟨a, ha, rfl⟩)
  show H1[ad a]? = some (vp_cell _ _)
  rw [e1, vp_cell_i, vp_cell_i, arrV_store]
  congr 2
  funext q
  by_cases hq : q = i.toNatClampNeg
  · subst hq
    simp [updV, upd]
  · simp [updV, upd, hq]
theorem gm_astC (hexec : p.tables.exec = Jvm.exec) (hb : c.code = cc) (hK : va_K D vwCl (gt cy) s) (hR : gRep D kb n ad X H) (hi : gInj n ad) (hS0 : va_S (gA n ad) H0 H locs) {a : Nat} (ha : a < n) {b0 : Nat} (hab : ad a = b0) {cA : ClassId} {k : Nat} {f : Nat → Option Nat} (he : kb a (X a) = .inl (cA, k, .inr (.inr (.inr (.inr f))))) {t0 : Nat} {r : vw_C} (ht : (gt cy)[t0]? = some (cA, .object r.1)) {v ci : Nat} {vs : List Value} (hv : va_P D vwCl [(v, .inr (ci, vs))] H) (hcl : vwCl[ci]? = some r) {i : Int32} (hin : vp_in i k) {j : Nat} {x : Int32} (he' : kb a (upd (X a) j x) = .inl (cA, k, .inr (.inr (.inr (.inr (va_up f i.toNatClampNeg (some v))))))) (hdg : decode cc pc = .ok (.aastore, 1))
    (kk : ∀ (H1 : Heap) (locs1 : List Loc), gRep D kb n ad (updM X a j x) H1 → H1.size = H.size → va_S (gA n ad) H0 H1 locs1 → W p l e R s m args below meth c H1 locs1 cells slots Q (F0 m (pc + 1) ls rest)) : W p l e R s m args below meth c H locs cells slots Q (F0 m pc ls (.ref v :: .int i :: .ref b0 :: rest)) := by
  subst hab
  have hlt : i.toNatClampNeg < k := Nat.not_le.mp fun q => hin (Or.inr q)
  have h0 : ¬ i < 0 := fun q => hin (Or.inl q)
  have hc : H[ad a]? = some (vp_cell cA (k, .inr (.inr (.inr (.inr f))))) := by
    have q := hR a ha
    rw [he] at q
    exact q
  obtain ⟨r', hr', cellV, g1, g2, g3, -⟩ := hv 0 _ rfl
  have hcls := (hK.1 ci r hcl).2
  obtain ⟨kA, comp, k1, k2, k3, -⟩ := (hK.2 t0 _ ht).2
  have hcomp : comp = D.1 ci := Option.some.inj (k3.symm.trans hcls.1)
  subst hcomp
  obtain ⟨kC, hkC, -⟩ := hcls.2
  refine W.aast hexec hb hc (fun q h => by cases h) (fun h => by cases h) k1 k2 rfl hkC ⟨h0, by show _ < (arrV _ _ _).slots.size; rw [arrV_size]; exact hlt⟩ g1 (fun q h => by rw [g3] at h; cases h) (by rw [g2]; exact hkC) (by rw [g2]; exact va_assign hcls) rfl rfl hdg fun H1 e1 z oq => ?_
  refine kk H1 _ (gm_putE hR hi ha he' oq ?_) z (hS0.put z oq ⟨a, ha, rfl⟩)
  show H1[ad a]? = some (vp_cell _ _)
  rw [e1, vp_cell_q, vp_cell_q, arrV_store]
  congr 2
  funext q
  by_cases hq : q = i.toNatClampNeg
  · subst hq
    simp [updV, va_up, va_rf]
  · simp [updV, va_up, hq]
end GMROWS7
