/-! a State while it is made: a reference is null where the memory says 0 -/
def gr (f : Int32) (a : Nat) : Value := if f = 0 then .null else .ref a
def gro (f : Int32) (a : Nat) : Option Nat := if f = 0 then none else some a
def bodyC (cy : Nat → ClassId) (σ : Nat) : gB := fun c r =>
  if kdS c = 3 then .inr (3, [gr (r 0) (σ + 1), gr (r 1) (σ + 16), gr (r 2) (σ + 31), gr (r 3) (σ + 32), gr (r 4) (σ + 33), .int (r 5), .int (r 6), .int (r 7), .int (r 8), .int (r 9), .int (r 10), .int (r 11), .int (r 12), .int (r 13)])
  else if kdS c = 0 then .inr (0, [.int (r 0), gr (r 1) (σ + (c + 1)), gr (r 2) (σ + (c + 2)), .int (r 3), .int (r 4), .int (r 5), .int (r 6), .int (r 7), .int (r 8), .int (r 9)])
  else if kdS c = 20 then .inl (cy 0, 24, .inl r)
  else if kdS c = 24 then .inl (cy 4, 6, .inr (.inr (.inr (.inr (fun n => gro (r n) (σ + (c + 1 + 2 * n)))))))
  else if kdS c = 4 then .inr (4, [.int (r 0), .int (r 1), .int (r 2), gr (r 3) (σ + (c + 1)), .int (r 4), .int (r 5), .int (r 6), .int (r 7), .int (r 8), .int (r 9)])
  else if kdS c = 21 then .inl (cy 0, 3, .inl r)
  else if kdS c = 25 then .inl (cy 5, 40, .inr (.inr (.inr (.inr (fun n => gro (r n) (σ + (35 + 2 * n)))))))
  else if kdS c = 26 then .inl (cy 2, 4, .inr (.inr (.inr (.inr (fun n => gro (r n) (σ + (115 + 2 * n)))))))
  else if kdS c = 1 then .inr (1, [gr (r 0) (σ + (c + 1)), .int (r 1), .int (r 2)])
  else if kdS c = 22 then .inl (cy 0, 60, .inl r)
  else if kdS c = 5 then .inr (5, [.int (r 0), gr (r 1) (σ + (c + 1)), .int (r 2), .int (r 3), .int (r 4), .int (r 5), .int (r 6), .int (r 7), .int (r 8), .int (r 9), .int (r 10), .int (r 11), .int (r 12), .int (r 13)])
  else if kdS c = 7 then .inr (7, [.int (r 0), .int (r 1), .int (r 2), .int (r 3), .int (r 4)])
  else .inr (2, [gr (r 0) (σ + (c + 1)), .int (r 1), .int (r 2), .int (r 3), .int (r 4), .int (r 5)])
section LAYC
variable {cy : Nat → ClassId} {σ c : Nat} {r : Nat → Int32}
theorem bC_3 (h : kdS c = 3) : bodyC cy σ c r = .inr (3, [gr (r 0) (σ + 1), gr (r 1) (σ + 16), gr (r 2) (σ + 31), gr (r 3) (σ + 32), gr (r 4) (σ + 33), .int (r 5), .int (r 6), .int (r 7), .int (r 8), .int (r 9), .int (r 10), .int (r 11), .int (r 12), .int (r 13)]) := by simp [bodyC, h]
theorem bC_0 (h : kdS c = 0) : bodyC cy σ c r = .inr (0, [.int (r 0), gr (r 1) (σ + (c + 1)), gr (r 2) (σ + (c + 2)), .int (r 3), .int (r 4), .int (r 5), .int (r 6), .int (r 7), .int (r 8), .int (r 9)]) := by simp [bodyC, h]
theorem bC_20 (h : kdS c = 20) : bodyC cy σ c r = .inl (cy 0, 24, .inl r) := by simp [bodyC, h]
theorem bC_24 (h : kdS c = 24) : bodyC cy σ c r = .inl (cy 4, 6, .inr (.inr (.inr (.inr (fun n => gro (r n) (σ + (c + 1 + 2 * n))))))) := by simp [bodyC, h]
theorem bC_4 (h : kdS c = 4) : bodyC cy σ c r = .inr (4, [.int (r 0), .int (r 1), .int (r 2), gr (r 3) (σ + (c + 1)), .int (r 4), .int (r 5), .int (r 6), .int (r 7), .int (r 8), .int (r 9)]) := by simp [bodyC, h]
theorem bC_21 (h : kdS c = 21) : bodyC cy σ c r = .inl (cy 0, 3, .inl r) := by simp [bodyC, h]
theorem bC_25 (h : kdS c = 25) : bodyC cy σ c r = .inl (cy 5, 40, .inr (.inr (.inr (.inr (fun n => gro (r n) (σ + (35 + 2 * n))))))) := by simp [bodyC, h]
theorem bC_26 (h : kdS c = 26) : bodyC cy σ c r = .inl (cy 2, 4, .inr (.inr (.inr (.inr (fun n => gro (r n) (σ + (115 + 2 * n))))))) := by simp [bodyC, h]
theorem bC_1 (h : kdS c = 1) : bodyC cy σ c r = .inr (1, [gr (r 0) (σ + (c + 1)), .int (r 1), .int (r 2)]) := by simp [bodyC, h]
theorem bC_22 (h : kdS c = 22) : bodyC cy σ c r = .inl (cy 0, 60, .inl r) := by simp [bodyC, h]
theorem bC_5 (h : kdS c = 5) : bodyC cy σ c r = .inr (5, [.int (r 0), gr (r 1) (σ + (c + 1)), .int (r 2), .int (r 3), .int (r 4), .int (r 5), .int (r 6), .int (r 7), .int (r 8), .int (r 9), .int (r 10), .int (r 11), .int (r 12), .int (r 13)]) := by simp [bodyC, h]
theorem bC_7 (h : kdS c = 7) : bodyC cy σ c r = .inr (7, [.int (r 0), .int (r 1), .int (r 2), .int (r 3), .int (r 4)]) := by simp [bodyC, h]
theorem bC_2 (h : kdS c = 2) : bodyC cy σ c r = .inr (2, [gr (r 0) (σ + (c + 1)), .int (r 1), .int (r 2), .int (r 3), .int (r 4), .int (r 5)]) := by simp [bodyC, h]
end LAYC
/-- n cells of a State in the making, at the heap's end -/
def CR (D : va_G) (cy : Nat → ClassId) (σ n : Nat) (X : gM) (H : Heap) : Prop := gRep D (bodyC cy σ) n (adS σ) X H ∧ H.size = σ + n
/-- what a constructor may touch: what was made from σ on -/
def CA (σ : Nat) : Nat → Prop := fun q => σ ≤ q
theorem injC {σ n : Nat} : gInj n (adS σ) := fun a b _ _ h => by simp only [adS] at h; omega
theorem gA_grow {σ n k : Nat} (h : n ≤ k) : ∀ q, gA n (adS σ) q → gA k (adS σ) q := by
  rintro q ⟨c, hc, he⟩
  exact ⟨c, by omega, he⟩
theorem gA_CA {σ n : Nat} : ∀ q, gA n (adS σ) q → CA σ q := by
  rintro q ⟨c, hc, he⟩
  simp only [adS] at he
  simp only [CA]
  omega
/-- the memory with a new row -/
def newR (X : gM) (n : Nat) : gM := fun a => if a = n then (fun _ => 0) else X a
theorem CR.grow {D : va_G} {cy : Nat → ClassId} {σ n : Nat} {X : gM} {H H1 : Heap} {e : va_E} (h : CR D cy σ n X H) (he : bodyC cy σ n (fun _ => 0) = e) (h1 : va_at D vwCl (σ + n, e) H1) (hz : H1.size = σ + n + 1) (o : ∀ q : Nat, q < σ + n → H1[q]? = H[q]?) : CR D cy σ (n + 1) (newR X n) H1 :=
  ⟨gRep.grow h.1 (by rw [he]; exact h1) o, hz⟩
set_option maxHeartbeats 4000000 in
set_option maxRecDepth 100000 in
/-- Trip(): nothing but Object's -/
theorem c_X7_init (l : Launch) (D : va_G) (cy : Nat → ClassId) (a sz : Nat) : Met l yX7_init wsX7_init ({ frames := 1, cells := 0, slots := 0, locals := 12 }) (gP [.ref a] D cy (fun H => H.size = sz)) (gQv (fun H => H.size = sz) gNo) 0 0 gNo := by
  refine gm_met (cc := cX7_init) (maxL := 1) (ret := none) [.ref a] (by decide) rfl (Nat.le_of_ble_eq_true rfl) ?_
  intro p e s m args below meth c0 ls C hR hl
  obtain ⟨hx, hb, hr, hts, hown, hlocks, hml, hK⟩ := C
  have hl : lv_has ls 1 [(0, .ref a)] := hl
  refine lv_aload_n hx hb dX7_init_0 rfl (lv_at hl 0 rfl) ?_
  refine W.objInit hx hb hown (hts (.methodLink RX7 1 objectInit) (by decide +kernel)) (hts (.instanceMethod objectInit) (by decide +kernel)) (hts (.code objectInit ⟨#[0xb1]⟩ 1 none) (by decide +kernel)) rfl (by rw [hml]; exact hl.1) rfl dX7_init_1 (Nat.le_of_ble_eq_true rfl) (Nat.le_of_ble_eq_true rfl) ?_
  refine W.eq (g2 := F0 m 4 ls []) rfl ?_
  exact gm_vret hx hb hr hlocks va_S.rf hR dX7_init_4
def p_X5_init (X : gM) (c : Nat) (a1 : Int32) : gM := updM (updM (newR X (c + 1)) c 1 1) c 0 a1
set_option maxHeartbeats 4000000 in
set_option maxRecDepth 100000 in
/-- Ticket(number): one Trip is made behind it -/
theorem c_X5_init (l : Launch) (D : va_G) (cy : Nat → ClassId) (σ : Nat) (X : gM) (c : Nat) (a1 : Int32) (hc : c < 123) (hk : kdS c = 5) : Met l yX5_init wsX5_init ({ frames := 2, cells := 1, slots := 5, locals := 32 }) (gP [.ref (σ + c), .int a1] D cy (CR D cy σ (c + 1) X)) (gQv (CR D cy σ (c + 2) (p_X5_init X c a1)) (CA σ)) 1 5 (CA σ) := by
  refine gm_metC (cc := cX5_init) (maxL := 2) (ret := none) [.ref (σ + c), .int a1] (by decide) rfl (Nat.le_of_ble_eq_true rfl) ?_
  intro p e s m args below meth c0 ls C hin hR hl
  obtain ⟨hx, hb, hr, hts, hown, hlocks, hml, hK⟩ := C
  obtain ⟨hR, hz⟩ := hR
  have hl : lv_has ls 2 [(0, .ref (σ + c)), (1, .int a1)] := hl
  have hS : va_S (gA (c + 1) (adS σ)) s.heap s.heap [] := va_S.rf
  have q7 := kd_5 c hc hk
  have in7 : ∀ w ∈ u_ws RX7 TX7 5, w ∈ wsX5_init := by decide +kernel
  have in5 : ∀ w ∈ u_ws RX5 TX5 14, w ∈ wsX5_init := by decide +kernel
  refine lv_aload_n hx hb dX5_init_0 rfl (lv_at hl 0 rfl) ?_
  refine W.objInit hx hb hown (hts (.methodLink RX5 3 objectInit) (by decide +kernel)) (hts (.instanceMethod objectInit) (by decide +kernel)) (hts (.code objectInit ⟨#[0xb1]⟩ 1 none) (by decide +kernel)) rfl (by rw [hml]; exact hl.1) rfl dX5_init_1 (Nat.le_of_ble_eq_true rfl) (Nat.le_of_ble_eq_true rfl) ?_
  refine W.eq (g2 := F0 m 4 ls []) rfl ?_
  refine lv_aload_n hx hb dX5_init_4 rfl (lv_at hl 0 rfl) ?_
  refine gm_new (ci := 7) (fs := [.int 0, .int 0, .int 0, .int 0, .int 0]) (C := RX7) (T := TX7) (N := 5) hx hb hts in7 tyX7 tyX7_ok hown (hts (.classLink RX5 9 RX7) (by decide +kernel)) (hts (.instantiable RX7 5) (by decide +kernel)) (hts (.initialized RX7) (by decide +kernel)) hK.1 rfl (fun j hj => by rcases (show j = 0 ∨ j = 1 ∨ j = 2 ∨ j = 3 ∨ j = 4 by omega) with rfl | rfl | rfl | rfl | rfl <;> rfl) (Nat.le_of_ble_eq_true rfl) (Nat.le_of_ble_eq_true rfl) dX5_init_5 hz (fun H h1 z1 o1 => ?_)
  have hS := g_Sw (g_Sm hS hz z1 o1) (gA_grow (show c + 1 ≤ c + 2 by omega))
  obtain ⟨hR, hz⟩ := CR.grow ⟨hR, hz⟩ (bC_7 q7.2) h1 z1 o1
  refine lv_dup hx hb dX5_init_8 rfl ?_
  refine gm_cvC (mc := 0) (ms := 0) (va_runIN (As := []) (rest := [.ref (σ + (c + 1)), .ref (σ + c)]) ⟨hx, hb, hml, hown, hts⟩ (c_X7_init l D cy (σ + (c + 1)) (σ + (c + 1 + 1))) ⟨va_cnB 0 hts gX5_init_X7_init_n11 rfl rfl rfl (hK.2.1 (RX5, 11, yX7_init, "MercuryLine") (by decide +kernel)) (hts (.initialized RX7) (by decide +kernel)) (by decide +kernel) ⟨Nat.le_of_ble_eq_true rfl, Nat.le_of_ble_eq_true rfl⟩, rfl, hts (.instanceMethod yX7_init) (by decide +kernel)⟩ (gPreS hK hz) rfl rfl hl.1 rfl (lv_room (Nat.le_of_ble_eq_true rfl)) dX5_init_9 ⟨Nat.le_of_ble_eq_true rfl, Nat.le_of_ble_eq_true rfl⟩) hS (fun _ h => h.elim) (fun H locs hz _ hfr hS => ?_)
  have hR := gRep.keep hR hfr (fun _ _ h => h)
  refine gm_putFZ (v := .ref (σ + (c + 1))) (ty := .object "MercuryLine$Trip") (ci := 5) (C := RX5) (T := TX5) (N := 14) hx hb hts in5 tyX5 tyX5_ok nmX5 hown hK.1 hR injC hS (a := c) (by omega) rfl (bC_5 hk) rfl 1 (by decide) (hts (.fieldLink RX5 12 "MercuryLine$Ticket" "trip" "LMercuryLine$Trip;") (by decide +kernel)) (fun _ h9 => h9) rfl hin rfl (by decide +kernel) rfl rfl (Nat.le_of_ble_eq_true rfl) (j := 1) (x := 1) (by rw [bC_5 hk]; rfl) dX5_init_12 (fun H locs hR z hS => ?_)
  have hz := z.trans hz
  refine lv_aload_n hx hb dX5_init_15 rfl (lv_at hl 0 rfl) ?_
  refine lv_iload_n hx hb dX5_init_16 rfl (lv_at hl 1 rfl) ?_
  refine gm_putFZ (v := .int a1) (ty := .int) (ci := 5) (C := RX5) (T := TX5) (N := 14) hx hb hts in5 tyX5 tyX5_ok nmX5 hown hK.1 hR injC hS (a := c) (by omega) rfl (bC_5 hk) rfl 0 (by decide) (hts (.fieldLink RX5 18 "MercuryLine$Ticket" "number" "I") (by decide +kernel)) (fun _ h9 => h9) rfl hin rfl (by decide +kernel) rfl rfl (Nat.le_of_ble_eq_true rfl) (j := 0) (x := a1) (by rw [bC_5 hk]; rfl) dX5_init_17 (fun H locs hR z hS => ?_)
  have hz := z.trans hz
  exact gm_vretC hx hb hr hlocks (g_Sw hS gA_CA) ⟨hR, hz⟩ dX5_init_20
