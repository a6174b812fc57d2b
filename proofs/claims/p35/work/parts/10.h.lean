/-! rows of references: what lies behind their length doesn't count; a new State and a new text, as the methods know them -/
theorem g_cellEqR {cA : ClassId} {n : Nat} {f f2 : Nat → Option Nat} (h : ∀ i, i < n → f i = f2 i) : vp_cell cA (n, .inr (.inr (.inr (.inr f)))) = vp_cell cA (n, .inr (.inr (.inr (.inr f2)))) := by
  rw [vp_cell_q, vp_cell_q]
  unfold arrV
  congr 1
  apply Array.ext
  · simp
  · intro i h1 h2
    simp at h1 ⊢
    rw [h i h1]
def gSim (a b : va_E) : Prop := a = b ∨ ∃ (cA : ClassId) (k : Nat) (f f2 : Nat → Option Nat), a = .inl (cA, k, .inr (.inr (.inr (.inr f)))) ∧ b = .inl (cA, k, .inr (.inr (.inr (.inr f2)))) ∧ ∀ i, i < k → f i = f2 i
theorem gSim.at {D : va_G} {a : Nat} {e1 e2 : va_E} {H : Heap} (h : gSim e1 e2) (q : va_at D vwCl (a, e1) H) : va_at D vwCl (a, e2) H := by
  rcases h with e | ⟨cA, k, f, f2, h1, h2, h3⟩
  · rw [← e]; exact q
  · rw [h1] at q
    rw [h2]
    show H[a]? = some (vp_cell cA (k, .inr (.inr (.inr (.inr f2)))))
    rw [← g_cellEqR h3]
    exact q
theorem gRep.sim {D : va_G} {kb kb2 : gB} {n : Nat} {ad : Nat → Nat} {X Y : gM} {H : Heap} (h : gRep D kb n ad X H) (he : ∀ c, c < n → gSim (kb c (X c)) (kb2 c (Y c))) : gRep D kb2 n ad Y H := fun c hc => (he c hc).at (h c hc)
theorem gMet_vC {l : Launch} {y : MethodName} {ws : List Cond} {rm : Room} {P : Array Value → State → Prop} {R R2 : Heap → Prop} {A : Nat → Prop} {mc ms : Nat} (h : Met l y ws rm P (gQv R A) mc ms A) (hi : ∀ H, R H → R2 H) : Met l y ws rm P (gQv R2 A) mc ms A := by
  intro p e h1 h2 h3 s m args below h4 h5 h6 h7
  obtain ⟨n, o, g1, g2, g3, ⟨⟨⟨u, hu1, hu2, hu3⟩, hF⟩, hL⟩⟩ := h p e h1 h2 h3 s m args below h4 h5 h6 h7
  exact ⟨n, o, g1, g2, g3, ⟨⟨⟨u, hu1, hu2, hi _ hu3⟩, hF⟩, hL⟩⟩
/-- the memory of nothing; of a new State; of a new text -/
def gZ : gM := fun _ _ => 0
def S0 : gM := p_X3_init gZ
def T0 : gM := p_X6_init gZ
theorem kd_all : ∀ c, c < 123 → kdS c = 3 ∨ kdS c = 0 ∨ kdS c = 20 ∨ kdS c = 24 ∨ kdS c = 4 ∨ kdS c = 21 ∨ kdS c = 25 ∨ kdS c = 26 ∨ kdS c = 1 ∨ kdS c = 22 ∨ kdS c = 5 ∨ kdS c = 7 ∨ kdS c = 2 := by decide +kernel
theorem S0_3 : ∀ j, j < 5 → S0 0 j = 1 := by decide +kernel
theorem S0_0 : ∀ c, c < 123 → kdS c = 0 → S0 c 0 = nI (nLin c) ∧ S0 c 1 = 1 ∧ S0 c 2 = 1 := by decide +kernel
theorem S0_24 : ∀ c, c < 123 → kdS c = 24 → ∀ n, n < 6 → S0 c n = 1 := by decide +kernel
theorem S0_4 : ∀ c, c < 123 → kdS c = 4 → S0 c 0 = nI (nLin c) ∧ S0 c 1 = nI (10 * nLin c + nSta c) ∧ S0 c 2 = isJ c ∧ S0 c 3 = 1 := by decide +kernel
theorem S0_25 : ∀ n, n < 40 → S0 31 n = 1 := by decide +kernel
theorem S0_26 : ∀ n, n < 4 → S0 32 n = 1 := by decide +kernel
theorem S0_1 : S0 33 0 = 1 := by decide +kernel
theorem S0_5 : ∀ c, c < 123 → kdS c = 5 → S0 c 0 = nI (nTic c) ∧ S0 c 1 = 1 := by decide +kernel
theorem S0_2 : ∀ c, c < 123 → kdS c = 2 → S0 c 0 = 1 ∧ S0 c 5 = 0 := by decide +kernel
theorem kd_one : ∀ c, c < 123 → (kdS c = 3 → c = 0) ∧ (kdS c = 25 → c = 31) ∧ (kdS c = 26 → c = 32) ∧ (kdS c = 1 → c = 33) := by decide +kernel
theorem S0_r0 : ∀ i, i < 974 → zp i = true → S0 (zc i) (zf i) = r0 i := by decide +kernel
theorem S0_log : S0 33 1 = 0 ∧ S0 33 2 = 0 := by decide +kernel
theorem gro1 {a : Nat} : gro 1 a = some a := if_neg (by decide)
theorem S0_sim {cy : Nat → ClassId} {σ : Nat} : ∀ c, c < 123 → gSim (bodyC cy σ c (S0 c)) (bodyS cy σ c (S0 c)) := by
  intro c hc
  obtain ⟨k3, k25, k26, k1⟩ := kd_one c hc
  rcases kd_all c hc with h | h | h | h | h | h | h | h | h | h | h | h | h
  · left
    rw [bC_3 h, bS_3 h, k3 h, S0_3 0 (by decide), S0_3 1 (by decide), S0_3 2 (by decide), S0_3 3 (by decide), S0_3 4 (by decide)]
    simp only [gr1]
  · left
    obtain ⟨a, b, d⟩ := S0_0 c hc h
    rw [bC_0 h, bS_0 h, a, b, d, gr1, gr1]
  · left
    rw [bC_20 h, bS_20 h]
  · right
    exact ⟨_, _, _, _, bC_24 h, bS_24 h, fun n hn => by rw [S0_24 c hc h n hn, gro1]⟩
  · left
    obtain ⟨a, b, d, f⟩ := S0_4 c hc h
    rw [bC_4 h, bS_4 h, a, b, d, f, gr1]
  · left
    rw [bC_21 h, bS_21 h]
  · right
    exact ⟨_, _, _, _, bC_25 h, bS_25 h, fun n hn => by rw [k25 h, S0_25 n hn, gro1]⟩
  · right
    exact ⟨_, _, _, _, bC_26 h, bS_26 h, fun n hn => by rw [k26 h, S0_26 n hn, gro1]⟩
  · left
    rw [bC_1 h, bS_1 h, k1 h, S0_1, gr1]
  · left
    rw [bC_22 h, bS_22 h]
  · left
    obtain ⟨a, b⟩ := S0_5 c hc h
    rw [bC_5 h, bS_5 h, a, b, gr1]
  · left
    rw [bC_7 h, bS_7 h]
  · left
    obtain ⟨a, b⟩ := S0_2 c hc h
    rw [bC_2 h, bS_2 h, a, b, gr1]
    rfl
theorem kdX_all : ∀ c, c < 8 → c = 0 ∨ c = 1 ∨ c = 2 ∨ kdX c = 7 := by decide +kernel
theorem T0_0 : T0 0 0 = 1 ∧ T0 0 1 = 1 ∧ T0 0 2 = 0 := by decide +kernel
theorem T0_2 : ∀ n, n < 5 → T0 2 n = 1 := by decide +kernel
theorem T0_sim {cy : Nat → ClassId} {σ : Nat} : ∀ c, c < 8 → gSim (bodyY cy σ c (T0 c)) (bodyX cy σ c (T0 c)) := by
  intro c hc
  rcases kdX_all c hc with rfl | rfl | rfl | h
  · left
    obtain ⟨a, b, -⟩ := T0_0
    rw [bY_6 (by decide), bX_6 (by decide), a, b, gr1, gr1]
  · left
    rw [bY_31 (by decide), bX_31 (by decide)]
  · right
    exact ⟨_, _, _, _, bY_32 (by decide), bX_32 (by decide), fun n hn => by rw [T0_2 n hn, gro1]⟩
  · left
    rw [bY_7 h, bX_7 h]
/-- a new State stands at the heap's end -/
theorem c_X3_new (l : Launch) (D : va_G) (cy : Nat → ClassId) (σ : Nat) : Met l yX3_init wsX3_init ({ frames := 3, cells := 122, slots := 1147, locals := 64 }) (gP [.ref σ] D cy (CR D cy σ 1 gZ)) (gQv (fun H => SR D cy σ S0 H ∧ H.size = σ + 123) (CA σ)) 122 1147 (CA σ) :=
  gMet_vC (c_X3_init l D cy σ gZ) (fun _ h => ⟨gRep.sim h.1 S0_sim, h.2⟩)
theorem c_X6_new (l : Launch) (D : va_G) (cy : Nat → ClassId) (σ : Nat) : Met l yX6_init wsX6_init ({ frames := 2, cells := 7, slots := 90, locals := 32 }) (gP [.ref σ] D cy (YR D cy σ 1 gZ)) (gQv (fun H => XR D cy σ T0 H ∧ H.size = σ + 8) (CA σ)) 7 90 (CA σ) :=
  gMet_vC (c_X6_init l D cy σ gZ) (fun _ h => ⟨gRep.sim h.1 T0_sim, h.2⟩)
