/-! the number that state() makes of what can be seen: alike where the state of now is -/
section STATEQ
variable {X U : gM}
theorem g_stations_30 (es : ∀ a b, f_X8_station X a b = f_X8_station U a b) (a2 : Int32) (k4 : Nat) (y5 : Int32) : ∀ (n : Nat) (K K' : Int64 → Nat → Int64) (z : Int64) (k : Nat), (∀ z k, K z k = K' z k) → lf_L_stations_30 X a2 k4 y5 K n z k = lf_L_stations_30 U a2 k4 y5 K' n z k := by
  intro n
  induction n with
  | zero =>
    intro K K' z k h
    exact h z k
  | succ n ih =>
    intro K K' z k h
    simp only [lf_L_stations_30, es]
    split
    · exact h _ _
    · exact ih K K' _ _ h
theorem g_stations_60 (es : ∀ a b, f_X8_station X a b = f_X8_station U a b) (ew : ∀ a b, f_X8_waiting X a b = f_X8_waiting U a b) (a2 : Int32) (k4 : Nat) (y5 : Int32) : ∀ (n : Nat) (K K' : Int64 → Nat → Int64) (z : Int64) (k : Nat), (∀ z k, K z k = K' z k) → lf_L_stations_60 X a2 k4 y5 K n z k = lf_L_stations_60 U a2 k4 y5 K' n z k := by
  intro n
  induction n with
  | zero =>
    intro K K' z k h
    exact h z k
  | succ n ih =>
    intro K K' z k h
    simp only [lf_L_stations_60, es, ew]
    split
    · exact h _ _
    · exact ih K K' _ _ h
theorem g_stations_95 (ec : ∀ a b, f_X8_calls X a b = f_X8_calls U a b) (a2 : Int32) (k4 : Nat) (y5 : Int32) : ∀ (n : Nat) (K K' : Int64 → Nat → Int64) (z : Int64) (k : Nat), (∀ z k, K z k = K' z k) → lf_L_stations_95 X a2 k4 y5 K n z k = lf_L_stations_95 U a2 k4 y5 K' n z k := by
  intro n
  induction n with
  | zero =>
    intro K K' z k h
    exact h z k
  | succ n ih =>
    intro K K' z k h
    simp only [lf_L_stations_95, ec]
    split
    · exact h _ _
    · exact ih K K' _ _ h
theorem g_stations_7 (el : ∀ a b, f_X8_line X a b = f_X8_line U a b) (es : ∀ a b, f_X8_station X a b = f_X8_station U a b) (ew : ∀ a b, f_X8_waiting X a b = f_X8_waiting U a b) (ec : ∀ a b, f_X8_calls X a b = f_X8_calls U a b) (a2 : Int32) : ∀ (n : Nat) (K K' : Int64 → Nat → Int64) (z : Int64) (k : Nat), (∀ z k, K z k = K' z k) → lf_L_stations_7 X a2 K n z k = lf_L_stations_7 U a2 K' n z k := by
  intro n
  induction n with
  | zero =>
    intro K K' z k h
    exact h z k
  | succ n ih =>
    intro K K' z k h
    simp only [lf_L_stations_7, el]
    split
    · exact h _ _
    · exact g_stations_30 es _ _ _ 2147483648 _ _ _ _ (fun z _ => g_stations_60 es ew _ _ _ 2147483648 _ _ _ _ (fun z _ => g_stations_95 ec _ _ _ 2147483648 _ _ _ _ (fun z _ => ih K K' _ _ h)))
theorem g_stations (el : ∀ a b, f_X8_line X a b = f_X8_line U a b) (es : ∀ a b, f_X8_station X a b = f_X8_station U a b) (ew : ∀ a b, f_X8_waiting X a b = f_X8_waiting U a b) (ec : ∀ a b, f_X8_calls X a b = f_X8_calls U a b) (a2 : Int32) : f_L_stations X a2 = f_L_stations U a2 := by
  unfold f_L_stations
  exact g_stations_7 el es ew ec a2 2147483648 _ _ _ _ (fun _ _ => rfl)
theorem g_state_6 (eo : ∀ a, ¬ a = 19 → ¬ a = 20 → f_X8_count X a = f_X8_count U a)  : ∀ (n : Nat) (K K' : Int64 → Nat → Int64) (z : Int64) (k : Nat), (∀ z k, K z k = K' z k) → lf_L_state_6 X  K n z k = lf_L_state_6 U  K' n z k := by
  intro n
  induction n with
  | zero =>
    intro K K' z k h
    exact h z k
  | succ n ih =>
    intro K K' z k h
    simp only [lf_L_state_6]
    by_cases c : (19 : Int32) ≤ nI k
    · rw [if_pos c, if_pos c]
      exact h _ _
    · rw [if_neg c, if_neg c, eo (nI k) (fun z => c (by rw [z]; decide)) (fun z => c (by rw [z]; decide))]
      exact ih K K' _ _ h
theorem g_state_39 (el : ∀ a b, f_X8_line X a b = f_X8_line U a b) (k3 : Nat) : ∀ (n : Nat) (K K' : Int64 → Nat → Int64) (z : Int64) (k : Nat), (∀ z k, K z k = K' z k) → lf_L_state_39 X k3 K n z k = lf_L_state_39 U k3 K' n z k := by
  intro n
  induction n with
  | zero =>
    intro K K' z k h
    exact h z k
  | succ n ih =>
    intro K K' z k h
    simp only [lf_L_state_39, el]
    split
    · exact h _ _
    · exact ih K K' _ _ h
theorem g_state_68 (el : ∀ a b, f_X8_line X a b = f_X8_line U a b) (eb : ∀ a b, f_X8_slot X a b = f_X8_slot U a b) (k3 : Nat) : ∀ (n : Nat) (K K' : Int64 → Nat → Int64) (z : Int64) (k : Nat), (∀ z k, K z k = K' z k) → lf_L_state_68 X k3 K n z k = lf_L_state_68 U k3 K' n z k := by
  intro n
  induction n with
  | zero =>
    intro K K' z k h
    exact h z k
  | succ n ih =>
    intro K K' z k h
    simp only [lf_L_state_68, el, eb]
    split
    · exact h _ _
    · exact ih K K' _ _ h
theorem g_state_31 (el : ∀ a b, f_X8_line X a b = f_X8_line U a b) (es : ∀ a b, f_X8_station X a b = f_X8_station U a b) (ew : ∀ a b, f_X8_waiting X a b = f_X8_waiting U a b) (ec : ∀ a b, f_X8_calls X a b = f_X8_calls U a b) (eb : ∀ a b, f_X8_slot X a b = f_X8_slot U a b)  : ∀ (n : Nat) (K K' : Int64 → Nat → Int64) (z : Int64) (k : Nat), (∀ z k, K z k = K' z k) → lf_L_state_31 X  K n z k = lf_L_state_31 U  K' n z k := by
  intro n
  induction n with
  | zero =>
    intro K K' z k h
    exact h z k
  | succ n ih =>
    intro K K' z k h
    simp only [lf_L_state_31, g_stations el es ew ec]
    split
    · exact h _ _
    · exact g_state_39 el _ 2147483648 _ _ _ _ (fun z _ => g_state_68 el eb _ 2147483648 _ _ _ _ (fun z _ => ih K K' _ _ h))
theorem g_state_116 (e1 : f_X8_count X 1 = f_X8_count U 1) (et : ∀ a b, f_X8_ticket X a b = f_X8_ticket U a b)  : ∀ (n : Nat) (K K' : Int64 → Nat → Int64) (z : Int64) (k : Nat), (∀ z k, K z k = K' z k) → lf_L_state_116 X  K n z k = lf_L_state_116 U  K' n z k := by
  intro n
  induction n with
  | zero =>
    intro K K' z k h
    exact h z k
  | succ n ih =>
    intro K K' z k h
    simp only [lf_L_state_116, e1, et]
    split
    · exact h _ _
    · exact ih K K' _ _ h
theorem g_state_154 (e17 : f_X8_count X 17 = f_X8_count U 17) (ed : ∀ a b, f_X8_ordered X a b = f_X8_ordered U a b)  : ∀ (n : Nat) (K K' : Int64 → Nat → Int64) (z : Int64) (k : Nat), (∀ z k, K z k = K' z k) → lf_L_state_154 X  K n z k = lf_L_state_154 U  K' n z k := by
  intro n
  induction n with
  | zero =>
    intro K K' z k h
    exact h z k
  | succ n ih =>
    intro K K' z k h
    simp only [lf_L_state_154, e17, ed]
    split
    · exact h _ _
    · exact ih K K' _ _ h
theorem g_state_193 (ev : ∀ a b, f_X8_event X a b = f_X8_event U a b)  : ∀ (n : Nat) (K K' : Int64 → Nat → Int64) (z : Int64) (k : Nat), (∀ z k, K z k = K' z k) → lf_L_state_193 X  K n z k = lf_L_state_193 U  K' n z k := by
  intro n
  induction n with
  | zero =>
    intro K K' z k h
    exact h z k
  | succ n ih =>
    intro K K' z k h
    simp only [lf_L_state_193, ev]
    split
    · exact h _ _
    · exact ih K K' _ _ h
theorem g_state {Y : gM} (h : SE (vw 0 X) (Y 1)) (h2 : SE (vw 0 U) (Y 1)) : f_L_state X = f_L_state U := by
  have eo : ∀ a, ¬ a = 19 → ¬ a = 20 → f_X8_count X a = f_X8_count U a := fun a p q => n_count h h2 a p q
  have el : ∀ a b, f_X8_line X a b = f_X8_line U a b := fun a b => (n_line h a b).1.trans (n_line h2 a b).1.symm
  have es : ∀ a b, f_X8_station X a b = f_X8_station U a b := fun a b => (n_station h a b).1.trans (n_station h2 a b).1.symm
  have ew : ∀ a b, f_X8_waiting X a b = f_X8_waiting U a b := fun a b => (n_waiting h a b).1.trans (n_waiting h2 a b).1.symm
  have ec : ∀ a b, f_X8_calls X a b = f_X8_calls U a b := fun a b => (n_calls h a b).1.trans (n_calls h2 a b).1.symm
  have eb : ∀ a b, f_X8_slot X a b = f_X8_slot U a b := fun a b => (n_slot h a b).1.trans (n_slot h2 a b).1.symm
  have et : ∀ a b, f_X8_ticket X a b = f_X8_ticket U a b := fun a b => (n_ticket h a b).1.trans (n_ticket h2 a b).1.symm
  have ed : ∀ a b, f_X8_ordered X a b = f_X8_ordered U a b := fun a b => (n_ordered h a b).1.trans (n_ordered h2 a b).1.symm
  have ev : ∀ a b, f_X8_event X a b = f_X8_event U a b := fun a b => (n_event h a b).1.trans (n_event h2 a b).1.symm
  unfold f_L_state
  exact g_state_6 eo 2147483648 _ _ _ _ (fun _ _ => g_state_31 el es ew ec eb 2147483648 _ _ _ _ (fun _ _ => g_state_116 (eo 1 (by decide) (by decide)) et 2147483648 _ _ _ _ (fun _ _ => g_state_154 (eo 17 (by decide) (by decide)) ed 2147483648 _ _ _ _ (fun _ _ => g_state_193 ev 2147483648 _ _ _ _ (fun _ _ => rfl)))))
/-- the states of now agree -/
def Nw (X X' : gM) : Prop := ∀ c j, c < 123 → vw 0 X' c j = vw 0 X c j
theorem Nw.st {X X' : gM} (h : Nw X X') (hI : Iv X) : f_L_state X' = f_L_state X := by
  obtain ⟨Y, hR⟩ := hI
  exact g_state (Y := Y) (hR.1.cg h (fun _ _ => rfl)) hR.1
end STATEQ
