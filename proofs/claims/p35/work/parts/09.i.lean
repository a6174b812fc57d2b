/-! the start: a new object and a new reference -/
section START
variable {X Y : gM}
/-- the row of a new reference -/
def r0 (i : Nat) : Int32 := if i = 6 then 10 else if i = 7 then 3 else if i = 10 ∨ i = 18 then 8 else if 26 ≤ i ∧ i < 74 then (-5) else 0
theorem SS_start {r : Nat → Int32} (hP : ∀ i, i < 974 → zp i = true → X (zc i) (zf i) = r0 i) (h1 : X 33 1 = 0) (h2 : X 33 2 = 0) (hr : ∀ i, i < 974 → r i = r0 i) : SS X r 0 0 (fun _ => 8) (fun _ => 0) (fun _ => 0) := by
  refine ⟨fun i hi _ => ?_, fun t ht => absurd ht (by omega), ⟨0, 0, by omega, by omega, h1, ?_, h2, fun b _ hb => absurd hb (by omega)⟩, ⟨?_, by omega⟩, ⟨?_, by omega⟩, fun l hl => ?_, fun l n _ hn => absurd hn (Nat.not_lt_zero n), fun l n k hl hn hk => ?_, fun o ho => absurd ho (by omega), fun t ht => absurd ht (by omega), fun l k hl hk => Or.inl ?_⟩
  · rw [hP i (z_lt hi) hi, hr i (z_lt hi)]
  · rw [hr 9 (by omega)]
    decide +kernel
  · rw [hr 1 (by omega)]
    decide +kernel
  · rw [hr 2 (by omega)]
    decide +kernel
  · unfold InvL
    rw [hr _ (by omega), hr _ (by omega), hr _ (by omega)]
    rcases (show l = 0 ∨ l = 1 by omega) with rfl | rfl
    · exact ⟨⟨by decide +kernel, by decide, by decide⟩, ⟨by decide +kernel, by decide⟩, by decide +kernel, by decide⟩
    · exact ⟨⟨by decide +kernel, by decide, by decide⟩, ⟨by decide +kernel, by decide⟩, by decide +kernel, by decide⟩
  · rw [hr _ (by omega)]
    have z : r0 (74 + 10 * (6 * l + n) + 6 + k) = 0 := by
      unfold r0
      rw [if_neg (by omega), if_neg (by omega), if_neg (by omega), if_neg (by omega)]
    rw [z]
    exact ⟨by decide, fun _ => rfl⟩
  · rw [hr _ (by omega)]
    unfold r0
    rw [if_neg (by omega), if_neg (by omega), if_neg (by omega), if_pos (by omega)]
theorem Rl_start (hP : ∀ i, i < 974 → zp i = true → vw 0 X (zc i) (zf i) = r0 i) (h1 : vw 0 X 33 1 = 0) (h2 : vw 0 X 33 2 = 0) (hr : ∀ i, i < 974 → Y 1 i = r0 i) (x6 : X 0 6 = 0) (x7 : X 0 7 = 0) (x370 : ∀ j, j < 4 → X 370 j = nI (3 + j)) (xt : X 371 2 = 0) (y2 : Y 0 2 = 0) (y4 : Y 0 4 = 0) (y7 : Y 0 7 = 0) : Rl X Y := by
  have e : ∀ j, j < 4 → hp X j = 3 + j := fun j hj => by
    unfold hp
    rw [x370 j hj]
    exact c1 (by omega)
  refine ⟨(SS_start hP h1 h2 hr).se, ⟨0, by omega, x6, y2, fun k hk => absurd hk (by omega)⟩, fun j hj => ⟨?_, ?_, fun j' hj' hh => ?_⟩, Or.inl ⟨x7, y4⟩, 0, by omega, xt, y7, fun k hk => absurd hk (by omega)⟩
  · rw [e j hj]
    omega
  · rw [e j hj]
    omega
  · rw [e j hj, e j' hj'] at hh
    omega
end START
