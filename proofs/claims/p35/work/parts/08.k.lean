/-! a station is served, a line is served: both sides -/
theorem upd_swap {f : Nat → Int32} {i j : Nat} (h : i ≠ j) {x y : Int32} : upd (upd f i x) j y = upd (upd f j y) i x := by
  funext k
  by_cases h1 : k = i
  · subst h1
    rw [pk_un h, pk_us, pk_us]
  · rw [pk_un h1]
    exact upd_cg (pk_un h1)
theorem updM_tw {X : gM} {c j : Nat} {v w : Int32} : updM (updM X c j v) c j w = updM X c j w := by
  funext a b
  by_cases h : a = c
  · subst h
    by_cases h2 : b = j
    · subst h2
      rw [updM_ss, updM_ss]
    · rw [updM_sn h2, updM_sn h2, updM_sn h2]
  · rw [updM_n h, updM_n h, updM_n h]
theorem AR.tr {Y : gM} {r r2 r3 : Nat → Int32} {tc tc2 tc3 : Nat} {v w : Int32} (h : AR Y r tc v r2 tc2) (h2 : AR (updM Y 0 8 v) r2 tc2 w r3 tc3) : AR Y r tc w r3 tc3 := by
  obtain ⟨d, a1, a2⟩ := h
  obtain ⟨e, b1, b2⟩ := h2
  refine ⟨d + e, by omega, ?_⟩
  rw [b2, updM_ss, a2, Int32.add_assoc, nI_add]
theorem AR.cn {Y : gM} {r r2 r3 : Nat → Int32} {tc tc2 tc3 : Nat} {v : Int32} (h : AR Y r tc v r2 tc2) (h2 : cn (bSt r3 3) tc3 = cn (bSt r2 3) tc2) : AR Y r tc v r3 tc3 := by
  obtain ⟨d, a1, a2⟩ := h
  exact ⟨d, by omega, a2⟩
section STAT
variable {X Y : gM} {r : Nat → Int32} {tc oc : Nat} {sl ph mn : Nat → Nat} {l n t k u : Nat}
theorem rBoard_6 (hl : l < 2) (hk : k < 24) (hn : n < 6) {w : Nat} : rBoard r u l n k (294 + 17 * w + 6) = if w = u then 1 else r (294 + 17 * w + 6) := by
  unfold rBoard
  by_cases h : w = u
  · subst h
    rw [if_pos rfl]
    simp (disch := omega) only [rLog_o, pk_us, pk_un]
  · rw [if_neg h]
    simp (disch := omega) only [rLog_o, pk_us, pk_un]
def rShove (r : Nat → Int32) (t l n k u : Nat) : Nat → Int32 := rLog (upd (upd (rOut r r t l n k 5) (294 + 17 * t + 13) (nI u)) (74 + 10 * (6 * l + n) + 4) (r (74 + 10 * (6 * l + n) + 4) + 1)) 5 (nI t) (nI l) (nI (10 * l + n))
theorem rp_shoves (hl : l < 2) (hn : n < 6) (hk : k < 24) (ht : t < 40) (h6 : r (294 + 17 * t + 6) = 1) (h7 : r (294 + 17 * t + 7) = nI l) (h8 : r (294 + 17 * t + 8) = nI k) : p_X9_shoves (sR Y r) (nI t) (nI u) (nI (10 * l + n)) = sR Y (rShove r t l n k u) ∧ ok_X9_shoves (sR Y r) (nI t) (nI u) (nI (10 * l + n)) := by
  have v5 : f_X9_of (sR Y r) (nI t) 5 = r (294 + 17 * t + 5) := rf_of5 ht
  obtain ⟨b1, b2⟩ := rp_ends (Y := Y) (z := 5) (st := nI (10 * l + n)) (m := r (294 + 17 * t + 5)) ht hl hk h6 h7 h8
  have e : rEndC (rRise r t l k) t 5 (nI (10 * l + n)) (r (294 + 17 * t + 5)) r = rOut r r t l n k 5 := rfl
  rw [e] at b1
  have e4 : upd (rOut r r t l n k 5) (294 + 17 * t + 13) (nI u) (74 + 10 * (6 * l + n) + 4) = r (74 + 10 * (6 * l + n) + 4) := by
    unfold rOut
    simp (disch := omega) only [rEndC, rRise, pk_un]
  constructor
  · unfold p_X9_shoves
    simp only [v5, b1, rp_put13 ht, sR_u1, sR_1, st_at hl hn, iS4 (show 74 + 10 * (6 * l + n) < 2000 by omega), rp_logs, st_div hl (show n < 10 by omega), e4]
    rfl
  · unfold ok_X9_shoves
    rw [v5, b1]
    refine ⟨ro_of5 ht, b2, fun X1 _ => ⟨ro_put13 ht, fun X2 _ => ⟨?_, ?_, fun X3 _ => ⟨ro_logs, trivial⟩⟩⟩⟩
    · rw [st_at hl hn]
      exact vS4 (by omega)
    · rw [st_at hl hn]
      exact vS4 (by omega)
theorem shove_sim (h : SS X r tc oc sl ph mn) (hl : l < 2) (hn : n < mn l) (ht : t < tc) (hk : k < sl l) (hse : r (26 + 24 * l + k) = nI t) (hu : u < tc) (h0 : r (294 + 17 * u + 6) = 0 ∨ r (294 + 17 * u + 6) = 2) :
    SS (p_X3_board (p_X3_putOut (updM (updM X (1 + 15 * l + 2 + 1 + 2 * n) 9 (X (1 + 15 * l + 2 + 1 + 2 * n) 9 + 1)) (35 + 2 * t) 11 (nI u)) (35 + 2 * t) (1 + 15 * l + 2 + 1 + 2 * n) 5 5) (35 + 2 * u) (1 + 15 * l) (1 + 15 * l + 2 + 1 + 2 * n) (nI k)) (rBoard (rShove r t l n k u) u l n k) tc oc sl ph mn ∧ cn (bSt (rBoard (rShove r t l n k u) u l n k) 3) tc = cn (bSt r 3) tc := by
  have h40 := h.tc4
  have ht4 : t < 40 := by omega
  have hn6 : n < 6 := Nat.lt_of_lt_of_le hn (h.mn6 hl)
  have hk24 : k < 24 := Nat.lt_of_lt_of_le hk (h.lin hl).1.2.2
  obtain ⟨f6, f7, f8⟩ := seat_f h hl hk24 ht hse
  obtain ⟨hPS, hOn, hLg, hInv⟩ := h
  have hut : u ≠ t := by
    rintro rfl
    rw [f6] at h0
    exact absurd h0 (by decide)
  have g9 : X (1 + 15 * l + 2 + 1 + 2 * n) 9 = r (74 + 10 * (6 * l + n) + 4) := hPS.g (LS4 hl hn6)
  have hS := ev_out (X := updM (updM X (1 + 15 * l + 2 + 1 + 2 * n) 9 (X (1 + 15 * l + 2 + 1 + 2 * n) 9 + 1)) (35 + 2 * t) 11 (nI u)) (r := upd (upd r (74 + 10 * (6 * l + n) + 4) (r (74 + 10 * (6 * l + n) + 4) + 1)) (294 + 17 * t + 13) (nI u)) (r0 := upd (upd r (74 + 10 * (6 * l + n) + 4) (r (74 + 10 * (6 * l + n) + 4) + 1)) (294 + 17 * t + 13) (nI u)) (tc := tc) (oc := oc) (sl := sl) (ph := ph) (mn := mn) (z := 5) (l := l) (n := n) (t := t) (k := k)
    (PS.set (LT13 ht4) pk_us (PS.set (LS4 hl hn6) (by rw [pk_un (by omega), pk_us, g9]) (PS.rset (by simp) (PS.rset (by simp) hPS.w0))))
    (fun w hw h1 => by
      rw [updM_sn', updM_sn', pk_un (by omega), pk_un (by omega), pk_un (by omega), pk_un (by omega)]
      rw [pk_un (by omega), pk_un (by omega)] at h1
      exact hOn w hw h1)
    (hLg.same (fun j => by rw [updM_n (by omega), updM_n (by omega)]) (fun j => by rw [updM_n (by omega), updM_n (by omega)]) (fun i hi => by rw [pk_un (by omega), pk_un (by omega)]))
    (hInv.same (fun i hi => by rw [pk_un (nz hi (yT13 ht4)), pk_un (nz hi (yS4 hl hn6))])) (fun i hi => rfl) hl hn ht hk24 (by rw [pk_un (by omega), pk_un (by omega), hse]) (by decide) (by decide) 5
  have er : rLog (rOut (upd (upd r (74 + 10 * (6 * l + n) + 4) (r (74 + 10 * (6 * l + n) + 4) + 1)) (294 + 17 * t + 13) (nI u)) (upd (upd r (74 + 10 * (6 * l + n) + 4) (r (74 + 10 * (6 * l + n) + 4) + 1)) (294 + 17 * t + 13) (nI u)) t l n k (nI 5)) 5 (nI t) (nI l) (nI (10 * l + n)) = rShove r t l n k u := by
    rw [rOut_upd (by omega) (by omega) (by omega) (by omega) (by omega) (by omega) (by omega) (by omega) (by omega) (by omega), rOut_upd (by omega) (by omega) (by omega) (by omega) (by omega) (by omega) (by omega) (by omega) (by omega) (by omega), upd_swap (by omega)]
    rfl
  rw [er] at hS
  have s6 : ∀ w, rShove r t l n k u (294 + 17 * w + 6) = if w = t then 5 else r (294 + 17 * w + 6) := by
    intro w
    unfold rShove
    rw [rLog_o (by omega), pk_un (by omega), pk_un (by omega), rOut_6 hl hk24]
  have ss : rShove r t l n k u (26 + 24 * l + k) = (-5) := by
    unfold rShove
    rw [rLog_o (by omega), pk_un (by omega), pk_un (by omega), rOut_s hl hk24]
  rw [setR_c hk24] at hS
  obtain ⟨sP, sO, sL, sI⟩ := hS
  refine ⟨ev_board (sP.unset (LE hl hk24)) (fun w hw h1 => ?_) (sL.same (fun j => ?_) (fun j => ?_) (fun _ _ => rfl)) sI hl hn hu hk ss ?_, ?_⟩
  · have := sO w hw h1
    rw [updM_n (by omega)] at this
    exact this
  · exact (updM_n (by omega)).symm
  · exact (updM_n (by omega)).symm
  · rw [s6, if_neg hut]
    exact h0
  · refine cn_cong tc (fun w hw => ?_)
    unfold bSt
    rw [rBoard_6 hl hk24 hn6, s6]
    by_cases h1 : w = u
    · subst h1
      rw [if_pos rfl]
      rcases h0 with h0 | h0 <;> rw [h0] <;> decide
    · rw [if_neg h1]
      by_cases h2 : w = t
      · subst h2
        rw [if_pos rfl, f6]
        decide
      · rw [if_neg h2]
theorem cn_board (hl : l < 2) (hk : k < 24) (hn : n < 6) (h0 : r (294 + 17 * u + 6) = 0 ∨ r (294 + 17 * u + 6) = 2) : cn (bSt (rBoard r u l n k) 3) tc = cn (bSt r 3) tc := by
  refine cn_cong tc (fun w hw => ?_)
  unfold bSt
  rw [rBoard_6 hl hk hn]
  by_cases h1 : w = u
  · subst h1
    rw [if_pos rfl]
    rcases h0 with h0 | h0 <;> rw [h0] <;> decide
  · rw [if_neg h1]
theorem station_sim (h : SS X r tc oc sl ph mn) (hl : l < 2) (hn : n < mn l) : ∃ r2 v, p_X9_goStation (sR Y r) (nI (10 * l + n)) = sR (updM Y 0 8 v) r2 ∧ SS (p_X3_serveStation X (1 + 15 * l) (1 + 15 * l + 2 + 1 + 2 * n)) r2 tc oc sl ph mn ∧ AR Y r tc v r2 tc ∧ ok_X9_goStation (sR Y r) (nI (10 * l + n)) := by
  have h40 := h.tc4
  have hn6 : n < 6 := Nat.lt_of_lt_of_le hn (h.mn6 hl)
  obtain ⟨k, hk, s1, s2, s3⟩ := slot_sim (Y := Y) h hl hn
  have hk24 : k < 24 := Nat.lt_of_lt_of_le hk (h.lin hl).1.2.2
  have hPS := h.1
  have h1 : X 0 5 = nI tc := by rw [hPS.g LK1, h.r1]
  have gs : X (1 + 15 * l + 1) k = r (26 + 24 * l + k) := hPS.g (LE hl hk24)
  have rs : ∀ (Y : gM) (r : Nat → Int32), f_X9_seat (sR Y r) (nI l) (nI k) = r (26 + 24 * l + k) := fun Y r => rf_seat hl hk24
  unfold p_X3_serveStation p_X9_goStation ok_X9_goStation
  rw [s1, s2, st_div hl (by omega), riderIn_n hk24, gs, rs]
  dsimp only
  rcases h.sea hl hk24 with he | ⟨t, ht, hse, -⟩
  · obtain ⟨hR, hok⟩ := next_sim (Y := Y) h hl hn
    rw [he, ticketOf_5, if_pos rfl, if_pos rfl]
    simp only [gOpt]
    rcases hR with ⟨q1, q2⟩ | ⟨u, u1, u2, u3, u4⟩
    · rw [q1, q2, if_pos rfl, if_pos rfl]
      exact ⟨r, Y 0 8, by rw [updM_id], h, AR.same rfl, s3, ro_seat hl hk24, hok, trivial⟩
    · have hu4 : u < 40 := by omega
      have h0 : r (294 + 17 * u + 6) = 0 ∨ r (294 + 17 * u + 6) = 2 := by simpa using u2
      obtain ⟨b1, b2⟩ := rp_boards (Y := Y) (r := r) hl hn6 hk24 hu4
      rw [u3, u4, if_neg (nI_n5 (by omega)), if_neg (nI_n5 (by omega)), b1]
      exact ⟨rBoard r u l n k, Y 0 8, by rw [updM_id], ev_board hPS.w0 h.2.1 h.2.2.1 h.2.2.2 hl hn u1 hk he h0, AR.same (cn_board hl hk24 hn6 h0), s3, ro_seat hl hk24, hok, ro_seat hl hk24, b2, trivial⟩
  · have ht4 : t < 40 := by omega
    have hn5 : ¬ nI t = (-5) := nI_n5 (by omega)
    obtain ⟨⟨r2, v, c1', c2', c3'⟩, cok⟩ := comesTo_sim (Y := Y) h hl hn ht hk24 hse
    rw [hse, ticketOf_n h1 h40 ht, if_neg hn5, if_neg hn5]
    simp only [gOpt]
    generalize hg : p_X3_getsOff X (35 + 2 * t) (1 + 15 * l + 2 + 1 + 2 * n) = G at c3' ⊢
    rw [c1']
    rcases c3' with ⟨d1, d2, d3⟩ | ⟨d1, d2, d3⟩
    · rw [d1, if_pos rfl]
      obtain ⟨hR, hok⟩ := next_sim (Y := updM Y 0 8 v) d2 hl hn
      rcases hR with ⟨q1, q2⟩ | ⟨u, u1, u2, u3, u4⟩
      · rw [q1, q2, if_pos rfl]
        refine ⟨r2, v, rfl, d2, c2', s3, ro_seat hl hk24, ro_seat hl hk24, cok, fun X2 e2 => ?_⟩
        subst e2
        rw [q2, if_pos rfl]
        exact ⟨hok, trivial⟩
      · have hu4 : u < 40 := by omega
        have h0 : r2 (294 + 17 * u + 6) = 0 ∨ r2 (294 + 17 * u + 6) = 2 := by simpa using u2
        obtain ⟨f6, f7, f8⟩ := seat_f d2 hl hk24 ht d3
        have o1 : f_X9_of (sR (updM Y 0 8 v) r2) (nI u) 1 = r2 (294 + 17 * u + 1) := rf_of1 hu4
        have o2 : f_X9_of (sR (updM Y 0 8 v) r2) (nI t) 1 = r2 (294 + 17 * t + 1) := rf_of1 ht4
        have o3 : f_X9_of (sR (updM Y 0 8 v) r2) (nI u) 15 = r2 (294 + 17 * u + 15) := rf_of15 hu4
        have y1 : sR (updM Y 0 8 v) r2 1 0 = r2 0 := rfl
        have y2 : sR (updM Y 0 8 v) r2 1 7 = r2 7 := rfl
        have esh : f_X3_shoves G.2 (35 + 2 * u) (35 + 2 * t) = if r2 (294 + 17 * u + 1) ≤ r2 (294 + 17 * t + 1) then 0 else if r2 0 - r2 (294 + 17 * u + 15) < r2 7 then 0 else 1 := by
          unfold f_X3_shoves
          rw [d2.1.g (LT1 hu4), d2.1.g (LT1 ht4), d2.1.g LK0, d2.1.g LK7, d2.1.g (LT15 hu4)]
        have ok0 : ∀ P : Prop, (∀ X2 : gM, X2 = sR (updM Y 0 8 v) r2 → P) → P := fun P hP => hP _ rfl
        rw [u3, u4, if_neg (nI_n5 (by omega)), rs, d3, if_neg hn5, o1, o2, o3, y1, y2]
        dsimp only
        by_cases e1 : r2 (294 + 17 * u + 1) ≤ r2 (294 + 17 * t + 1)
        · rw [if_pos e1] at esh
          rw [esh, if_pos rfl, if_pos e1]
          refine ⟨r2, v, rfl, d2, c2', s3, ro_seat hl hk24, ro_seat hl hk24, cok, fun X2 e2 => ?_⟩
          subst e2
          rw [u4, if_neg (nI_n5 (by omega)), rs, d3, if_neg hn5, o1, o2, if_pos e1]
          exact ⟨hok, ro_seat hl hk24, ro_of1 hu4, ro_of1 ht4, trivial⟩
        · rw [if_neg e1] at esh
          rw [if_neg e1]
          by_cases e3 : r2 0 - r2 (294 + 17 * u + 15) < r2 7
          · rw [if_pos e3] at esh
            rw [esh, if_pos rfl, if_pos e3]
            refine ⟨r2, v, rfl, d2, c2', s3, ro_seat hl hk24, ro_seat hl hk24, cok, fun X2 e2 => ?_⟩
            subst e2
            rw [u4, if_neg (nI_n5 (by omega)), rs, d3, if_neg hn5, o1, o2, if_neg e1, o3, y1, y2, if_pos e3]
            exact ⟨hok, ro_seat hl hk24, ro_of1 hu4, ro_of1 ht4, ro_of15 hu4, trivial⟩
          · rw [if_neg e3] at esh
            rw [esh, if_neg (show ¬ (1 : Int32) = 0 by decide), if_neg e3, nT_tic]
            obtain ⟨p1, p2⟩ := rp_shoves (Y := updM Y 0 8 v) (u := u) hl hn6 hk24 ht4 f6 f7 f8
            obtain ⟨b1, b2⟩ := rp_boards (Y := updM Y 0 8 v) (r := rShove r2 t l n k u) hl hn6 hk24 hu4
            obtain ⟨v1, v2⟩ := shove_sim d2 hl hn ht hk d3 u1 h0
            rw [p1, b1]
            refine ⟨_, v, rfl, v1, c2'.cn v2, s3, ro_seat hl hk24, ro_seat hl hk24, cok, fun X2 e2 => ?_⟩
            subst e2
            rw [u4, if_neg (nI_n5 (by omega)), rs, d3, if_neg hn5, o1, o2, if_neg e1, o3, y1, y2, if_neg e3, p1]
            refine ⟨hok, ro_seat hl hk24, ro_of1 hu4, ro_of1 ht4, ro_of15 hu4, p2, fun X3 e3' => ?_⟩
            subst e3'
            exact ⟨b2, trivial⟩
    · rw [d1, if_neg (show ¬ (1 : Int32) = 0 by decide)]
      obtain ⟨hR, hok⟩ := next_sim (Y := updM Y 0 8 v) d2 hl hn
      rcases hR with ⟨q1, q2⟩ | ⟨u, u1, u2, u3, u4⟩
      · rw [q1, q2, if_pos rfl]
        refine ⟨r2, v, rfl, d2, c2', s3, ro_seat hl hk24, ro_seat hl hk24, cok, fun X2 e2 => ?_⟩
        subst e2
        rw [q2, if_pos rfl]
        exact ⟨hok, trivial⟩
      · have hu4 : u < 40 := by omega
        have h0 : r2 (294 + 17 * u + 6) = 0 ∨ r2 (294 + 17 * u + 6) = 2 := by simpa using u2
        obtain ⟨b1, b2⟩ := rp_boards (Y := updM Y 0 8 v) (r := r2) hl hn6 hk24 hu4
        rw [u3, u4, if_neg (nI_n5 (by omega)), rs, d3, if_pos rfl, b1]
        refine ⟨_, v, rfl, ev_board d2.1.w0 d2.2.1 d2.2.2.1 d2.2.2.2 hl hn u1 hk d3 h0, c2'.cn (cn_board hl hk24 hn6 h0), s3, ro_seat hl hk24, ro_seat hl hk24, cok, fun X2 e2 => ?_⟩
        subst e2
        rw [u4, if_neg (nI_n5 (by omega)), rs, d3, if_pos rfl]
        exact ⟨hok, ro_seat hl hk24, b2, trivial⟩
end STAT
