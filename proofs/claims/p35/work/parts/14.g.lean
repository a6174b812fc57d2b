/-! calls that are no good: what they answer, that nothing changes -/
theorem SimQ.e {f : gM → Int32} (hf : SimQ f) {X U : gM} (h : Ev X U) : f X = f U := by
  obtain ⟨Y, hX, hU⟩ := h
  exact hf X U Y hX hU
theorem r_of {f : gM → Int32 × gM} (hf : SimF f) {X U : gM} {v : Int32} {k : Bool} (hE : Ev X U) (hs : (f X).1 = v → Sm X (f X).2) (hk : stN (f U) v k = true) : (f X).1 = v ∧ Sm X (f X).2 ∧ k = true := by
  obtain ⟨e, -⟩ := hf.ev hE
  unfold stN at hk
  rw [Bool.and_eq_true, decide_eq_true_eq] at hk
  have e1 : (f X).1 = v := by rw [e, hk.1]
  exact ⟨e1, hs e1, hk.2⟩
theorem r_build {X U : gM} {a1 a2 v : Int32} {k : Bool} (hE : Ev X U) (hK : Kv (vw 0 U)) (hv : v < 0) (hk : stN (p_X8_build U a1 a2) v k = true) : (p_X8_build X a1 a2).1 = v ∧ Sm X (p_X8_build X a1 a2).2 ∧ k = true := r_of (sf_build a1 a2) hE (fun e => (act_build hE.iv a1 a2).neg (by rw [show (p_X8_build X a1 a2).1 = v from e]; exact hv)) hk
theorem r_addStation {X U : gM} {a1 a2 v : Int32} {k : Bool} (hE : Ev X U) (hK : Kv (vw 0 U)) (hv : v < 0) (hk : stN (p_X8_addStation U a1 a2) v k = true) : (p_X8_addStation X a1 a2).1 = v ∧ Sm X (p_X8_addStation X a1 a2).2 ∧ k = true := r_of (sf_addStation a1 a2) hE (fun e => (act_addStation hE.iv a1 a2).neg (by rw [show (p_X8_addStation X a1 a2).1 = v from e]; exact hv)) hk
theorem r_setHeat {X U : gM} {a1 a2 v : Int32} {k : Bool} (hE : Ev X U) (hK : Kv (vw 0 U)) (hv : v < 0) (hk : stN (p_X8_setHeat U a1 a2) v k = true) : (p_X8_setHeat X a1 a2).1 = v ∧ Sm X (p_X8_setHeat X a1 a2).2 ∧ k = true := r_of (sf_setHeat a1 a2) hE (fun e => (act_setHeat hE.iv (hK.ev hE) a1 a2).neg (by rw [show (p_X8_setHeat X a1 a2).1 = v from e]; exact hv)) hk
theorem r_setFare {X U : gM} {a1 v : Int32} {k : Bool} (hE : Ev X U) (hK : Kv (vw 0 U)) (hv : v < 0) (hk : stN (p_X8_setFare U a1) v k = true) : (p_X8_setFare X a1).1 = v ∧ Sm X (p_X8_setFare X a1).2 ∧ k = true := r_of (sf_setFare a1) hE (fun e => (act_setFare hE.iv (hK.ev hE) a1).neg (by rw [show (p_X8_setFare X a1).1 = v from e]; exact hv)) hk
theorem r_setPatience {X U : gM} {a1 v : Int32} {k : Bool} (hE : Ev X U) (hK : Kv (vw 0 U)) (hv : v < 0) (hk : stN (p_X8_setPatience U a1) v k = true) : (p_X8_setPatience X a1).1 = v ∧ Sm X (p_X8_setPatience X a1).2 ∧ k = true := r_of (sf_setPatience a1) hE (fun e => (act_setPatience hE.iv (hK.ev hE) a1).neg (by rw [show (p_X8_setPatience X a1).1 = v from e]; exact hv)) hk
theorem r_drain {X U : gM} {a1 v : Int32} {k : Bool} (hE : Ev X U) (hK : Kv (vw 0 U)) (hv : v < 0) (hk : stN (p_X8_drain U a1) v k = true) : (p_X8_drain X a1).1 = v ∧ Sm X (p_X8_drain X a1).2 ∧ k = true := r_of (sf_drain a1) hE (fun e => (act_drain hE.iv a1).neg (by rw [show (p_X8_drain X a1).1 = v from e]; exact hv)) hk
theorem r_book {X U : gM} {a1 a2 a3 a4 a5 v : Int32} {k : Bool} (hE : Ev X U) (hK : Kv (vw 0 U)) (hv : v < 0) (hk : stN (p_X8_book U a1 a2 a3 a4 a5) v k = true) : (p_X8_book X a1 a2 a3 a4 a5).1 = v ∧ Sm X (p_X8_book X a1 a2 a3 a4 a5).2 ∧ k = true := r_of (sf_book a1 a2 a3 a4 a5) hE (fun e => (act_book hE.iv a1 a2 a3 a4 a5).neg (by rw [show (p_X8_book X a1 a2 a3 a4 a5).1 = v from e]; exact hv)) hk
theorem r_cancel {X U : gM} {a1 v : Int32} {k : Bool} (hE : Ev X U) (hK : Kv (vw 0 U)) (hv : v < 0) (hk : stN (p_X8_cancel U a1) v k = true) : (p_X8_cancel X a1).1 = v ∧ Sm X (p_X8_cancel X a1).2 ∧ k = true := r_of (sf_cancel a1) hE (fun e => (act_cancel hE.iv (hK.ev hE) a1).neg (by rw [show (p_X8_cancel X a1).1 = v from e]; exact hv)) hk
theorem r_call {X U : gM} {a1 a2 v : Int32} {k : Bool} (hE : Ev X U) (hK : Kv (vw 0 U)) (hv : v < 0) (hk : stN (p_X8_call U a1 a2) v k = true) : (p_X8_call X a1 a2).1 = v ∧ Sm X (p_X8_call X a1 a2).2 ∧ k = true := r_of (sf_call a1 a2) hE (fun e => (act_call hE.iv a1 a2).neg (by rw [show (p_X8_call X a1 a2).1 = v from e]; exact hv)) hk
theorem r_callBack {X U : gM} {a1 v : Int32} {k : Bool} (hE : Ev X U) (hK : Kv (vw 0 U)) (hv : v < 0) (hk : stN (p_X8_callBack U a1) v k = true) : (p_X8_callBack X a1).1 = v ∧ Sm X (p_X8_callBack X a1).2 ∧ k = true := r_of (sf_callBack a1) hE (fun e => (act_callBack hE.iv (hK.ev hE) a1).neg (by rw [show (p_X8_callBack X a1).1 = v from e]; exact hv)) hk
theorem r_order {X U : gM} {a1 a2 v : Int32} {k : Bool} (hE : Ev X U) (hK : Kv (vw 0 U)) (hv : v < 0) (hk : stN (p_X8_order U a1 a2) v k = true) : (p_X8_order X a1 a2).1 = v ∧ Sm X (p_X8_order X a1 a2).2 ∧ k = true := r_of (sf_order a1 a2) hE (fun e => (act_order hE.iv a1 a2).neg (by rw [show (p_X8_order X a1 a2).1 = v from e]; exact hv)) hk
theorem r_endOrder {X U : gM} {a1 v : Int32} {k : Bool} (hE : Ev X U) (hK : Kv (vw 0 U)) (hv : v < 0) (hk : stN (p_X8_endOrder U a1) v k = true) : (p_X8_endOrder X a1).1 = v ∧ Sm X (p_X8_endOrder X a1).2 ∧ k = true := r_of (sf_endOrder a1) hE (fun e => (act_endOrder hE.iv (hK.ev hE) a1).neg (by rw [show (p_X8_endOrder X a1).1 = v from e]; exact hv)) hk
theorem r_tick {X U : gM} {a1 v : Int32} {k : Bool} (hE : Ev X U) (hK : Kv (vw 0 U)) (hv : v < 0) (hk : stN (p_X8_tick U a1) v k = true) : (p_X8_tick X a1).1 = v ∧ Sm X (p_X8_tick X a1).2 ∧ k = true := r_of (sf_tick a1) hE (fun e => (act_tick hE.iv a1).neg (by rw [show (p_X8_tick X a1).1 = v from e]; exact hv)) hk
theorem r_slotIn {X U : gM} {a1 a2 v : Int32} {k : Bool} (hE : Ev X U) (hk : stN (p_X8_slotIn U a1 a2) v k = true) : (p_X8_slotIn X a1 a2).1 = v ∧ Sm X (p_X8_slotIn X a1 a2).2 ∧ k = true := r_of (sf_slotIn a1 a2) hE (fun _ => sm_slotIn a1 a2) hk
theorem r_lapsNeeded {X U : gM} {a1 a2 v : Int32} {k : Bool} (hE : Ev X U) (hk : stN (p_X8_lapsNeeded U a1 a2) v k = true) : (p_X8_lapsNeeded X a1 a2).1 = v ∧ Sm X (p_X8_lapsNeeded X a1 a2).2 ∧ k = true := r_of (sf_lapsNeeded a1 a2) hE (fun _ => sm_laps a1 a2) hk
theorem r_fate {X U : gM} {a1 a2 v : Int32} {k : Bool} (hE : Ev X U) (hk : stN (p_X8_fate U a1 a2) v k = true) : (p_X8_fate X a1 a2).1 = v ∧ Sm X (p_X8_fate X a1 a2).2 ∧ k = true := r_of (sf_fate a1 a2) hE (fun _ => sm_fate a1 a2) hk
def rfW (X : gM) : Int64 := f_L_mixed (f_L_mixed (f_L_state X) (Int32.toInt64 (f_X8_count X 19))) (Int32.toInt64 (f_X8_count X 20))
theorem rw_same {X X9 : gM} (hm : Sm X X9) (hI : Iv X) : rfW X9 = rfW X := by
  unfold rfW
  rw [count19, count19, count20, count20, Nw.st hm.1 hI, hm.2.2.1]
  unfold vx
  rw [hm.2.2.2.2]
def refS_0a (U : gM) (n1 m0 s0 n17 c15 c16 h3 : Int32) : Bool := stN (p_X8_build U 2 1) (-1) (
stN (p_X8_addStation U 2 (-1)) (-1) (
stN (p_X8_setHeat U 2 11) (-1) (
stN (p_X8_drain U 2) (-1) (
stQ (f_X8_line U 2 9) (-1) (
stQ (f_X8_slot U 2 (-1)) (-1) (
true))))))
def refS_0b (U : gM) (n1 m0 s0 n17 c15 c16 h3 : Int32) : Bool := stN (p_X8_build U 0 25) (-2) (
stN (p_X8_addStation U 0 s0) (-2) (
stN (p_X8_setHeat U 1 11) (-2) (
stQ (f_X8_line U 0 9) (-2) (
stQ (f_X8_slot U 0 s0) (-2) (
stN (p_X8_setFare U 100) (-2) (
stN (p_X8_setPatience U 51) (-2) (
stN (p_X8_tick U 61) (-2) (
stQ (f_X8_price U 4 1) (-2) (
stQ (f_X8_price U 1 10) (-2) (
true))))))))))
def refS_0c (U : gM) (n1 m0 s0 n17 c15 c16 h3 : Int32) : Bool := stN (p_X8_call U m0 (-1)) (-1) (
stN (p_X8_callBack U m0) (-1) (
stQ (f_X8_station U m0 9) (-1) (
stQ (f_X8_waiting U m0 (-1)) (-1) (
stQ (f_X8_calls U m0 (-1)) (-1) (
stN (p_X8_slotIn U m0 301) (-1) (
stN (p_X8_book U (-1) 4 m0 m0 0) (-1) (
stN (p_X8_lapsNeeded U m0 m0) (-1) (
stN (p_X8_cancel U n1) (-1) (
stN (p_X8_order U n1 0) (-1) (
stQ (f_X8_ticket U n1 14) (-1) (
stN (p_X8_fate U n1 4) (-1) (
true))))))))))))
def refS_0d (U : gM) (n1 m0 s0 n17 c15 c16 h3 : Int32) : Bool := stN (p_X8_endOrder U n17) (-1) (
stQ (f_X8_ordered U n17 7) (-1) (
stQ (f_X8_event U (-1) 0) (-2) (
stQ (f_X8_event U 99 5) (-2) (
stQ (f_X8_count U 21) (-2) (
stQ (f_X8_event U 12 0) (-5) (
true))))))
def refS_0e (U : gM) (n1 m0 s0 n17 c15 c16 h3 : Int32) : Bool := decide (n1 ≤ 0) || (stN (p_X8_order U 0 51) (-2) (
stQ (f_X8_ticket U 0 14) (-2) (
stN (p_X8_fate U 0 4) (-2) (
true))))
def refS_0f (U : gM) (n1 m0 s0 n17 c15 c16 h3 : Int32) : Bool := decide (m0 ≤ 1) || (stN (p_X8_call U 0 65536) (-2) (
stQ (f_X8_station U 0 9) (-2) (
stQ (f_X8_waiting U 0 (-1)) (-2) (
stQ (f_X8_calls U 0 (-1)) (-2) (
stN (p_X8_slotIn U 0 301) (-2) (
true))))))
def refS_0g (U : gM) (n1 m0 s0 n17 c15 c16 h3 : Int32) : Bool := decide (m0 ≤ 1) || (stN (p_X8_book U 65536 1 0 1 1) (-2) (
stN (p_X8_book U 0 4 0 1 1) (-2) (
stN (p_X8_book U 0 1 0 1 10) (-2) (
stN (p_X8_book U 0 1 0 0 1) (-2) (
stN (p_X8_lapsNeeded U 0 0) (-2) (
true))))))
def refS_1a (U : gM) (n1 m0 s0 n17 c15 c16 h3 : Int32) : Bool := stN (p_X8_build U (-1) 1) (-1) (
stN (p_X8_addStation U (-1) (-1)) (-1) (
stN (p_X8_setHeat U (-1) 11) (-1) (
stN (p_X8_drain U (-1)) (-1) (
stQ (f_X8_line U (-1) 9) (-1) (
stQ (f_X8_slot U (-1) (-1)) (-1) (
true))))))
def refS_1b (U : gM) (n1 m0 s0 n17 c15 c16 h3 : Int32) : Bool := stN (p_X8_build U 0 1) (-2) (
stN (p_X8_addStation U 0 (-1)) (-2) (
stN (p_X8_setHeat U 1 (-11)) (-2) (
stQ (f_X8_line U 0 (-1)) (-2) (
stQ (f_X8_slot U 0 (-1)) (-2) (
stN (p_X8_setFare U 0) (-2) (
stN (p_X8_setPatience U (-1)) (-2) (
stN (p_X8_tick U 0) (-2) (
stQ (f_X8_price U 0 1) (-2) (
stQ (f_X8_price U 1 0) (-2) (
true))))))))))
def refS_1c (U : gM) (n1 m0 s0 n17 c15 c16 h3 : Int32) : Bool := stN (p_X8_call U (-1) (-1)) (-1) (
stN (p_X8_callBack U (-1)) (-1) (
stQ (f_X8_station U (-1) 9) (-1) (
stQ (f_X8_waiting U (-1) (-1)) (-1) (
stQ (f_X8_calls U (-1) (-1)) (-1) (
stN (p_X8_slotIn U (-1) 301) (-1) (
stN (p_X8_book U (-1) 4 (-1) (-1) 0) (-1) (
stN (p_X8_lapsNeeded U (-1) (-1)) (-1) (
stN (p_X8_cancel U (-1)) (-1) (
stN (p_X8_order U (-1) 0) (-1) (
stQ (f_X8_ticket U (-1) 14) (-1) (
stN (p_X8_fate U (-1) 4) (-1) (
true))))))))))))
def refS_1d (U : gM) (n1 m0 s0 n17 c15 c16 h3 : Int32) : Bool := stN (p_X8_endOrder U (-1)) (-1) (
stQ (f_X8_ordered U (-1) 7) (-1) (
stQ (f_X8_event U (-2) 0) (-2) (
stQ (f_X8_event U 99 (-1)) (-2) (
stQ (f_X8_count U (-1)) (-2) (
stQ (f_X8_event U 12 4) (-5) (
true))))))
def refS_1e (U : gM) (n1 m0 s0 n17 c15 c16 h3 : Int32) : Bool := decide (n1 ≤ 0) || (stN (p_X8_order U 0 0) (-2) (
stQ (f_X8_ticket U 0 (-1)) (-2) (
stN (p_X8_fate U 0 (-1)) (-2) (
true))))
def refS_1f (U : gM) (n1 m0 s0 n17 c15 c16 h3 : Int32) : Bool := decide (m0 ≤ 1) || (stN (p_X8_call U 0 (-1)) (-2) (
stQ (f_X8_station U 0 (-1)) (-2) (
stQ (f_X8_waiting U 0 (-2)) (-2) (
stQ (f_X8_calls U 0 (-2)) (-2) (
stN (p_X8_slotIn U 0 (-1)) (-2) (
true))))))
def refS_1g (U : gM) (n1 m0 s0 n17 c15 c16 h3 : Int32) : Bool := decide (m0 ≤ 1) || (stN (p_X8_book U (-1) 1 0 1 1) (-2) (
stN (p_X8_book U 0 0 0 1 1) (-2) (
stN (p_X8_book U 0 1 0 1 0) (-2) (
stN (p_X8_book U 0 1 1 1 1) (-2) (
stN (p_X8_lapsNeeded U 1 1) (-2) (
true))))))
def refS_z (U : gM) (n1 m0 s0 n17 c15 c16 h3 : Int32) : Bool := stN (p_X8_setFare U c15) (-5) (
stN (p_X8_setPatience U c16) (-5) (
stN (p_X8_setHeat U 0 ((h3 - 100))) (-5) (
true)))
def refC (U : gM) (n1 m0 s0 n17 c15 c16 h3 : Int32) : Bool := refS_0a U n1 m0 s0 n17 c15 c16 h3 && refS_0b U n1 m0 s0 n17 c15 c16 h3 && refS_0c U n1 m0 s0 n17 c15 c16 h3 && refS_0d U n1 m0 s0 n17 c15 c16 h3 && refS_0e U n1 m0 s0 n17 c15 c16 h3 && refS_0f U n1 m0 s0 n17 c15 c16 h3 && refS_0g U n1 m0 s0 n17 c15 c16 h3 && refS_1a U n1 m0 s0 n17 c15 c16 h3 && refS_1b U n1 m0 s0 n17 c15 c16 h3 && refS_1c U n1 m0 s0 n17 c15 c16 h3 && refS_1d U n1 m0 s0 n17 c15 c16 h3 && refS_1e U n1 m0 s0 n17 c15 c16 h3 && refS_1f U n1 m0 s0 n17 c15 c16 h3 && refS_1g U n1 m0 s0 n17 c15 c16 h3 && refS_z U n1 m0 s0 n17 c15 c16 h3
/-- what must hold of an object for refused to be true -/
def refB (U : gM) : Bool := decide (Kv (vw 0 U)) && refC U (f_X8_count U 1) (f_X8_line U 0 4) (f_X8_line U 0 0) (f_X8_count U 17) (f_X8_count U 15) (f_X8_count U 16) (f_X8_line U 0 3)
