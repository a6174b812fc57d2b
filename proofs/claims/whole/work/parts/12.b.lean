/-! every act and every question of the class is alike for all objects that stand to one reference -/
theorem sf_build (a1 a2 : Int32) : SimF (fun X => p_X8_build X a1 a2) := fun X U Y hX hU => ⟨(s_build hX a1 a2).1.trans (s_build hU a1 a2).1.symm, _, (s_build hX a1 a2).2.1, (s_build hU a1 a2).2.1⟩
theorem e_build {X U : gM} {a1 a2 : Int32} {v : Int32} {k : gM → Bool} (h : Ev X U) (hk : stA (p_X8_build U a1 a2) v k = true) : (p_X8_build X a1 a2).1 = v ∧ ∃ U', Ev (p_X8_build X a1 a2).2 U' ∧ k U' = true := stA_ev (sf_build a1 a2) h hk
theorem I_build {X : gM} (h : Iv X) (a1 a2 : Int32) : Iv (p_X8_build X a1 a2).2 := (sf_build a1 a2).iv h
theorem sf_addStation (a1 a2 : Int32) : SimF (fun X => p_X8_addStation X a1 a2) := fun X U Y hX hU => ⟨(s_addStation hX a1 a2).1.trans (s_addStation hU a1 a2).1.symm, _, (s_addStation hX a1 a2).2.1, (s_addStation hU a1 a2).2.1⟩
theorem e_addStation {X U : gM} {a1 a2 : Int32} {v : Int32} {k : gM → Bool} (h : Ev X U) (hk : stA (p_X8_addStation U a1 a2) v k = true) : (p_X8_addStation X a1 a2).1 = v ∧ ∃ U', Ev (p_X8_addStation X a1 a2).2 U' ∧ k U' = true := stA_ev (sf_addStation a1 a2) h hk
theorem I_addStation {X : gM} (h : Iv X) (a1 a2 : Int32) : Iv (p_X8_addStation X a1 a2).2 := (sf_addStation a1 a2).iv h
theorem sf_setHeat (a1 a2 : Int32) : SimF (fun X => p_X8_setHeat X a1 a2) := fun X U Y hX hU => ⟨(s_setHeat hX a1 a2).1.trans (s_setHeat hU a1 a2).1.symm, _, (s_setHeat hX a1 a2).2.1, (s_setHeat hU a1 a2).2.1⟩
theorem e_setHeat {X U : gM} {a1 a2 : Int32} {v : Int32} {k : gM → Bool} (h : Ev X U) (hk : stA (p_X8_setHeat U a1 a2) v k = true) : (p_X8_setHeat X a1 a2).1 = v ∧ ∃ U', Ev (p_X8_setHeat X a1 a2).2 U' ∧ k U' = true := stA_ev (sf_setHeat a1 a2) h hk
theorem I_setHeat {X : gM} (h : Iv X) (a1 a2 : Int32) : Iv (p_X8_setHeat X a1 a2).2 := (sf_setHeat a1 a2).iv h
theorem sf_setFare (a1 : Int32) : SimF (fun X => p_X8_setFare X a1) := fun X U Y hX hU => ⟨(s_setFare hX a1).1.trans (s_setFare hU a1).1.symm, _, (s_setFare hX a1).2.1, (s_setFare hU a1).2.1⟩
theorem e_setFare {X U : gM} {a1 : Int32} {v : Int32} {k : gM → Bool} (h : Ev X U) (hk : stA (p_X8_setFare U a1) v k = true) : (p_X8_setFare X a1).1 = v ∧ ∃ U', Ev (p_X8_setFare X a1).2 U' ∧ k U' = true := stA_ev (sf_setFare a1) h hk
theorem I_setFare {X : gM} (h : Iv X) (a1 : Int32) : Iv (p_X8_setFare X a1).2 := (sf_setFare a1).iv h
theorem sf_setPatience (a1 : Int32) : SimF (fun X => p_X8_setPatience X a1) := fun X U Y hX hU => ⟨(s_setPatience hX a1).1.trans (s_setPatience hU a1).1.symm, _, (s_setPatience hX a1).2.1, (s_setPatience hU a1).2.1⟩
theorem e_setPatience {X U : gM} {a1 : Int32} {v : Int32} {k : gM → Bool} (h : Ev X U) (hk : stA (p_X8_setPatience U a1) v k = true) : (p_X8_setPatience X a1).1 = v ∧ ∃ U', Ev (p_X8_setPatience X a1).2 U' ∧ k U' = true := stA_ev (sf_setPatience a1) h hk
theorem I_setPatience {X : gM} (h : Iv X) (a1 : Int32) : Iv (p_X8_setPatience X a1).2 := (sf_setPatience a1).iv h
theorem sf_drain (a1 : Int32) : SimF (fun X => p_X8_drain X a1) := fun X U Y hX hU => ⟨(s_drain hX a1).1.trans (s_drain hU a1).1.symm, _, (s_drain hX a1).2.1, (s_drain hU a1).2.1⟩
theorem e_drain {X U : gM} {a1 : Int32} {v : Int32} {k : gM → Bool} (h : Ev X U) (hk : stA (p_X8_drain U a1) v k = true) : (p_X8_drain X a1).1 = v ∧ ∃ U', Ev (p_X8_drain X a1).2 U' ∧ k U' = true := stA_ev (sf_drain a1) h hk
theorem I_drain {X : gM} (h : Iv X) (a1 : Int32) : Iv (p_X8_drain X a1).2 := (sf_drain a1).iv h
theorem sf_book (a1 a2 a3 a4 a5 : Int32) : SimF (fun X => p_X8_book X a1 a2 a3 a4 a5) := fun X U Y hX hU => ⟨(s_book hX a1 a2 a3 a4 a5).1.trans (s_book hU a1 a2 a3 a4 a5).1.symm, _, (s_book hX a1 a2 a3 a4 a5).2.1, (s_book hU a1 a2 a3 a4 a5).2.1⟩
theorem e_book {X U : gM} {a1 a2 a3 a4 a5 : Int32} {v : Int32} {k : gM → Bool} (h : Ev X U) (hk : stA (p_X8_book U a1 a2 a3 a4 a5) v k = true) : (p_X8_book X a1 a2 a3 a4 a5).1 = v ∧ ∃ U', Ev (p_X8_book X a1 a2 a3 a4 a5).2 U' ∧ k U' = true := stA_ev (sf_book a1 a2 a3 a4 a5) h hk
theorem I_book {X : gM} (h : Iv X) (a1 a2 a3 a4 a5 : Int32) : Iv (p_X8_book X a1 a2 a3 a4 a5).2 := (sf_book a1 a2 a3 a4 a5).iv h
theorem sf_cancel (a1 : Int32) : SimF (fun X => p_X8_cancel X a1) := fun X U Y hX hU => ⟨(s_cancel hX a1).1.trans (s_cancel hU a1).1.symm, _, (s_cancel hX a1).2.1, (s_cancel hU a1).2.1⟩
theorem e_cancel {X U : gM} {a1 : Int32} {v : Int32} {k : gM → Bool} (h : Ev X U) (hk : stA (p_X8_cancel U a1) v k = true) : (p_X8_cancel X a1).1 = v ∧ ∃ U', Ev (p_X8_cancel X a1).2 U' ∧ k U' = true := stA_ev (sf_cancel a1) h hk
theorem I_cancel {X : gM} (h : Iv X) (a1 : Int32) : Iv (p_X8_cancel X a1).2 := (sf_cancel a1).iv h
theorem sf_call (a1 a2 : Int32) : SimF (fun X => p_X8_call X a1 a2) := fun X U Y hX hU => ⟨(s_call hX a1 a2).1.trans (s_call hU a1 a2).1.symm, _, (s_call hX a1 a2).2.1, (s_call hU a1 a2).2.1⟩
theorem e_call {X U : gM} {a1 a2 : Int32} {v : Int32} {k : gM → Bool} (h : Ev X U) (hk : stA (p_X8_call U a1 a2) v k = true) : (p_X8_call X a1 a2).1 = v ∧ ∃ U', Ev (p_X8_call X a1 a2).2 U' ∧ k U' = true := stA_ev (sf_call a1 a2) h hk
theorem I_call {X : gM} (h : Iv X) (a1 a2 : Int32) : Iv (p_X8_call X a1 a2).2 := (sf_call a1 a2).iv h
theorem sf_callBack (a1 : Int32) : SimF (fun X => p_X8_callBack X a1) := fun X U Y hX hU => ⟨(s_callBack hX a1).1.trans (s_callBack hU a1).1.symm, _, (s_callBack hX a1).2.1, (s_callBack hU a1).2.1⟩
theorem e_callBack {X U : gM} {a1 : Int32} {v : Int32} {k : gM → Bool} (h : Ev X U) (hk : stA (p_X8_callBack U a1) v k = true) : (p_X8_callBack X a1).1 = v ∧ ∃ U', Ev (p_X8_callBack X a1).2 U' ∧ k U' = true := stA_ev (sf_callBack a1) h hk
theorem I_callBack {X : gM} (h : Iv X) (a1 : Int32) : Iv (p_X8_callBack X a1).2 := (sf_callBack a1).iv h
theorem sf_order (a1 a2 : Int32) : SimF (fun X => p_X8_order X a1 a2) := fun X U Y hX hU => ⟨(s_order hX a1 a2).1.trans (s_order hU a1 a2).1.symm, _, (s_order hX a1 a2).2.1, (s_order hU a1 a2).2.1⟩
theorem e_order {X U : gM} {a1 a2 : Int32} {v : Int32} {k : gM → Bool} (h : Ev X U) (hk : stA (p_X8_order U a1 a2) v k = true) : (p_X8_order X a1 a2).1 = v ∧ ∃ U', Ev (p_X8_order X a1 a2).2 U' ∧ k U' = true := stA_ev (sf_order a1 a2) h hk
theorem I_order {X : gM} (h : Iv X) (a1 a2 : Int32) : Iv (p_X8_order X a1 a2).2 := (sf_order a1 a2).iv h
theorem sf_endOrder (a1 : Int32) : SimF (fun X => p_X8_endOrder X a1) := fun X U Y hX hU => ⟨(s_endOrder hX a1).1.trans (s_endOrder hU a1).1.symm, _, (s_endOrder hX a1).2.1, (s_endOrder hU a1).2.1⟩
theorem e_endOrder {X U : gM} {a1 : Int32} {v : Int32} {k : gM → Bool} (h : Ev X U) (hk : stA (p_X8_endOrder U a1) v k = true) : (p_X8_endOrder X a1).1 = v ∧ ∃ U', Ev (p_X8_endOrder X a1).2 U' ∧ k U' = true := stA_ev (sf_endOrder a1) h hk
theorem I_endOrder {X : gM} (h : Iv X) (a1 : Int32) : Iv (p_X8_endOrder X a1).2 := (sf_endOrder a1).iv h
theorem sf_tick (a1 : Int32) : SimF (fun X => p_X8_tick X a1) := fun X U Y hX hU => ⟨(s_tick hX a1).1.trans (s_tick hU a1).1.symm, _, (s_tick hX a1).2.1, (s_tick hU a1).2.1⟩
theorem e_tick {X U : gM} {a1 : Int32} {v : Int32} {k : gM → Bool} (h : Ev X U) (hk : stA (p_X8_tick U a1) v k = true) : (p_X8_tick X a1).1 = v ∧ ∃ U', Ev (p_X8_tick X a1).2 U' ∧ k U' = true := stA_ev (sf_tick a1) h hk
theorem I_tick {X : gM} (h : Iv X) (a1 : Int32) : Iv (p_X8_tick X a1).2 := (sf_tick a1).iv h
theorem sf_type (a1 : Int32) : SimF (fun X => p_X8_type X a1) := fun X U Y hX hU => ⟨(s_type hX a1).1.trans (s_type hU a1).1.symm, _, (s_type hX a1).2.1, (s_type hU a1).2.1⟩
theorem e_type {X U : gM} {a1 : Int32} {v : Int32} {k : gM → Bool} (h : Ev X U) (hk : stA (p_X8_type U a1) v k = true) : (p_X8_type X a1).1 = v ∧ ∃ U', Ev (p_X8_type X a1).2 U' ∧ k U' = true := stA_ev (sf_type a1) h hk
theorem I_type {X : gM} (h : Iv X) (a1 : Int32) : Iv (p_X8_type X a1).2 := (sf_type a1).iv h
theorem sf_clearText : SimF (fun X => p_X8_clearText X) := fun X U Y hX hU => ⟨(s_clearText hX).1.trans (s_clearText hU).1.symm, _, (s_clearText hX).2, (s_clearText hU).2⟩
theorem e_clearText {X U : gM} {v : Int32} {k : gM → Bool} (h : Ev X U) (hk : stA (p_X8_clearText U) v k = true) : (p_X8_clearText X).1 = v ∧ ∃ U', Ev (p_X8_clearText X).2 U' ∧ k U' = true := stA_ev (sf_clearText) h hk
theorem I_clearText {X : gM} (h : Iv X) : Iv (p_X8_clearText X).2 := (sf_clearText).iv h
theorem sf_readTickets : SimF (fun X => p_X8_readTickets X) := fun X U Y hX hU => ⟨(s_readTickets hX).1.trans (s_readTickets hU).1.symm, _, (s_readTickets hX).2.1, (s_readTickets hU).2.1⟩
theorem e_readTickets {X U : gM} {v : Int32} {k : gM → Bool} (h : Ev X U) (hk : stA (p_X8_readTickets U) v k = true) : (p_X8_readTickets X).1 = v ∧ ∃ U', Ev (p_X8_readTickets X).2 U' ∧ k U' = true := stA_ev (sf_readTickets) h hk
theorem I_readTickets {X : gM} (h : Iv X) : Iv (p_X8_readTickets X).2 := (sf_readTickets).iv h
theorem sf_undo : SimF (fun X => p_X8_undo X) := fun X U Y hX hU => ⟨(s_undo hX).1.trans (s_undo hU).1.symm, _, (s_undo hX).2.1, (s_undo hU).2.1⟩
theorem e_undo {X U : gM} {v : Int32} {k : gM → Bool} (h : Ev X U) (hk : stA (p_X8_undo U) v k = true) : (p_X8_undo X).1 = v ∧ ∃ U', Ev (p_X8_undo X).2 U' ∧ k U' = true := stA_ev (sf_undo) h hk
theorem I_undo {X : gM} (h : Iv X) : Iv (p_X8_undo X).2 := (sf_undo).iv h
theorem sf_keep : SimF (fun X => p_X8_keep X) := fun X U Y hX hU => ⟨(s_keep hX).1.trans (s_keep hU).1.symm, _, (s_keep hX).2.1, (s_keep hU).2.1⟩
theorem e_keep {X U : gM} {v : Int32} {k : gM → Bool} (h : Ev X U) (hk : stA (p_X8_keep U) v k = true) : (p_X8_keep X).1 = v ∧ ∃ U', Ev (p_X8_keep X).2 U' ∧ k U' = true := stA_ev (sf_keep) h hk
theorem I_keep {X : gM} (h : Iv X) : Iv (p_X8_keep X).2 := (sf_keep).iv h
theorem sf_restore : SimF (fun X => p_X8_restore X) := fun X U Y hX hU => ⟨(s_restore hX).1.trans (s_restore hU).1.symm, _, (s_restore hX).2.1, (s_restore hU).2.1⟩
theorem e_restore {X U : gM} {v : Int32} {k : gM → Bool} (h : Ev X U) (hk : stA (p_X8_restore U) v k = true) : (p_X8_restore X).1 = v ∧ ∃ U', Ev (p_X8_restore X).2 U' ∧ k U' = true := stA_ev (sf_restore) h hk
theorem I_restore {X : gM} (h : Iv X) : Iv (p_X8_restore X).2 := (sf_restore).iv h
theorem sf_fate (a1 a2 : Int32) : SimF (fun X => p_X8_fate X a1 a2) := fun X U Y hX hU => ⟨(s_fate hX a1 a2).1.trans (s_fate hU a1 a2).1.symm, _, (s_fate hX a1 a2).2.1, (s_fate hU a1 a2).2.1⟩
theorem e_fate {X U : gM} {a1 a2 : Int32} {v : Int32} {k : gM → Bool} (h : Ev X U) (hk : stA (p_X8_fate U a1 a2) v k = true) : (p_X8_fate X a1 a2).1 = v ∧ ∃ U', Ev (p_X8_fate X a1 a2).2 U' ∧ k U' = true := stA_ev (sf_fate a1 a2) h hk
theorem I_fate {X : gM} (h : Iv X) (a1 a2 : Int32) : Iv (p_X8_fate X a1 a2).2 := (sf_fate a1 a2).iv h
theorem sf_slotIn (a1 a2 : Int32) : SimF (fun X => p_X8_slotIn X a1 a2) := fun X U Y hX hU => ⟨(s_slotIn hX a1 a2).1.trans (s_slotIn hU a1 a2).1.symm, _, (s_slotIn hX a1 a2).2.1, (s_slotIn hU a1 a2).2.1⟩
theorem e_slotIn {X U : gM} {a1 a2 : Int32} {v : Int32} {k : gM → Bool} (h : Ev X U) (hk : stA (p_X8_slotIn U a1 a2) v k = true) : (p_X8_slotIn X a1 a2).1 = v ∧ ∃ U', Ev (p_X8_slotIn X a1 a2).2 U' ∧ k U' = true := stA_ev (sf_slotIn a1 a2) h hk
theorem I_slotIn {X : gM} (h : Iv X) (a1 a2 : Int32) : Iv (p_X8_slotIn X a1 a2).2 := (sf_slotIn a1 a2).iv h
theorem sf_lapsNeeded (a1 a2 : Int32) : SimF (fun X => p_X8_lapsNeeded X a1 a2) := fun X U Y hX hU => ⟨(s_lapsNeeded hX a1 a2).1.trans (s_lapsNeeded hU a1 a2).1.symm, _, (s_lapsNeeded hX a1 a2).2.1, (s_lapsNeeded hU a1 a2).2.1⟩
theorem e_lapsNeeded {X U : gM} {a1 a2 : Int32} {v : Int32} {k : gM → Bool} (h : Ev X U) (hk : stA (p_X8_lapsNeeded U a1 a2) v k = true) : (p_X8_lapsNeeded X a1 a2).1 = v ∧ ∃ U', Ev (p_X8_lapsNeeded X a1 a2).2 U' ∧ k U' = true := stA_ev (sf_lapsNeeded a1 a2) h hk
theorem I_lapsNeeded {X : gM} (h : Iv X) (a1 a2 : Int32) : Iv (p_X8_lapsNeeded X a1 a2).2 := (sf_lapsNeeded a1 a2).iv h
theorem sq_line (a1 a2 : Int32) : SimQ (fun X => f_X8_line X a1 a2) := fun X U Y hX hU => (q_line hX a1 a2).1.trans (q_line hU a1 a2).1.symm
theorem e_line {X U : gM} {a1 a2 : Int32} {v : Int32} {k : Bool} (h : Ev X U) (hk : stQ (f_X8_line U a1 a2) v k = true) : f_X8_line X a1 a2 = v ∧ k = true := stQ_ev (sq_line a1 a2) h hk
theorem sq_slot (a1 a2 : Int32) : SimQ (fun X => f_X8_slot X a1 a2) := fun X U Y hX hU => (q_slot hX a1 a2).1.trans (q_slot hU a1 a2).1.symm
theorem e_slot {X U : gM} {a1 a2 : Int32} {v : Int32} {k : Bool} (h : Ev X U) (hk : stQ (f_X8_slot U a1 a2) v k = true) : f_X8_slot X a1 a2 = v ∧ k = true := stQ_ev (sq_slot a1 a2) h hk
theorem sq_station (a1 a2 : Int32) : SimQ (fun X => f_X8_station X a1 a2) := fun X U Y hX hU => (q_station hX a1 a2).1.trans (q_station hU a1 a2).1.symm
theorem e_station {X U : gM} {a1 a2 : Int32} {v : Int32} {k : Bool} (h : Ev X U) (hk : stQ (f_X8_station U a1 a2) v k = true) : f_X8_station X a1 a2 = v ∧ k = true := stQ_ev (sq_station a1 a2) h hk
theorem sq_ticket (a1 a2 : Int32) : SimQ (fun X => f_X8_ticket X a1 a2) := fun X U Y hX hU => (q_ticket hX a1 a2).1.trans (q_ticket hU a1 a2).1.symm
theorem e_ticket {X U : gM} {a1 a2 : Int32} {v : Int32} {k : Bool} (h : Ev X U) (hk : stQ (f_X8_ticket U a1 a2) v k = true) : f_X8_ticket X a1 a2 = v ∧ k = true := stQ_ev (sq_ticket a1 a2) h hk
theorem sq_ordered (a1 a2 : Int32) : SimQ (fun X => f_X8_ordered X a1 a2) := fun X U Y hX hU => (q_ordered hX a1 a2).1.trans (q_ordered hU a1 a2).1.symm
theorem e_ordered {X U : gM} {a1 a2 : Int32} {v : Int32} {k : Bool} (h : Ev X U) (hk : stQ (f_X8_ordered U a1 a2) v k = true) : f_X8_ordered X a1 a2 = v ∧ k = true := stQ_ev (sq_ordered a1 a2) h hk
theorem sq_price (a1 a2 : Int32) : SimQ (fun X => f_X8_price X a1 a2) := fun X U Y hX hU => (q_price hX a1 a2).trans (q_price hU a1 a2).symm
theorem e_price {X U : gM} {a1 a2 : Int32} {v : Int32} {k : Bool} (h : Ev X U) (hk : stQ (f_X8_price U a1 a2) v k = true) : f_X8_price X a1 a2 = v ∧ k = true := stQ_ev (sq_price a1 a2) h hk
theorem sq_event (a1 a2 : Int32) : SimQ (fun X => f_X8_event X a1 a2) := fun X U Y hX hU => (q_event hX a1 a2).1.trans (q_event hU a1 a2).1.symm
theorem e_event {X U : gM} {a1 a2 : Int32} {v : Int32} {k : Bool} (h : Ev X U) (hk : stQ (f_X8_event U a1 a2) v k = true) : f_X8_event X a1 a2 = v ∧ k = true := stQ_ev (sq_event a1 a2) h hk
theorem sq_count (a1 : Int32) : SimQ (fun X => f_X8_count X a1) := fun X U Y hX hU => (q_count hX a1).1.trans (q_count hU a1).1.symm
theorem e_count {X U : gM} {a1 : Int32} {v : Int32} {k : Bool} (h : Ev X U) (hk : stQ (f_X8_count U a1) v k = true) : f_X8_count X a1 = v ∧ k = true := stQ_ev (sq_count a1) h hk
theorem sq_calls (a1 a2 : Int32) : SimQ (fun X => f_X8_calls X a1 a2) := fun X U Y hX hU => (q_calls hX a1 a2).1.trans (q_calls hU a1 a2).1.symm
theorem e_calls {X U : gM} {a1 a2 : Int32} {v : Int32} {k : Bool} (h : Ev X U) (hk : stQ (f_X8_calls U a1 a2) v k = true) : f_X8_calls X a1 a2 = v ∧ k = true := stQ_ev (sq_calls a1 a2) h hk
theorem sq_waiting (a1 a2 : Int32) : SimQ (fun X => f_X8_waiting X a1 a2) := fun X U Y hX hU => (q_waiting hX a1 a2).1.trans (q_waiting hU a1 a2).1.symm
theorem e_waiting {X U : gM} {a1 a2 : Int32} {v : Int32} {k : Bool} (h : Ev X U) (hk : stQ (f_X8_waiting U a1 a2) v k = true) : f_X8_waiting X a1 a2 = v ∧ k = true := stQ_ev (sq_waiting a1 a2) h hk
