/-! a run by hand, over tables -/
set_option maxRecDepth 100000 in
set_option maxHeartbeats 8000000 in
theorem ev_pauses : (evB (fun u0 =>
stH (p_X8_setHeat u0 0 10) 10 (fun u1 =>
stN (p_X8_lapsNeeded u1 0 1) (-5) (
stH (p_X8_book u1 7 2 0 1 2) 0 (fun u2 =>
stQ (f_X8_ticket u2 0 5) 40 (
stF u2 0 0 6 12 (
stF u2 0 1 3 12 (
stF u2 0 2 0 12 (
stF u2 0 3 0 12 (
stW u2 2 0 (fun u3 =>
stQ (f_X8_ticket u3 0 4) 1 (
stW u3 1 0 (fun u4 =>
stQ (f_X8_ticket u4 0 6) 6 (
stQ (f_X8_count u4 13) 40 (
stQ (f_X8_line u4 0 7) 3 (
stQ (f_X8_line u4 0 1) 0 (
stQ (f_X8_line u4 1 1) 3 (
stQ (f_L_isEvent u4 0 6 (-5) (-1) 2) 1 (
stQ (f_X8_event u4 0 3) (-5) (
stQ (f_L_isEvent u4 1 4 0 0 2) 1 (
stH (p_X8_book u4 1 2 0 1 9) 1 (fun u5 =>
stW u5 1 0 (fun u6 =>
stH (p_X8_book u6 2 3 0 1 9) 2 (fun u7 =>
stH (p_X8_book u7 3 2 0 1 9) 3 (fun u8 =>
stQ (f_X8_price u8 3 9) 295 (
stQ (f_X8_station u8 0 8) 2 (
stQ (f_X8_waiting u8 0 1) 3 (
stW u8 3 0 (fun u9 =>
stQ (f_X8_ticket u9 1 6) 1 (
stQ (f_X8_ticket u9 1 4) 6 (
stW u9 1 0 (fun u10 =>
stQ (f_X8_ticket u10 1 6) 5 (
stQ (f_X8_ticket u10 1 13) 2 (
stQ (f_X8_ticket u10 1 12) 0 (
stQ (f_X8_ticket u10 1 4) 5 (
stQ (f_X8_ticket u10 2 8) 0 (
stQ (f_X8_station u10 0 6) 1 (
stQ (f_L_isEvent u10 1 0 2 0 7) 1 (
stQ (f_L_isEvent u10 2 5 1 0 7) 1 (
stQ (f_X8_count u10 13) 220 (
stH (p_X8_build u10 0 9) (-4) (fun u11 =>
stH (p_X8_cancel u11 2) 147 (fun u12 =>
stQ (f_X8_count u12 12) 148 (
stQ (f_X8_count u12 13) 367 (
stH (p_X8_cancel u12 2) (-4) (fun u13 =>
stN (p_X8_fate u13 2 0) (-4) (
stQ (f_X8_slot u13 0 0) (-5) (
stH (p_X8_build u13 0 3) (-4) (fun u14 =>
stH (p_X8_build u14 0 4) 8 (fun u15 =>
stH (p_X8_build u15 0 4) (-5) (fun u16 =>
stW u16 1 0 (fun u17 =>
stH (p_X8_drain u17 0) 1 (fun u18 =>
stH (p_X8_drain u18 0) (-5) (fun u19 =>
stQ (f_X8_ticket u19 3 6) 7 (
stQ (f_X8_ticket u19 3 12) (-5) (
stQ (f_X8_event u19 0 0) 8 (
stQ (f_X8_count u19 13) 547 (
stQ (f_X8_count u19 14) 0 (
refB u19))))))))))))))))))))))))))))))))))))))))))))))))))))))))))) = true := by decide +kernel
