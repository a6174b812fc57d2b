/-! a run by hand, over tables -/
set_option maxRecDepth 100000 in
set_option maxHeartbeats 8000000 in
theorem ev_pauses : (evB (fun u0 =>
stA (p_X8_setHeat u0 0 10) 10 (fun u1 =>
stA (p_X8_lapsNeeded u1 0 1) (-5) (fun u2 =>
stA (p_X8_book u2 7 2 0 1 2) 0 (fun u3 =>
stQ (f_X8_ticket u3 0 5) 40 (
stA (p_X8_fate u3 0 0) 6 (fun u4 =>
stA (p_X8_fate u4 0 1) 3 (fun u5 =>
stA (p_X8_fate u5 0 2) 0 (fun u6 =>
stA (p_X8_fate u6 0 3) 0 (fun u7 =>
stT u7 2 0 (fun u8 =>
stQ (f_X8_ticket u8 0 4) 1 (
stT u8 1 0 (fun u9 =>
stQ (f_X8_ticket u9 0 6) 6 (
stQ (f_X8_count u9 13) 40 (
stQ (f_X8_line u9 0 7) 3 (
stQ (f_X8_line u9 0 1) 0 (
stQ (f_X8_line u9 1 1) 3 (
stQ (f_L_isEvent u9 0 6 (-5) (-1) 2) 1 (
stQ (f_X8_event u9 0 3) (-5) (
stQ (f_L_isEvent u9 1 4 0 0 2) 1 (
stA (p_X8_book u9 1 2 0 1 9) 1 (fun u10 =>
stT u10 1 0 (fun u11 =>
stA (p_X8_book u11 2 3 0 1 9) 2 (fun u12 =>
stA (p_X8_book u12 3 2 0 1 9) 3 (fun u13 =>
stQ (f_X8_price u13 3 9) 295 (
stQ (f_X8_station u13 0 8) 2 (
stQ (f_X8_waiting u13 0 1) 3 (
stT u13 3 0 (fun u14 =>
stQ (f_X8_ticket u14 1 6) 1 (
stQ (f_X8_ticket u14 1 4) 6 (
stT u14 1 0 (fun u15 =>
stQ (f_X8_ticket u15 1 6) 5 (
stQ (f_X8_ticket u15 1 13) 2 (
stQ (f_X8_ticket u15 1 12) 0 (
stQ (f_X8_ticket u15 1 4) 5 (
stQ (f_X8_ticket u15 2 8) 0 (
stQ (f_X8_station u15 0 6) 1 (
stQ (f_L_isEvent u15 1 0 2 0 7) 1 (
stQ (f_L_isEvent u15 2 5 1 0 7) 1 (
stQ (f_X8_count u15 13) 220 (
stA (p_X8_build u15 0 9) (-4) (fun u16 =>
stA (p_X8_cancel u16 2) 147 (fun u17 =>
stQ (f_X8_count u17 12) 148 (
stQ (f_X8_count u17 13) 367 (
stA (p_X8_cancel u17 2) (-4) (fun u18 =>
stA (p_X8_fate u18 2 0) (-4) (fun u19 =>
stQ (f_X8_slot u19 0 0) (-5) (
stA (p_X8_build u19 0 3) (-4) (fun u20 =>
stA (p_X8_build u20 0 4) 8 (fun u21 =>
stA (p_X8_build u21 0 4) (-5) (fun u22 =>
stT u22 1 0 (fun u23 =>
stA (p_X8_drain u23 0) 1 (fun u24 =>
stA (p_X8_drain u24 0) (-5) (fun u25 =>
stQ (f_X8_ticket u25 3 6) 7 (
stQ (f_X8_ticket u25 3 12) (-5) (
stQ (f_X8_event u25 0 0) 8 (
stQ (f_X8_count u25 13) 547 (
stQ (f_X8_count u25 14) 0 (
refB u25))))))))))))))))))))))))))))))))))))))))))))))))))))))))))) = true := by decide +kernel
