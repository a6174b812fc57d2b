/-! a run by hand, over tables -/
set_option maxRecDepth 100000 in
set_option maxHeartbeats 8000000 in
theorem ev_rides : (evB (fun u0 =>
stA (p_X8_book u0 5 1 0 1 1) 0 (fun u1 =>
stQ (f_X8_ticket u1 0 5) 10 (
stA (p_X8_fate u1 0 0) 3 (fun u2 =>
stA (p_X8_fate u2 0 1) 6 (fun u3 =>
stA (p_X8_fate u3 0 2) 1 (fun u4 =>
stA (p_X8_fate u4 0 3) 1 (fun u5 =>
stA (p_X8_lapsNeeded u5 0 1) 1 (fun u6 =>
stA (p_X8_lapsNeeded u6 1 0) 1 (fun u7 =>
stT u7 1 0 (fun u8 =>
stQ (f_X8_slot u8 0 0) 0 (
stQ (f_X8_ticket u8 0 10) 0 (
stQ (f_L_isEvent u8 0 0 0 0 0) 1 (
stQ (f_X8_station u8 0 3) 1 (
stT u8 4 0 (fun u9 =>
stT u9 1 1 (fun u10 =>
stQ (f_X8_count u10 12) 10 (
stQ (f_X8_ticket u10 0 11) 5 (
stQ (f_X8_ticket u10 0 12) 1 (
stQ (f_X8_count u10 18) 5 (
stQ (f_X8_station u10 1 4) 1 (
stQ (f_L_isEvent u10 0 1 0 1 5) 1 (
stQ (f_X8_slot u10 0 0) (-5) (
stQ (f_X8_line u10 0 1) 6 (
stA (p_X8_addStation u10 0 5) 2 (fun u11 =>
stA (p_X8_call u11 2 5) 1 (fun u12 =>
stA (p_X8_call u12 2 7) 2 (fun u13 =>
stA (p_X8_call u13 2 5) 3 (fun u14 =>
stA (p_X8_call u14 2 9) (-3) (fun u15 =>
stT u15 2 0 (fun u16 =>
stA (p_X8_book u16 5 2 0 1 3) 1 (fun u17 =>
stQ (f_X8_ticket u17 1 5) 60 (
stA (p_X8_fate u17 1 0) 4 (fun u18 =>
stA (p_X8_fate u18 1 1) 4 (fun u19 =>
stT u19 4 0 (fun u20 =>
stQ (f_X8_ticket u20 1 6) 4 (
stQ (f_X8_count u20 13) 60 (
stQ (f_X8_station u20 2 5) 1 (
stQ (f_X8_station u20 2 7) 2 (
stQ (f_X8_calls u20 2 0) 7 (
stQ (f_X8_calls u20 2 1) 5 (
stQ (f_L_isEvent u20 0 2 1 2 11) 1 (
stA (p_X8_callBack u20 2) 7 (fun u21 =>
stA (p_X8_callBack u21 2) 5 (fun u22 =>
stA (p_X8_callBack u22 2) (-5) (fun u23 =>
refB u23)))))))))))))))))))))))))))))))))))))))))))))) = true := by decide +kernel
