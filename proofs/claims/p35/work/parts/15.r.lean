/-! a run by hand, over tables -/
set_option maxRecDepth 100000 in
set_option maxHeartbeats 8000000 in
theorem ev_rides : (evB (fun u0 =>
stH (p_X8_book u0 5 1 0 1 1) 0 (fun u1 =>
stQ (f_X8_ticket u1 0 5) 10 (
stF u1 0 0 3 12 (
stF u1 0 1 6 12 (
stF u1 0 2 1 12 (
stF u1 0 3 1 12 (
stN (p_X8_lapsNeeded u1 0 1) 1 (
stN (p_X8_lapsNeeded u1 1 0) 1 (
stW u1 1 0 (fun u2 =>
stQ (f_X8_slot u2 0 0) 0 (
stQ (f_X8_ticket u2 0 10) 0 (
stQ (f_L_isEvent u2 0 0 0 0 0) 1 (
stQ (f_X8_station u2 0 3) 1 (
stW u2 4 0 (fun u3 =>
stW u3 1 1 (fun u4 =>
stQ (f_X8_count u4 12) 10 (
stQ (f_X8_ticket u4 0 11) 5 (
stQ (f_X8_ticket u4 0 12) 1 (
stQ (f_X8_count u4 18) 5 (
stQ (f_X8_station u4 1 4) 1 (
stQ (f_L_isEvent u4 0 1 0 1 5) 1 (
stQ (f_X8_slot u4 0 0) (-5) (
stQ (f_X8_line u4 0 1) 6 (
stH (p_X8_addStation u4 0 5) 2 (fun u5 =>
stH (p_X8_call u5 2 5) 1 (fun u6 =>
stH (p_X8_call u6 2 7) 2 (fun u7 =>
stH (p_X8_call u7 2 5) 3 (fun u8 =>
stH (p_X8_call u8 2 9) (-3) (fun u9 =>
stW u9 2 0 (fun u10 =>
stH (p_X8_book u10 5 2 0 1 3) 1 (fun u11 =>
stQ (f_X8_ticket u11 1 5) 60 (
stF u11 1 0 4 12 (
stF u11 1 1 4 12 (
stW u11 4 0 (fun u12 =>
stQ (f_X8_ticket u12 1 6) 4 (
stQ (f_X8_count u12 13) 60 (
stQ (f_X8_station u12 2 5) 1 (
stQ (f_X8_station u12 2 7) 2 (
stQ (f_X8_calls u12 2 0) 7 (
stQ (f_X8_calls u12 2 1) 5 (
stQ (f_L_isEvent u12 0 2 1 2 11) 1 (
stH (p_X8_callBack u12 2) 7 (fun u13 =>
stH (p_X8_callBack u13 2) 5 (fun u14 =>
stH (p_X8_callBack u14 2) (-5) (fun u15 =>
refB u15)))))))))))))))))))))))))))))))))))))))))))))) = true := by decide +kernel
