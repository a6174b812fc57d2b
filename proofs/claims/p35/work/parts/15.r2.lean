/-! a run by hand, over tables -/
set_option maxRecDepth 100000 in
set_option maxHeartbeats 8000000 in
theorem ev_rides2 : (evB (fun u0 =>
stH (p_X8_book u0 9 1 1 11 1) 0 (fun u1 =>
stF u1 0 0 3 12 (
stF u1 0 1 10 12 (
stW u1 1 0 (fun u2 =>
stQ (f_X8_ticket u2 0 8) 3 (
stW u2 3 0 (fun u3 =>
stQ (f_X8_ticket u3 0 6) 1 (
stQ (f_X8_ticket u3 0 7) 1 (
stQ (f_X8_ticket u3 0 8) 3 (
stQ (f_X8_ticket u3 0 10) 0 (
stQ (f_L_isEvent u3 0 0 0 10 3) 1 (
stQ (f_L_isEvent u3 1 3 0 0 3) 1 (
stQ (f_X8_station u3 10 3) 1 (
stQ (f_X8_line u3 1 6) 0 (
stW u3 5 0 (fun u4 =>
stW u4 1 1 (fun u5 =>
stQ (f_X8_ticket u5 0 11) 9 (
stQ (f_X8_ticket u5 0 12) 11 (
stQ (f_X8_count u5 18) 9 (
stN (p_X8_slotIn u5 1 0) 5 (
stN (p_X8_slotIn u5 1 300) 1 (
stN (p_X8_slotIn u5 11 7) 3 (
refB u5)))))))))))))))))))))))) = true := by decide +kernel
