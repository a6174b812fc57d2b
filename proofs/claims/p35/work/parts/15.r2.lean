/-! a run by hand, over tables -/
set_option maxRecDepth 100000 in
set_option maxHeartbeats 8000000 in
theorem ev_rides2 : (evB (fun u0 =>
stA (p_X8_book u0 9 1 1 11 1) 0 (fun u1 =>
stA (p_X8_fate u1 0 0) 3 (fun u2 =>
stA (p_X8_fate u2 0 1) 10 (fun u3 =>
stT u3 1 0 (fun u4 =>
stQ (f_X8_ticket u4 0 8) 3 (
stT u4 3 0 (fun u5 =>
stQ (f_X8_ticket u5 0 6) 1 (
stQ (f_X8_ticket u5 0 7) 1 (
stQ (f_X8_ticket u5 0 8) 3 (
stQ (f_X8_ticket u5 0 10) 0 (
stQ (f_L_isEvent u5 0 0 0 10 3) 1 (
stQ (f_L_isEvent u5 1 3 0 0 3) 1 (
stQ (f_X8_station u5 10 3) 1 (
stQ (f_X8_line u5 1 6) 0 (
stT u5 5 0 (fun u6 =>
stT u6 1 1 (fun u7 =>
stQ (f_X8_ticket u7 0 11) 9 (
stQ (f_X8_ticket u7 0 12) 11 (
stQ (f_X8_count u7 18) 9 (
stA (p_X8_slotIn u7 1 0) 5 (fun u8 =>
stA (p_X8_slotIn u8 1 300) 1 (fun u9 =>
stA (p_X8_slotIn u9 11 7) 3 (fun u10 =>
refB u10)))))))))))))))))))))))) = true := by decide +kernel
