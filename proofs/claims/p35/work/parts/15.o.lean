/-! a run by hand, over tables -/
set_option maxRecDepth 100000 in
set_option maxHeartbeats 8000000 in
theorem ev_orders : (evB (fun u0 =>
stH (p_X8_book u0 4 1 0 1 2) 0 (fun u1 =>
stH (p_X8_order u1 0 3) 0 (fun u2 =>
stH (p_X8_setFare u2 7) 10 (fun u3 =>
stW u3 1 0 (fun u4 =>
stQ (f_X8_count u4 1) 2 (
stQ (f_X8_ticket u4 1 5) 14 (
stQ (f_X8_ticket u4 1 9) 0 (
stW u4 2 0 (fun u5 =>
stQ (f_X8_count u5 1) 2 (
stW u5 1 0 (fun u6 =>
stQ (f_X8_count u6 1) 3 (
stQ (f_X8_ordered u6 0 2) 2 (
stQ (f_X8_ordered u6 0 3) 0 (
stH (p_X8_order u6 1 1) 1 (fun u7 =>
stW u7 40 38 (fun u8 =>
stQ (f_X8_count u8 1) 40 (
stQ (f_X8_ordered u8 0 2) 11 (
stQ (f_X8_ordered u8 1 2) 28 (
stQ (f_X8_ordered u8 1 3) 12 (
stH (p_X8_endOrder u8 1) 28 (fun u9 =>
stQ (f_X8_ordered u9 1 2) 28 (
stH (p_X8_endOrder u9 1) (-5) (fun u10 =>
stH (p_X8_book u10 0 1 0 1 1) (-3) (fun u11 =>
stH (p_X8_book u11 0 1 0 0 1) (-2) (fun u12 =>
stH (p_X8_order u12 5 50) 2 (fun u13 =>
stH (p_X8_order u13 39 1) 3 (fun u14 =>
stH (p_X8_order u14 0 1) (-3) (fun u15 =>
stH (p_X8_order u15 0 0) (-2) (fun u16 =>
refB u16)))))))))))))))))))))))))))))) = true := by decide +kernel
