/-! a run by hand, over tables -/
set_option maxRecDepth 100000 in
set_option maxHeartbeats 8000000 in
theorem ev_pauses2 : (evB (fun u0 =>
stH (p_X8_setHeat u0 0 (-10)) 10 (fun u1 =>
stH (p_X8_setHeat u1 0 0) 10 (fun u2 =>
stH (p_X8_setHeat u2 0 (-10)) 10 (fun u3 =>
stN (p_X8_lapsNeeded u3 0 1) (-5) (
stW u3 2 0 (fun u4 =>
stQ (f_X8_line u4 0 1) 4 (
stQ (f_X8_line u4 0 8) 2 (
stQ (f_X8_line u4 0 2) 100 (
stQ (f_X8_event u4 0 0) 7 (
stH (p_X8_setHeat u4 0 4) 14 (fun u5 =>
stW u5 2 0 (fun u6 =>
stQ (f_X8_line u6 0 1) 6 (
stQ (f_X8_line u6 0 2) 108 (
stW u6 1 0 (fun u7 =>
stQ (f_X8_line u7 0 1) 6 (
stQ (f_X8_line u7 0 2) 102 (
stH (p_X8_addStation u7 0 3) (-4) (fun u8 =>
stH (p_X8_addStation u8 0 7) 2 (fun u9 =>
refB u9)))))))))))))))))))) = true := by decide +kernel
