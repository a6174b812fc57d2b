/-! a run by hand, over tables -/
set_option maxRecDepth 100000 in
set_option maxHeartbeats 8000000 in
theorem ev_pauses2 : (evB (fun u0 =>
stA (p_X8_setHeat u0 0 (-10)) 10 (fun u1 =>
stA (p_X8_setHeat u1 0 0) 10 (fun u2 =>
stA (p_X8_setHeat u2 0 (-10)) 10 (fun u3 =>
stA (p_X8_lapsNeeded u3 0 1) (-5) (fun u4 =>
stT u4 2 0 (fun u5 =>
stQ (f_X8_line u5 0 1) 4 (
stQ (f_X8_line u5 0 8) 2 (
stQ (f_X8_line u5 0 2) 100 (
stQ (f_X8_event u5 0 0) 7 (
stA (p_X8_setHeat u5 0 4) 14 (fun u6 =>
stT u6 2 0 (fun u7 =>
stQ (f_X8_line u7 0 1) 6 (
stQ (f_X8_line u7 0 2) 108 (
stT u7 1 0 (fun u8 =>
stQ (f_X8_line u8 0 1) 6 (
stQ (f_X8_line u8 0 2) 102 (
stA (p_X8_addStation u8 0 3) (-4) (fun u9 =>
stA (p_X8_addStation u9 0 7) 2 (fun u10 =>
refB u10)))))))))))))))))))) = true := by decide +kernel
