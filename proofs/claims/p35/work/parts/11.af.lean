/-! the words of the law among the tables, in pieces; they are good words -/
set_option maxRecDepth 20000 in
theorem wsL_law_r27_g : GoodIn lw_tbl wsL_law_r27 := goodIn_p wsL_law_r27 [648, 656, 791, 796] (by decide +kernel) (by decide +kernel)
set_option maxRecDepth 20000 in
theorem wsL_law_r28_0_g : GoodIn lw_tbl [Cond.instanceMethod yX8_calls, Cond.selects RX8 yX8_calls yX8_calls, Cond.code yX8_calls cX8_calls 4 (some .int), Cond.methodLink RX8 152 yX4_callAt, Cond.methodLink RL 90 yX8_callBack, Cond.instanceMethod yX8_callBack, Cond.selects RX8 yX8_callBack yX8_callBack, Cond.code yX8_callBack cX8_callBack 4 (some .int), Cond.methodLink RX8 155 yX4_removeCall, Cond.methodLink RL 93 yX8_slotIn, Cond.instanceMethod yX8_slotIn, Cond.selects RX8 yX8_slotIn yX8_slotIn, Cond.code yX8_slotIn cX8_slotIn 6 (some .int), Cond.methodLink RL 201 yL_refused, Cond.static yL_refused] := goodIn_p _ [699, 801, 806] (by decide +kernel) (by decide +kernel)
set_option maxRecDepth 100000 in
set_option maxHeartbeats 4000000 in
theorem wsL_law_r28_15_g : GoodIn lw_tbl [Cond.code yL_refused cL_refused 8 (some .boolean)] := goodIn_one 759 rfl rfl
set_option maxRecDepth 20000 in
theorem wsL_law_r28_16_g : GoodIn lw_tbl [Cond.constant RL 115 (65536), Cond.constant RL 116 (65537), Cond.methodLink RL 65 yL_state, Cond.static yL_state] := goodIn_p _ [] (by decide +kernel) (by decide +kernel)
set_option maxRecDepth 100000 in
set_option maxHeartbeats 4000000 in
theorem wsL_law_r28_20_g : GoodIn lw_tbl [Cond.code yL_state cL_state 5 (some .long)] := goodIn_one 639 rfl rfl
set_option maxRecDepth 20000 in
theorem wsL_law_r28_21_g : GoodIn lw_tbl [Cond.constantLong RL 34 (7), Cond.methodLink RL 22 yL_mixed, Cond.static yL_mixed] := goodIn_p _ [] (by decide +kernel) (by decide +kernel)
theorem wsL_law_r28_g : GoodIn lw_tbl wsL_law_r28 := (goodIn_app wsL_law_r28_0_g (goodIn_app wsL_law_r28_15_g (goodIn_app wsL_law_r28_16_g (goodIn_app wsL_law_r28_20_g wsL_law_r28_21_g))))
