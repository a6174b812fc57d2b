/-! the words of the law among the tables, in pieces; they are good words -/
set_option maxRecDepth 20000 in
theorem wsL_law_r33_0_g : GoodIn lw_tbl [Cond.static yL_pauses] := goodIn_p _ [] (by decide +kernel) (by decide +kernel)
set_option maxRecDepth 100000 in
set_option maxHeartbeats 4000000 in
theorem wsL_law_r33_1_g : GoodIn lw_tbl [Cond.code yL_pauses cL_pauses 2 (some .boolean)] := goodIn_one 971 rfl rfl
set_option maxRecDepth 20000 in
theorem wsL_law_r33_2_g : GoodIn lw_tbl [Cond.methodLink RL 219 yL_orders, Cond.static yL_orders] := goodIn_p _ [] (by decide +kernel) (by decide +kernel)
set_option maxRecDepth 100000 in
set_option maxHeartbeats 4000000 in
theorem wsL_law_r33_4_g : GoodIn lw_tbl [Cond.code yL_orders cL_orders 1 (some .boolean)] := goodIn_one 974 rfl rfl
set_option maxRecDepth 20000 in
theorem wsL_law_r33_5_g : GoodIn lw_tbl [Cond.methodLink RL 222 yX8_undo, Cond.instanceMethod yX8_undo, Cond.selects RX8 yX8_undo yX8_undo, Cond.code yX8_undo cX8_undo 1 (some .int), Cond.methodLink RL 225 yX8_restore, Cond.instanceMethod yX8_restore, Cond.selects RX8 yX8_restore yX8_restore, Cond.code yX8_restore cX8_restore 1 (some .int), Cond.fieldLink RX8 217 "MercuryLine" "hasKept" "Z", Cond.methodLink RL 228 yL_take, Cond.static yL_take, Cond.code yL_take cL_take 2 (some .int), Cond.constant RL 8 (2654435), Cond.methodLink RL 232 yL_lays, Cond.static yL_lays] := goodIn_p _ [616, 624, 635] (by decide +kernel) (by decide +kernel)
set_option maxRecDepth 100000 in
set_option maxHeartbeats 4000000 in
theorem wsL_law_r33_20_g : GoodIn lw_tbl [Cond.code yL_lays cL_lays 8 (some .int)] := goodIn_one 728 rfl rfl
set_option maxRecDepth 20000 in
theorem wsL_law_r33_21_g : GoodIn lw_tbl [Cond.methodLink RL 56 yL_part, Cond.static yL_part, Cond.code yL_part cL_part 2 (some .int)] := goodIn_p _ [631] (by decide +kernel) (by decide +kernel)
