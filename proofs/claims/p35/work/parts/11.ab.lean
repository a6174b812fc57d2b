/-! the words of the law among the tables, in pieces; they are good words -/
set_option maxRecDepth 20000 in
theorem wsL_law_r5_g : GoodIn lw_tbl wsL_law_r5 := goodIn_p wsL_law_r5 [144, 159, 165, 268] (by decide +kernel) (by decide +kernel)
set_option maxRecDepth 20000 in
theorem wsL_law_r6_0_g : GoodIn lw_tbl [Cond.code yX6_init cX6_init 2 none, Cond.methodLink RX6 3 objectInit, Cond.arrayClass .char, Cond.fieldLink RX6 11 "MercuryLine$TicketText" "signs" "[C", Cond.classLink RX6 15 RX7, Cond.fieldLink RX6 17 "MercuryLine$TicketText" "trips" "[LMercuryLine$Trip;", Cond.methodLink RL 135 yL_isTold, Cond.static yL_isTold, Cond.code yL_isTold cL_isTold 8 (some .boolean), Cond.methodLink RL 123 yX8_clearText, Cond.instanceMethod yX8_clearText, Cond.selects RX8 yX8_clearText yX8_clearText, Cond.code yX8_clearText cX8_clearText 2 (some .int), Cond.fieldLink RX8 191 "MercuryLine$TicketText" "length" "I", Cond.methodLink RL 127 yL_types, Cond.static yL_types] := goodIn_p _ [358, 879, 883] (by decide +kernel) (by decide +kernel)
set_option maxRecDepth 100000 in
set_option maxHeartbeats 4000000 in
theorem wsL_law_r6_16_g : GoodIn lw_tbl [Cond.code yL_types cL_types 6 (some .int)] := goodIn_one 886 rfl rfl
set_option maxRecDepth 20000 in
theorem wsL_law_r6_17_g : GoodIn lw_tbl [Cond.constantLong RL 117 (127), Cond.methodLink RL 119 yX8_type, Cond.instanceMethod yX8_type, Cond.selects RX8 yX8_type yX8_type, Cond.code yX8_type cX8_type 2 (some .int), Cond.methodLink RX8 187 yX6_append, Cond.instanceMethod yX6_append] := goodIn_p _ [891] (by decide +kernel) (by decide +kernel)
theorem wsL_law_r6_g : GoodIn lw_tbl wsL_law_r6 := (goodIn_app wsL_law_r6_0_g (goodIn_app wsL_law_r6_16_g wsL_law_r6_17_g))
set_option maxRecDepth 20000 in
theorem wsL_law_r7_g : GoodIn lw_tbl wsL_law_r7 := goodIn_p wsL_law_r7 [895, 416, 900, 904, 908] (by decide +kernel) (by decide +kernel)
set_option maxRecDepth 20000 in
theorem wsL_law_r8_g : GoodIn lw_tbl wsL_law_r8 := goodIn_p wsL_law_r8 [912, 916, 920, 924, 928] (by decide +kernel) (by decide +kernel)
