/-! the words of the law among the tables, in pieces; they are good words -/
set_option maxRecDepth 100000 in
set_option maxHeartbeats 4000000 in
theorem wsL_law_r15_8_g : GoodIn lw_tbl [Cond.code yL_rides cL_rides 2 (some .boolean)] := goodIn_one 962 rfl rfl
set_option maxRecDepth 20000 in
theorem wsL_law_r15_9_g : GoodIn lw_tbl [Cond.methodLink RL 193 yL_built, Cond.static yL_built, Cond.code yL_built cL_built 2 (some (.object "MercuryLine")), Cond.methodLink RL 62 yX8_addStation, Cond.instanceMethod yX8_addStation, Cond.selects RX8 yX8_addStation yX8_addStation, Cond.code yX8_addStation cX8_addStation 4 (some .int), Cond.fieldLink RX8 61 "MercuryLine$Line" "slots" "I", Cond.fieldLink RX8 75 "MercuryLine$Line" "stationCount" "I", Cond.methodLink RX8 40 yX8_isLine, Cond.static yX8_isLine, Cond.code yX8_isLine cX8_isLine 1 (some .boolean), Cond.methodLink RX8 50 yX3_lineOf, Cond.methodLink RX8 72 yX0_hasOffset, Cond.instanceMethod yX0_hasOffset] := goodIn_p _ [965, 744, 651] (by decide +kernel) (by decide +kernel)
theorem wsL_law_r15_g : GoodIn lw_tbl wsL_law_r15 := (goodIn_app wsL_law_r15_0_g (goodIn_app wsL_law_r15_8_g wsL_law_r15_9_g))
set_option maxRecDepth 20000 in
theorem wsL_law_r16_g : GoodIn lw_tbl wsL_law_r16 := goodIn_p wsL_law_r16 [748, 752, 756, 816, 704] (by decide +kernel) (by decide +kernel)
set_option maxRecDepth 20000 in
theorem wsL_law_r17_g : GoodIn lw_tbl wsL_law_r17 := goodIn_p wsL_law_r17 [520, 864, 844] (by decide +kernel) (by decide +kernel)
set_option maxRecDepth 20000 in
theorem wsL_law_r18_g : GoodIn lw_tbl wsL_law_r18 := goodIn_p wsL_law_r18 [466, 470, 474, 478, 499] (by decide +kernel) (by decide +kernel)
set_option maxRecDepth 20000 in
theorem wsL_law_r19_g : GoodIn lw_tbl wsL_law_r19 := goodIn_p wsL_law_r19 [503, 507, 511, 515] (by decide +kernel) (by decide +kernel)
