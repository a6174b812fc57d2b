/-! the words of the law among the tables, in pieces; they are good words -/
set_option maxRecDepth 20000 in
theorem wsL_law_r29_0_g : GoodIn lw_tbl [Cond.code yL_mixed cL_mixed 4 (some .long), Cond.constantLong RL 9 (31), Cond.methodLink RL 43 yL_stations, Cond.static yL_stations] := goodIn_p _ [643] (by decide +kernel) (by decide +kernel)
set_option maxRecDepth 100000 in
set_option maxHeartbeats 4000000 in
theorem wsL_law_r29_4_g : GoodIn lw_tbl [Cond.code yL_stations cL_stations 7 (some .long)] := goodIn_one 665 rfl rfl
set_option maxRecDepth 20000 in
theorem wsL_law_r29_5_g : GoodIn lw_tbl [Cond.constantLong RL 11 (5), Cond.methodLink RL 28 yX8_waiting, Cond.instanceMethod yX8_waiting, Cond.selects RX8 yX8_waiting yX8_waiting, Cond.code yX8_waiting cX8_waiting 4 (some .int), Cond.methodLink RX8 279 yX3_inQueue, Cond.instanceMethod yX3_inQueue, Cond.selects RX3 yX3_inQueue yX3_inQueue, Cond.code yX3_inQueue cX3_inQueue 7 (some (.object "MercuryLine$Ticket")), Cond.methodLink RL 50 yX8_ordered, Cond.instanceMethod yX8_ordered, Cond.selects RX8 yX8_ordered yX8_ordered, Cond.code yX8_ordered cX8_ordered 4 (some .int), Cond.fieldLink RX8 309 "MercuryLine$Order" "period" "I", Cond.fieldLink RX8 312 "MercuryLine$Order" "givenIn" "I", Cond.fieldLink RX8 178 "MercuryLine$Order" "booked" "I", Cond.fieldLink RX8 315 "MercuryLine$Order" "skipped" "I", Cond.fieldLink RX8 172 "MercuryLine$Order" "ended" "Z", Cond.fieldLink RX8 316 "MercuryLine$Order" "trip" "LMercuryLine$Trip;"] := goodIn_p _ [691, 695, 709] (by decide +kernel) (by decide +kernel)
theorem wsL_law_r29_g : GoodIn lw_tbl wsL_law_r29 := (goodIn_app wsL_law_r29_0_g (goodIn_app wsL_law_r29_4_g wsL_law_r29_5_g))
set_option maxRecDepth 20000 in
theorem wsL_law_r30_g : GoodIn lw_tbl wsL_law_r30 := goodIn_p wsL_law_r30 [713, 732, 736, 740, 763, 766] (by decide +kernel) (by decide +kernel)
set_option maxRecDepth 20000 in
theorem wsL_law_r31_g : GoodIn lw_tbl wsL_law_r31 := goodIn_p wsL_law_r31 [770, 774, 778, 782, 786] (by decide +kernel) (by decide +kernel)
set_option maxRecDepth 20000 in
theorem wsL_law_r32_g : GoodIn lw_tbl wsL_law_r32 := goodIn_p wsL_law_r32 [840, 848, 852, 856, 860, 871] (by decide +kernel) (by decide +kernel)
