/-! the words of the law among the tables, in pieces; they are good words -/
theorem wsL_law_r33_g : GoodIn lw_tbl wsL_law_r33 := (goodIn_app wsL_law_r33_0_g (goodIn_app wsL_law_r33_1_g (goodIn_app wsL_law_r33_2_g (goodIn_app wsL_law_r33_4_g (goodIn_app wsL_law_r33_5_g (goodIn_app wsL_law_r33_20_g wsL_law_r33_21_g))))))
set_option maxRecDepth 20000 in
theorem wsL_law_r34_0_g : GoodIn lw_tbl [Cond.constant RL 7 (2147483647), Cond.methodLink RL 235 yL_change, Cond.static yL_change] := goodIn_p _ [] (by decide +kernel) (by decide +kernel)
set_option maxRecDepth 100000 in
set_option maxHeartbeats 4000000 in
theorem wsL_law_r34_3_g : GoodIn lw_tbl [Cond.code yL_change cL_change 5 (some .int)] := goodIn_one 977 rfl rfl
set_option maxRecDepth 20000 in
theorem wsL_law_r34_4_g : GoodIn lw_tbl [Cond.methodLink RL 205 yL_placeOf, Cond.static yL_placeOf, Cond.code yL_placeOf cL_placeOf 4 (some .int), Cond.methodLink RL 238 yX8_keep, Cond.instanceMethod yX8_keep, Cond.selects RX8 yX8_keep yX8_keep, Cond.code yX8_keep cX8_keep 1 (some .int)] := goodIn_p _ [980, 620] (by decide +kernel) (by decide +kernel)
theorem wsL_law_r34_g : GoodIn lw_tbl wsL_law_r34 := (goodIn_app wsL_law_r34_0_g (goodIn_app wsL_law_r34_3_g wsL_law_r34_4_g))
set_option maxRecDepth 20000 in
theorem wsX80_g : GoodIn lw_tbl wsX80 := goodIn_p wsX80 [] (by decide +kernel) (by decide +kernel)
theorem wsX80_in : ∀ w ∈ wsX80, w ∈ lw_tbl := fun w h => (wsX80_g w h).1
