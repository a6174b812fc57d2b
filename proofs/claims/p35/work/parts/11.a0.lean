/-! the words of the law among the tables, in pieces; they are good words -/
set_option maxRecDepth 20000 in
theorem wsL_law_r1_g : GoodIn lw_tbl wsL_law_r1 := goodIn_p wsL_law_r1 [876] (by decide +kernel) (by decide +kernel)
set_option maxRecDepth 20000 in
theorem wsL_law_r2_g : GoodIn lw_tbl wsL_law_r2 := goodIn_p wsL_law_r2 [20, 23] (by decide +kernel) (by decide +kernel)
set_option maxRecDepth 20000 in
theorem wsL_law_r3_g : GoodIn lw_tbl wsL_law_r3 := goodIn_p wsL_law_r3 [28] (by decide +kernel) (by decide +kernel)
set_option maxRecDepth 20000 in
theorem wsL_law_r4_g : GoodIn lw_tbl wsL_law_r4 := goodIn_p wsL_law_r4 [34, 41] (by decide +kernel) (by decide +kernel)
set_option maxRecDepth 20000 in
theorem wsL_law_r5_g : GoodIn lw_tbl wsL_law_r5 := goodIn_p wsL_law_r5 [144, 159, 165, 268] (by decide +kernel) (by decide +kernel)
set_option maxRecDepth 20000 in
theorem wsL_law_r6_g : GoodIn lw_tbl wsL_law_r6 := goodIn_p wsL_law_r6 [358, 879, 883, 886, 891] (by decide +kernel) (by decide +kernel)
set_option maxRecDepth 20000 in
theorem wsL_law_r7_g : GoodIn lw_tbl wsL_law_r7 := goodIn_p wsL_law_r7 [895, 416, 900, 904, 908] (by decide +kernel) (by decide +kernel)
