/-! the words of the law among the tables, in pieces; they are good words -/
set_option maxRecDepth 20000 in
theorem wsL_law_r15_g : GoodIn lw_tbl wsL_law_r15 := goodIn_p wsL_law_r15 [462, 962, 965, 744, 651] (by decide +kernel) (by decide +kernel)
set_option maxRecDepth 20000 in
theorem wsL_law_r16_g : GoodIn lw_tbl wsL_law_r16 := goodIn_p wsL_law_r16 [748, 752, 756, 816, 704] (by decide +kernel) (by decide +kernel)
set_option maxRecDepth 20000 in
theorem wsL_law_r17_g : GoodIn lw_tbl wsL_law_r17 := goodIn_p wsL_law_r17 [520, 864, 844] (by decide +kernel) (by decide +kernel)
set_option maxRecDepth 20000 in
theorem wsL_law_r18_g : GoodIn lw_tbl wsL_law_r18 := goodIn_p wsL_law_r18 [466, 470, 474, 478, 499] (by decide +kernel) (by decide +kernel)
set_option maxRecDepth 20000 in
theorem wsL_law_r19_g : GoodIn lw_tbl wsL_law_r19 := goodIn_p wsL_law_r19 [503, 507, 511, 515] (by decide +kernel) (by decide +kernel)
set_option maxRecDepth 20000 in
theorem wsL_law_r20_g : GoodIn lw_tbl wsL_law_r20 := goodIn_p wsL_law_r20 [524, 528, 532, 536] (by decide +kernel) (by decide +kernel)
set_option maxRecDepth 20000 in
theorem wsL_law_r21_g : GoodIn lw_tbl wsL_law_r21 := goodIn_p wsL_law_r21 [540, 544, 548, 552, 556] (by decide +kernel) (by decide +kernel)
