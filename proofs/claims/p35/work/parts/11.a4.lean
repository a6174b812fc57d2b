/-! the words of the law among the tables, in pieces; they are good words -/
set_option maxRecDepth 20000 in
theorem wsL_law_r29_g : GoodIn lw_tbl wsL_law_r29 := goodIn_p wsL_law_r29 [643, 665, 691, 695, 709] (by decide +kernel) (by decide +kernel)
set_option maxRecDepth 20000 in
theorem wsL_law_r30_g : GoodIn lw_tbl wsL_law_r30 := goodIn_p wsL_law_r30 [713, 732, 736, 740, 763, 766] (by decide +kernel) (by decide +kernel)
set_option maxRecDepth 20000 in
theorem wsL_law_r31_g : GoodIn lw_tbl wsL_law_r31 := goodIn_p wsL_law_r31 [770, 774, 778, 782, 786] (by decide +kernel) (by decide +kernel)
set_option maxRecDepth 20000 in
theorem wsL_law_r32_g : GoodIn lw_tbl wsL_law_r32 := goodIn_p wsL_law_r32 [840, 848, 852, 856, 860, 871] (by decide +kernel) (by decide +kernel)
set_option maxRecDepth 20000 in
theorem wsL_law_r33_g : GoodIn lw_tbl wsL_law_r33 := goodIn_p wsL_law_r33 [971, 974, 616, 624, 635, 728, 631] (by decide +kernel) (by decide +kernel)
set_option maxRecDepth 20000 in
theorem wsL_law_r34_g : GoodIn lw_tbl wsL_law_r34 := goodIn_p wsL_law_r34 [977, 980, 620] (by decide +kernel) (by decide +kernel)
set_option maxRecDepth 20000 in
theorem wsX80_g : GoodIn lw_tbl wsX80 := goodIn_p wsX80 [] (by decide +kernel) (by decide +kernel)
