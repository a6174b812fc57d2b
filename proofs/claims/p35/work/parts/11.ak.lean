/-! the words of the law among the tables, in pieces; they are good words -/
theorem wsX00_in : ∀ w ∈ wsX00, w ∈ lw_tbl := fun w h => (wsX00_g w h).1
set_option maxRecDepth 20000 in
theorem wsX10_g : GoodIn lw_tbl wsX10 := goodIn_p wsX10 [] (by decide +kernel) (by decide +kernel)
theorem wsX10_in : ∀ w ∈ wsX10, w ∈ lw_tbl := fun w h => (wsX10_g w h).1
set_option maxRecDepth 20000 in
theorem wsX50_g : GoodIn lw_tbl wsX50 := goodIn_p wsX50 [] (by decide +kernel) (by decide +kernel)
theorem wsX50_in : ∀ w ∈ wsX50, w ∈ lw_tbl := fun w h => (wsX50_g w h).1
set_option maxRecDepth 20000 in
theorem wsX20_g : GoodIn lw_tbl wsX20 := goodIn_p wsX20 [] (by decide +kernel) (by decide +kernel)
theorem wsX20_in : ∀ w ∈ wsX20, w ∈ lw_tbl := fun w h => (wsX20_g w h).1
