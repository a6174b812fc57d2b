/-! the words of the law among the tables, in pieces; they are good words -/
theorem goodIn_one {big : List Cond} {w : Cond} (i : Nat) (h : big[i]? = some w) (hc : k2_isCode w = true) : GoodIn big [w] := fun v hv => by
  have e : v = w := List.mem_singleton.mp hv
  subst e
  refine ⟨List.mem_of_getElem? h, ?_⟩
  cases v <;> first | (simp [k2_isCode] at hc; done) | exact Or.inl rfl
set_option maxRecDepth 20000 in
theorem wsL_law_r1_0_g : GoodIn lw_tbl [Cond.classLink RL 14 RX8, Cond.instantiable RX8 8, Cond.initialized RX8, Cond.arrayClass .long, Cond.methodLink RL 209 yL_texts, Cond.static yL_texts, Cond.initialized RL] := goodIn_p _ [] (by decide +kernel) (by decide +kernel)
set_option maxRecDepth 100000 in
set_option maxHeartbeats 4000000 in
theorem wsL_law_r1_7_g : GoodIn lw_tbl [Cond.code yL_texts cL_texts 3 (some .boolean)] := goodIn_one 876 rfl rfl
set_option maxRecDepth 20000 in
theorem wsL_law_r1_8_g : GoodIn lw_tbl [Cond.constantLong RL 139 (53), Cond.constantLong RL 141 (12341), Cond.constantLong RL 143 (48), Cond.constantLong RL 145 (54091677185334), Cond.constantLong RL 147 (211295614005), Cond.constantLong RL 149 (3484724), Cond.constantLong RL 151 (3484720), Cond.constantLong RL 153 (13627), Cond.constantLong RL 155 (58463919813168), Cond.constantLong RL 157 (58463919812662), Cond.constantLong RL 159 (228374686768), Cond.constantLong RL 161 (14966763472039981), Cond.constantLong RL 163 (3831491448842239536), Cond.constantLong RL 165 (3222064), Cond.constantLong RL 167 (12586), Cond.constantLong RL 169 (3222065)] := goodIn_p _ [] (by decide +kernel) (by decide +kernel)
theorem wsL_law_r1_g : GoodIn lw_tbl wsL_law_r1 := (goodIn_app wsL_law_r1_0_g (goodIn_app wsL_law_r1_7_g wsL_law_r1_8_g))
set_option maxRecDepth 20000 in
theorem wsL_law_r2_g : GoodIn lw_tbl wsL_law_r2 := goodIn_p wsL_law_r2 [20, 23] (by decide +kernel) (by decide +kernel)
set_option maxRecDepth 20000 in
theorem wsL_law_r3_g : GoodIn lw_tbl wsL_law_r3 := goodIn_p wsL_law_r3 [28] (by decide +kernel) (by decide +kernel)
set_option maxRecDepth 20000 in
theorem wsL_law_r4_g : GoodIn lw_tbl wsL_law_r4 := goodIn_p wsL_law_r4 [34, 41] (by decide +kernel) (by decide +kernel)
