/-! single words of the law, by their places -/
set_option maxRecDepth 20000 in
theorem kw_classLink_RL_14_RX8 : Cond.classLink RL 14 RX8 ∈ wsL_law := List.mem_of_getElem? (i := 0) (by decide +kernel)
set_option maxRecDepth 20000 in
theorem kw_instantiable_RX8_8 : Cond.instantiable RX8 8 ∈ wsL_law := List.mem_of_getElem? (i := 1) (by decide +kernel)
set_option maxRecDepth 20000 in
theorem kw_initialized_RX8 : Cond.initialized RX8 ∈ wsL_law := List.mem_of_getElem? (i := 2) (by decide +kernel)
set_option maxRecDepth 20000 in
theorem kw_arrayClass_long : Cond.arrayClass .long ∈ wsL_law := List.mem_of_getElem? (i := 3) (by decide +kernel)
set_option maxRecDepth 20000 in
theorem kw_initialized_RL : Cond.initialized RL ∈ wsL_law := List.mem_of_getElem? (i := 6) (by decide +kernel)
set_option maxRecDepth 20000 in
theorem kw_constantLong_RL_139 : Cond.constantLong RL 139 (53) ∈ wsL_law := List.mem_of_getElem? (i := 8) (by decide +kernel)
set_option maxRecDepth 20000 in
theorem kw_constantLong_RL_141 : Cond.constantLong RL 141 (12341) ∈ wsL_law := List.mem_of_getElem? (i := 9) (by decide +kernel)
set_option maxRecDepth 20000 in
theorem kw_constantLong_RL_143 : Cond.constantLong RL 143 (48) ∈ wsL_law := List.mem_of_getElem? (i := 10) (by decide +kernel)
set_option maxRecDepth 20000 in
theorem kw_constantLong_RL_145 : Cond.constantLong RL 145 (54091677185334) ∈ wsL_law := List.mem_of_getElem? (i := 11) (by decide +kernel)
set_option maxRecDepth 20000 in
theorem kw_constantLong_RL_147 : Cond.constantLong RL 147 (211295614005) ∈ wsL_law := List.mem_of_getElem? (i := 12) (by decide +kernel)
set_option maxRecDepth 20000 in
theorem kw_constantLong_RL_149 : Cond.constantLong RL 149 (3484724) ∈ wsL_law := List.mem_of_getElem? (i := 13) (by decide +kernel)
set_option maxRecDepth 20000 in
theorem kw_constantLong_RL_151 : Cond.constantLong RL 151 (3484720) ∈ wsL_law := List.mem_of_getElem? (i := 14) (by decide +kernel)
set_option maxRecDepth 20000 in
theorem kw_constantLong_RL_153 : Cond.constantLong RL 153 (13627) ∈ wsL_law := List.mem_of_getElem? (i := 15) (by decide +kernel)
set_option maxRecDepth 20000 in
theorem kw_constantLong_RL_155 : Cond.constantLong RL 155 (58463919813168) ∈ wsL_law := List.mem_of_getElem? (i := 16) (by decide +kernel)
set_option maxRecDepth 20000 in
theorem kw_constantLong_RL_157 : Cond.constantLong RL 157 (58463919812662) ∈ wsL_law := List.mem_of_getElem? (i := 17) (by decide +kernel)
set_option maxRecDepth 20000 in
theorem kw_constantLong_RL_159 : Cond.constantLong RL 159 (228374686768) ∈ wsL_law := List.mem_of_getElem? (i := 18) (by decide +kernel)
set_option maxRecDepth 20000 in
theorem kw_constantLong_RL_161 : Cond.constantLong RL 161 (14966763472039981) ∈ wsL_law := List.mem_of_getElem? (i := 19) (by decide +kernel)
set_option maxRecDepth 20000 in
theorem kw_constantLong_RL_163 : Cond.constantLong RL 163 (3831491448842239536) ∈ wsL_law := List.mem_of_getElem? (i := 20) (by decide +kernel)
set_option maxRecDepth 20000 in
theorem kw_constantLong_RL_165 : Cond.constantLong RL 165 (3222064) ∈ wsL_law := List.mem_of_getElem? (i := 21) (by decide +kernel)
set_option maxRecDepth 20000 in
theorem kw_constantLong_RL_167 : Cond.constantLong RL 167 (12586) ∈ wsL_law := List.mem_of_getElem? (i := 22) (by decide +kernel)
set_option maxRecDepth 20000 in
theorem kw_constantLong_RL_169 : Cond.constantLong RL 169 (3222065) ∈ wsL_law := List.mem_of_getElem? (i := 23) (by decide +kernel)
set_option maxRecDepth 20000 in
theorem kw_constantLong_RL_171 : Cond.constantLong RL 171 (824848699) ∈ wsL_law := List.mem_of_getElem? (i := 24) (by decide +kernel)
set_option maxRecDepth 20000 in
theorem kw_constantLong_RL_173 : Cond.constantLong RL 173 (824848684) ∈ wsL_law := List.mem_of_getElem? (i := 25) (by decide +kernel)
set_option maxRecDepth 20000 in
theorem kw_constantLong_RL_175 : Cond.constantLong RL 175 (3906086745882243372) ∈ wsL_law := List.mem_of_getElem? (i := 26) (by decide +kernel)
set_option maxRecDepth 20000 in
theorem kw_constantLong_RL_177 : Cond.constantLong RL 177 (13563842536745521) ∈ wsL_law := List.mem_of_getElem? (i := 27) (by decide +kernel)
set_option maxRecDepth 20000 in
theorem kw_constantLong_RL_179 : Cond.constantLong RL 179 (4123389851769516844) ∈ wsL_law := List.mem_of_getElem? (i := 28) (by decide +kernel)
set_option maxRecDepth 20000 in
theorem kw_constantLong_RL_181 : Cond.constantLong RL 181 (13850815071857209) ∈ wsL_law := List.mem_of_getElem? (i := 29) (by decide +kernel)
set_option maxRecDepth 20000 in
theorem kw_constantLong_RL_183 : Cond.constantLong RL 183 (120) ∈ wsL_law := List.mem_of_getElem? (i := 30) (by decide +kernel)
set_option maxRecDepth 20000 in
theorem kw_constantLong_RL_185 : Cond.constantLong RL 185 (44) ∈ wsL_law := List.mem_of_getElem? (i := 31) (by decide +kernel)
set_option maxRecDepth 20000 in
theorem kw_constantLong_RL_187 : Cond.constantLong RL 187 (3471203478669442609) ∈ wsL_law := List.mem_of_getElem? (i := 32) (by decide +kernel)
set_option maxRecDepth 20000 in
theorem kw_constantLong_RL_189 : Cond.constantLong RL 189 (3222073) ∈ wsL_law := List.mem_of_getElem? (i := 33) (by decide +kernel)
set_option maxRecDepth 20000 in
theorem kw_constantLong_RL_191 : Cond.constantLong RL 191 (3975607736446500400) ∈ wsL_law := List.mem_of_getElem? (i := 34) (by decide +kernel)
set_option maxRecDepth 20000 in
theorem kw_methodLink_RL_134_yX8_init : Cond.methodLink RL 134 yX8_init ∈ wsL_law := List.mem_of_getElem? (i := 35) (by decide +kernel)
set_option maxRecDepth 20000 in
theorem kw_instanceMethod_yX8_init : Cond.instanceMethod yX8_init ∈ wsL_law := List.mem_of_getElem? (i := 36) (by decide +kernel)
set_option maxRecDepth 20000 in
theorem kw_initialized_RX3 : Cond.initialized RX3 ∈ wsL_law := List.mem_of_getElem? (i := 43) (by decide +kernel)
set_option maxRecDepth 20000 in
theorem kw_initialized_RX6 : Cond.initialized RX6 ∈ wsL_law := List.mem_of_getElem? (i := 50) (by decide +kernel)
set_option maxRecDepth 20000 in
theorem kw_initialized_RX7 : Cond.initialized RX7 ∈ wsL_law := List.mem_of_getElem? (i := 54) (by decide +kernel)
set_option maxRecDepth 20000 in
theorem kw_initialized_RX0 : Cond.initialized RX0 ∈ wsL_law := List.mem_of_getElem? (i := 62) (by decide +kernel)
set_option maxRecDepth 20000 in
theorem kw_initialized_RX1 : Cond.initialized RX1 ∈ wsL_law := List.mem_of_getElem? (i := 71) (by decide +kernel)
set_option maxRecDepth 20000 in
theorem kw_initialized_RX5 : Cond.initialized RX5 ∈ wsL_law := List.mem_of_getElem? (i := 76) (by decide +kernel)
set_option maxRecDepth 20000 in
theorem kw_initialized_RX2 : Cond.initialized RX2 ∈ wsL_law := List.mem_of_getElem? (i := 78) (by decide +kernel)
set_option maxRecDepth 20000 in
theorem kw_arrayClass_int : Cond.arrayClass .int ∈ wsL_law := List.mem_of_getElem? (i := 83) (by decide +kernel)
set_option maxRecDepth 20000 in
theorem kw_initialized_RX4 : Cond.initialized RX4 ∈ wsL_law := List.mem_of_getElem? (i := 90) (by decide +kernel)
set_option maxRecDepth 20000 in
theorem kw_arrayClass_char : Cond.arrayClass .char ∈ wsL_law := List.mem_of_getElem? (i := 122) (by decide +kernel)
set_option maxRecDepth 20000 in
theorem kw_constantLong_RL_117 : Cond.constantLong RL 117 (127) ∈ wsL_law := List.mem_of_getElem? (i := 137) (by decide +kernel)
set_option maxRecDepth 20000 in
theorem kw_initialized_java_lang_System : Cond.initialized "java/lang/System" ∈ wsL_law := List.mem_of_getElem? (i := 256) (by decide +kernel)
set_option maxRecDepth 20000 in
theorem kw_initialized_RJ9 : Cond.initialized RJ9 ∈ wsL_law := List.mem_of_getElem? (i := 603) (by decide +kernel)
set_option maxRecDepth 20000 in
theorem kw_constant_RL_115 : Cond.constant RL 115 (65536) ∈ wsL_law := List.mem_of_getElem? (i := 664) (by decide +kernel)
set_option maxRecDepth 20000 in
theorem kw_constant_RL_116 : Cond.constant RL 116 (65537) ∈ wsL_law := List.mem_of_getElem? (i := 665) (by decide +kernel)
set_option maxRecDepth 20000 in
theorem kw_constantLong_RL_34 : Cond.constantLong RL 34 (7) ∈ wsL_law := List.mem_of_getElem? (i := 669) (by decide +kernel)
set_option maxRecDepth 20000 in
theorem kw_constantLong_RL_9 : Cond.constantLong RL 9 (31) ∈ wsL_law := List.mem_of_getElem? (i := 673) (by decide +kernel)
set_option maxRecDepth 20000 in
theorem kw_constantLong_RL_11 : Cond.constantLong RL 11 (5) ∈ wsL_law := List.mem_of_getElem? (i := 677) (by decide +kernel)
set_option maxRecDepth 20000 in
theorem kw_initialized_java_lang_Math : Cond.initialized "java/lang/Math" ∈ wsL_law := List.mem_of_getElem? (i := 718) (by decide +kernel)
set_option maxRecDepth 20000 in
theorem kw_constant_RL_8 : Cond.constant RL 8 (2654435) ∈ wsL_law := List.mem_of_getElem? (i := 785) (by decide +kernel)
set_option maxRecDepth 20000 in
theorem kw_constant_RL_7 : Cond.constant RL 7 (2147483647) ∈ wsL_law := List.mem_of_getElem? (i := 792) (by decide +kernel)
