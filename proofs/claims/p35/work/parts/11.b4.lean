/-! the words of the law's own methods -/
set_option maxRecDepth 100000 in
set_option maxHeartbeats 4000000 in
theorem ks_mixed : GoodIn wsL_law (va_wsS RL 22 yL_mixed wsK_mixed) := goodIn_app (b := wsK_mixed) (goodIn_r _ [670, 671, 6] (by decide +kernel) (by decide +kernel)) (goodIn_app (a := [.code yL_mixed cL_mixed 4 (some .long)]) (goodIn_one 672 rfl rfl) wsL_law_s)
set_option maxRecDepth 100000 in
set_option maxHeartbeats 4000000 in
theorem ks_stations : GoodIn wsL_law (va_wsS RL 43 yL_stations wsK_stations) := goodIn_app (b := wsK_stations) (goodIn_r _ [674, 675, 6] (by decide +kernel) (by decide +kernel)) (goodIn_app (a := [.code yL_stations cL_stations 7 (some .long)]) (goodIn_one 676 rfl rfl) wsL_law_s)
set_option maxRecDepth 100000 in
set_option maxHeartbeats 4000000 in
theorem ks_part : GoodIn wsL_law (va_wsS RL 56 yL_part wsK_part) := goodIn_app (b := wsK_part) (goodIn_r _ [789, 790, 6] (by decide +kernel) (by decide +kernel)) (goodIn_app (a := [.code yL_part cL_part 2 (some .int)]) (goodIn_one 791 rfl rfl) wsL_law_s)
set_option maxRecDepth 100000 in
set_option maxHeartbeats 4000000 in
theorem ks_state : GoodIn wsL_law (va_wsS RL 65 yL_state wsK_state) := goodIn_app (b := wsK_state) (goodIn_r _ [666, 667, 6] (by decide +kernel) (by decide +kernel)) (goodIn_app (a := [.code yL_state cL_state 5 (some .long)]) (goodIn_one 668 rfl rfl) wsL_law_s)
set_option maxRecDepth 100000 in
set_option maxHeartbeats 4000000 in
theorem ks_types : GoodIn wsL_law (va_wsS RL 127 yL_types wsK_types) := goodIn_app (b := wsK_types) (goodIn_r _ [134, 135, 6] (by decide +kernel) (by decide +kernel)) (goodIn_app (a := [.code yL_types cL_types 6 (some .int)]) (goodIn_one 136 rfl rfl) wsL_law_s)
set_option maxRecDepth 100000 in
set_option maxHeartbeats 4000000 in
theorem ks_isTold : GoodIn wsL_law (va_wsS RL 135 yL_isTold wsK_isTold) := goodIn_app (b := wsK_isTold) (goodIn_r _ [126, 127, 6] (by decide +kernel) (by decide +kernel)) (goodIn_app (a := [.code yL_isTold cL_isTold 8 (some .boolean)]) (goodIn_one 128 rfl rfl) wsL_law_s)
set_option maxRecDepth 100000 in
set_option maxHeartbeats 4000000 in
theorem ks_built : GoodIn wsL_law (va_wsS RL 193 yL_built wsK_built) := goodIn_app (b := wsK_built) (goodIn_r _ [345, 346, 6] (by decide +kernel) (by decide +kernel)) (goodIn_app (a := [.code yL_built cL_built 2 (some (.object "MercuryLine"))]) (goodIn_one 347 rfl rfl) wsL_law_s)
set_option maxRecDepth 100000 in
set_option maxHeartbeats 4000000 in
theorem ks_isEvent : GoodIn wsL_law (va_wsS RL 197 yL_isEvent wsK_isEvent) := goodIn_app (b := wsK_isEvent) (goodIn_r _ [589, 590, 6] (by decide +kernel) (by decide +kernel)) (goodIn_app (a := [.code yL_isEvent cL_isEvent 6 (some .boolean)]) (goodIn_one 591 rfl rfl) wsL_law_s)
set_option maxRecDepth 100000 in
set_option maxHeartbeats 4000000 in
theorem ks_refused : GoodIn wsL_law (va_wsS RL 201 yL_refused wsK_refused) := goodIn_app (b := wsK_refused) (goodIn_r _ [661, 662, 6] (by decide +kernel) (by decide +kernel)) (goodIn_app (a := [.code yL_refused cL_refused 8 (some .boolean)]) (goodIn_one 663 rfl rfl) wsL_law_s)
set_option maxRecDepth 100000 in
set_option maxHeartbeats 4000000 in
theorem ks_placeOf : GoodIn wsL_law (va_wsS RL 205 yL_placeOf wsK_placeOf) := goodIn_app (b := wsK_placeOf) (goodIn_r _ [796, 797, 6] (by decide +kernel) (by decide +kernel)) (goodIn_app (a := [.code yL_placeOf cL_placeOf 4 (some .int)]) (goodIn_one 798 rfl rfl) wsL_law_s)
set_option maxRecDepth 100000 in
set_option maxHeartbeats 4000000 in
theorem ks_texts : GoodIn wsL_law (va_wsS RL 209 yL_texts wsK_texts) := goodIn_app (b := wsK_texts) (goodIn_r _ [4, 5, 6] (by decide +kernel) (by decide +kernel)) (goodIn_app (a := [.code yL_texts cL_texts 3 (some .boolean)]) (goodIn_one 7 rfl rfl) wsL_law_s)
set_option maxRecDepth 100000 in
set_option maxHeartbeats 4000000 in
theorem ks_rides : GoodIn wsL_law (va_wsS RL 213 yL_rides wsK_rides) := goodIn_app (b := wsK_rides) (goodIn_r _ [342, 343, 6] (by decide +kernel) (by decide +kernel)) (goodIn_app (a := [.code yL_rides cL_rides 2 (some .boolean)]) (goodIn_one 344 rfl rfl) wsL_law_s)
set_option maxRecDepth 100000 in
set_option maxHeartbeats 4000000 in
theorem ks_pauses : GoodIn wsL_law (va_wsS RL 216 yL_pauses wsK_pauses) := goodIn_app (b := wsK_pauses) (goodIn_r _ [767, 768, 6] (by decide +kernel) (by decide +kernel)) (goodIn_app (a := [.code yL_pauses cL_pauses 2 (some .boolean)]) (goodIn_one 769 rfl rfl) wsL_law_s)
set_option maxRecDepth 100000 in
set_option maxHeartbeats 4000000 in
theorem ks_orders : GoodIn wsL_law (va_wsS RL 219 yL_orders wsK_orders) := goodIn_app (b := wsK_orders) (goodIn_r _ [770, 771, 6] (by decide +kernel) (by decide +kernel)) (goodIn_app (a := [.code yL_orders cL_orders 1 (some .boolean)]) (goodIn_one 772 rfl rfl) wsL_law_s)
set_option maxRecDepth 100000 in
set_option maxHeartbeats 4000000 in
theorem ks_take : GoodIn wsL_law (va_wsS RL 228 yL_take wsK_take) := goodIn_app (b := wsK_take) (goodIn_r _ [782, 783, 6] (by decide +kernel) (by decide +kernel)) (goodIn_app (a := [.code yL_take cL_take 2 (some .int)]) (goodIn_one 784 rfl rfl) wsL_law_s)
set_option maxRecDepth 100000 in
set_option maxHeartbeats 4000000 in
theorem ks_lays : GoodIn wsL_law (va_wsS RL 232 yL_lays wsK_lays) := goodIn_app (b := wsK_lays) (goodIn_r _ [786, 787, 6] (by decide +kernel) (by decide +kernel)) (goodIn_app (a := [.code yL_lays cL_lays 8 (some .int)]) (goodIn_one 788 rfl rfl) wsL_law_s)
set_option maxRecDepth 100000 in
set_option maxHeartbeats 4000000 in
theorem ks_change : GoodIn wsL_law (va_wsS RL 235 yL_change wsK_change) := goodIn_app (b := wsK_change) (goodIn_r _ [793, 794, 6] (by decide +kernel) (by decide +kernel)) (goodIn_app (a := [.code yL_change cL_change 5 (some .int)]) (goodIn_one 795 rfl rfl) wsL_law_s)
