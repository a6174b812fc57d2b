/-! the words of the law among the tables, in pieces; they are good words -/
set_option maxRecDepth 20000 in
theorem wsL_law_r1_g : GoodIn lw_tbl wsL_law_r1 := goodIn_p wsL_law_r1 [876] (by decide +kernel) (by decide +kernel)
set_option maxRecDepth 20000 in
theorem wsL_law_r2_g : GoodIn lw_tbl wsL_law_r2 := goodIn_p wsL_law_r2 [20, 23] (by decide +kernel) (by decide +kernel)
set_option maxRecDepth 20000 in
theorem wsL_law_r3_g : GoodIn lw_tbl wsL_law_r3 := goodIn_p wsL_law_r3 [28] (by decide +kernel) (by decide +kernel)
set_option maxRecDepth 20000 in
theorem wsL_law_r4_g : GoodIn lw_tbl wsL_law_r4 := goodIn_p wsL_law_r4 [34, 41] (by decide +kernel) (by decide +kernel)
set_option maxRecDepth 20000 in
theorem wsL_law_r5_g : GoodIn lw_tbl wsL_law_r5 := goodIn_p wsL_law_r5 [144, 159, 165, 268] (by decide +kernel) (by decide +kernel)
set_option maxRecDepth 20000 in
theorem wsL_law_r6_g : GoodIn lw_tbl wsL_law_r6 := goodIn_p wsL_law_r6 [358, 879, 883, 886, 891] (by decide +kernel) (by decide +kernel)
set_option maxRecDepth 20000 in
theorem wsL_law_r7_g : GoodIn lw_tbl wsL_law_r7 := goodIn_p wsL_law_r7 [895, 416, 900, 904, 908] (by decide +kernel) (by decide +kernel)
set_option maxRecDepth 20000 in
theorem wsL_law_r8_g : GoodIn lw_tbl wsL_law_r8 := goodIn_p wsL_law_r8 [912, 916, 920, 924, 928] (by decide +kernel) (by decide +kernel)
set_option maxRecDepth 20000 in
theorem wsL_law_r9_g : GoodIn lw_tbl wsL_law_r9 := goodIn_p wsL_law_r9 [932, 820, 674, 564, 678] (by decide +kernel) (by decide +kernel)
set_option maxRecDepth 20000 in
theorem wsL_law_r10_g : GoodIn lw_tbl wsL_law_r10 := goodIn_p wsL_law_r10 [825, 482, 420, 424] (by decide +kernel) (by decide +kernel)
set_option maxRecDepth 20000 in
theorem wsL_law_r11_g : GoodIn lw_tbl wsL_law_r11 := goodIn_p wsL_law_r11 [428, 432] (by decide +kernel) (by decide +kernel)
set_option maxRecDepth 20000 in
theorem wsL_law_r12_g : GoodIn lw_tbl wsL_law_r12 := goodIn_p wsL_law_r12 [439, 444] (by decide +kernel) (by decide +kernel)
set_option maxRecDepth 20000 in
theorem wsL_law_r13_g : GoodIn lw_tbl wsL_law_r13 := goodIn_p wsL_law_r13 [448, 452, 457] (by decide +kernel) (by decide +kernel)
set_option maxRecDepth 20000 in
theorem wsL_law_r14_g : GoodIn lw_tbl wsL_law_r14 := goodIn_p wsL_law_r14 [486, 491, 495, 628] (by decide +kernel) (by decide +kernel)
set_option maxRecDepth 20000 in
theorem wsL_law_r15_g : GoodIn lw_tbl wsL_law_r15 := goodIn_p wsL_law_r15 [462, 962, 965, 744, 651] (by decide +kernel) (by decide +kernel)
set_option maxRecDepth 20000 in
theorem wsL_law_r16_g : GoodIn lw_tbl wsL_law_r16 := goodIn_p wsL_law_r16 [748, 752, 756, 816, 704] (by decide +kernel) (by decide +kernel)
set_option maxRecDepth 20000 in
theorem wsL_law_r17_g : GoodIn lw_tbl wsL_law_r17 := goodIn_p wsL_law_r17 [520, 864, 844] (by decide +kernel) (by decide +kernel)
set_option maxRecDepth 20000 in
theorem wsL_law_r18_g : GoodIn lw_tbl wsL_law_r18 := goodIn_p wsL_law_r18 [466, 470, 474, 478, 499] (by decide +kernel) (by decide +kernel)
set_option maxRecDepth 20000 in
theorem wsL_law_r19_g : GoodIn lw_tbl wsL_law_r19 := goodIn_p wsL_law_r19 [503, 507, 511, 515] (by decide +kernel) (by decide +kernel)
set_option maxRecDepth 20000 in
theorem wsL_law_r20_g : GoodIn lw_tbl wsL_law_r20 := goodIn_p wsL_law_r20 [524, 528, 532, 536] (by decide +kernel) (by decide +kernel)
set_option maxRecDepth 20000 in
theorem wsL_law_r21_g : GoodIn lw_tbl wsL_law_r21 := goodIn_p wsL_law_r21 [540, 544, 548, 552, 556] (by decide +kernel) (by decide +kernel)
set_option maxRecDepth 20000 in
theorem wsL_law_r22_g : GoodIn lw_tbl wsL_law_r22 := goodIn_p wsL_law_r22 [560, 568, 572, 576, 580, 584] (by decide +kernel) (by decide +kernel)
set_option maxRecDepth 20000 in
theorem wsL_law_r23_g : GoodIn lw_tbl wsL_law_r23 := goodIn_p wsL_law_r23 [588, 592, 596, 600, 604] (by decide +kernel) (by decide +kernel)
set_option maxRecDepth 20000 in
theorem wsL_law_r24_g : GoodIn lw_tbl wsL_law_r24 := goodIn_p wsL_law_r24 [608, 612, 867, 833, 810] (by decide +kernel) (by decide +kernel)
set_option maxRecDepth 20000 in
theorem wsL_law_r25_g : GoodIn lw_tbl wsL_law_r25 := goodIn_p wsL_law_r25 [836, 413, 661, 968, 717] (by decide +kernel) (by decide +kernel)
set_option maxRecDepth 20000 in
theorem wsL_law_r26_g : GoodIn lw_tbl wsL_law_r26 := goodIn_p wsL_law_r26 [721, 725, 670, 683, 687] (by decide +kernel) (by decide +kernel)
set_option maxRecDepth 20000 in
theorem wsL_law_r27_g : GoodIn lw_tbl wsL_law_r27 := goodIn_p wsL_law_r27 [648, 656, 791, 796] (by decide +kernel) (by decide +kernel)
set_option maxRecDepth 20000 in
theorem wsL_law_r28_g : GoodIn lw_tbl wsL_law_r28 := goodIn_p wsL_law_r28 [699, 801, 806, 759, 639] (by decide +kernel) (by decide +kernel)
set_option maxRecDepth 20000 in
theorem wsL_law_r29_g : GoodIn lw_tbl wsL_law_r29 := goodIn_p wsL_law_r29 [643, 665, 691, 695, 709] (by decide +kernel) (by decide +kernel)
set_option maxRecDepth 20000 in
theorem wsL_law_r30_g : GoodIn lw_tbl wsL_law_r30 := goodIn_p wsL_law_r30 [713, 732, 736, 740, 763, 766] (by decide +kernel) (by decide +kernel)
set_option maxRecDepth 20000 in
theorem wsL_law_r31_g : GoodIn lw_tbl wsL_law_r31 := goodIn_p wsL_law_r31 [770, 774, 778, 782, 786] (by decide +kernel) (by decide +kernel)
set_option maxRecDepth 20000 in
theorem wsL_law_r32_g : GoodIn lw_tbl wsL_law_r32 := goodIn_p wsL_law_r32 [840, 848, 852, 856, 860, 871] (by decide +kernel) (by decide +kernel)
set_option maxRecDepth 20000 in
theorem wsL_law_r33_g : GoodIn lw_tbl wsL_law_r33 := goodIn_p wsL_law_r33 [971, 974, 616, 624, 635, 728, 631] (by decide +kernel) (by decide +kernel)
set_option maxRecDepth 20000 in
theorem wsL_law_r34_g : GoodIn lw_tbl wsL_law_r34 := goodIn_p wsL_law_r34 [977, 980, 620] (by decide +kernel) (by decide +kernel)
set_option maxRecDepth 20000 in
theorem wsX80_g : GoodIn lw_tbl wsX80 := goodIn_p wsX80 [] (by decide +kernel) (by decide +kernel)
theorem wsX80_in : ∀ w ∈ wsX80, w ∈ lw_tbl := fun w h => (wsX80_g w h).1
set_option maxRecDepth 20000 in
theorem wsX30_g : GoodIn lw_tbl wsX30 := goodIn_p wsX30 [] (by decide +kernel) (by decide +kernel)
theorem wsX30_in : ∀ w ∈ wsX30, w ∈ lw_tbl := fun w h => (wsX30_g w h).1
set_option maxRecDepth 20000 in
theorem wsX60_g : GoodIn lw_tbl wsX60 := goodIn_p wsX60 [] (by decide +kernel) (by decide +kernel)
theorem wsX60_in : ∀ w ∈ wsX60, w ∈ lw_tbl := fun w h => (wsX60_g w h).1
set_option maxRecDepth 20000 in
theorem wsX70_g : GoodIn lw_tbl wsX70 := goodIn_p wsX70 [] (by decide +kernel) (by decide +kernel)
theorem wsX70_in : ∀ w ∈ wsX70, w ∈ lw_tbl := fun w h => (wsX70_g w h).1
set_option maxRecDepth 20000 in
theorem wsX00_g : GoodIn lw_tbl wsX00 := goodIn_p wsX00 [] (by decide +kernel) (by decide +kernel)
theorem wsX00_in : ∀ w ∈ wsX00, w ∈ lw_tbl := fun w h => (wsX00_g w h).1
set_option maxRecDepth 20000 in
theorem wsX10_g : GoodIn lw_tbl wsX10 := goodIn_p wsX10 [] (by decide +kernel) (by decide +kernel)
theorem wsX10_in : ∀ w ∈ wsX10, w ∈ lw_tbl := fun w h => (wsX10_g w h).1
set_option maxRecDepth 20000 in
theorem wsX50_g : GoodIn lw_tbl wsX50 := goodIn_p wsX50 [] (by decide +kernel) (by decide +kernel)
theorem wsX50_in : ∀ w ∈ wsX50, w ∈ lw_tbl := fun w h => (wsX50_g w h).1
set_option maxRecDepth 20000 in
theorem wsX20_g : GoodIn lw_tbl wsX20 := goodIn_p wsX20 [] (by decide +kernel) (by decide +kernel)
theorem wsX20_in : ∀ w ∈ wsX20, w ∈ lw_tbl := fun w h => (wsX20_g w h).1
set_option maxRecDepth 20000 in
theorem wsX40_g : GoodIn lw_tbl wsX40 := goodIn_p wsX40 [] (by decide +kernel) (by decide +kernel)
theorem wsX40_in : ∀ w ∈ wsX40, w ∈ lw_tbl := fun w h => (wsX40_g w h).1
theorem wsL_law_g : GoodIn lw_tbl wsL_law := (goodIn_app (goodIn_app (goodIn_app (goodIn_app (goodIn_app (goodIn_app (goodIn_app (goodIn_app (goodIn_app (goodIn_app (goodIn_app wsL_law_r1_g (goodIn_app wsL_law_r2_g (goodIn_app wsL_law_r3_g (goodIn_app wsL_law_r4_g (goodIn_app wsL_law_r5_g (goodIn_app wsL_law_r6_g (goodIn_app wsL_law_r7_g (goodIn_app wsL_law_r8_g (goodIn_app wsL_law_r9_g (goodIn_app wsL_law_r10_g (goodIn_app wsL_law_r11_g (goodIn_app wsL_law_r12_g (goodIn_app wsL_law_r13_g (goodIn_app wsL_law_r14_g (goodIn_app wsL_law_r15_g (goodIn_app wsL_law_r16_g (goodIn_app wsL_law_r17_g (goodIn_app wsL_law_r18_g (goodIn_app wsL_law_r19_g (goodIn_app wsL_law_r20_g (goodIn_app wsL_law_r21_g (goodIn_app wsL_law_r22_g (goodIn_app wsL_law_r23_g (goodIn_app wsL_law_r24_g (goodIn_app wsL_law_r25_g (goodIn_app wsL_law_r26_g (goodIn_app wsL_law_r27_g (goodIn_app wsL_law_r28_g (goodIn_app wsL_law_r29_g (goodIn_app wsL_law_r30_g (goodIn_app wsL_law_r31_g (goodIn_app wsL_law_r32_g (goodIn_app wsL_law_r33_g wsL_law_r34_g))))))))))))))))))))))))))))))))) wsX80_g) wsX30_g) wsX60_g) wsX70_g) wsX00_g) wsX10_g) wsX50_g) wsX20_g) wsX40_g) (fun _ h => nomatch h))
theorem wsL_law_all : ∀ w ∈ wsL_law, w ∈ lw_tbl := fun w h => (wsL_law_g w h).1
theorem wsL_law_s : GoodIn wsL_law wsL_law := fun w h => ⟨h, (wsL_law_g w h).2⟩
theorem inlX0 : ∀ w ∈ wsX00, w ∈ wsL_law := fun _ h => List.mem_append_left _ (List.mem_append_left _ (List.mem_append_left _ (List.mem_append_left _ (List.mem_append_left _ (List.mem_append_right _ h)))))
theorem inlX1 : ∀ w ∈ wsX10, w ∈ wsL_law := fun _ h => List.mem_append_left _ (List.mem_append_left _ (List.mem_append_left _ (List.mem_append_left _ (List.mem_append_right _ h))))
theorem inlX2 : ∀ w ∈ wsX20, w ∈ wsL_law := fun _ h => List.mem_append_left _ (List.mem_append_left _ (List.mem_append_right _ h))
theorem inlX3 : ∀ w ∈ wsX30, w ∈ wsL_law := fun _ h => List.mem_append_left _ (List.mem_append_left _ (List.mem_append_left _ (List.mem_append_left _ (List.mem_append_left _ (List.mem_append_left _ (List.mem_append_left _ (List.mem_append_left _ (List.mem_append_right _ h))))))))
theorem inlX4 : ∀ w ∈ wsX40, w ∈ wsL_law := fun _ h => List.mem_append_left _ (List.mem_append_right _ h)
theorem inlX5 : ∀ w ∈ wsX50, w ∈ wsL_law := fun _ h => List.mem_append_left _ (List.mem_append_left _ (List.mem_append_left _ (List.mem_append_right _ h)))
theorem inlX6 : ∀ w ∈ wsX60, w ∈ wsL_law := fun _ h => List.mem_append_left _ (List.mem_append_left _ (List.mem_append_left _ (List.mem_append_left _ (List.mem_append_left _ (List.mem_append_left _ (List.mem_append_left _ (List.mem_append_right _ h)))))))
theorem inlX7 : ∀ w ∈ wsX70, w ∈ wsL_law := fun _ h => List.mem_append_left _ (List.mem_append_left _ (List.mem_append_left _ (List.mem_append_left _ (List.mem_append_left _ (List.mem_append_left _ (List.mem_append_right _ h))))))
theorem inlX8 : ∀ w ∈ wsX80, w ∈ wsL_law := fun _ h => List.mem_append_left _ (List.mem_append_left _ (List.mem_append_left _ (List.mem_append_left _ (List.mem_append_left _ (List.mem_append_left _ (List.mem_append_left _ (List.mem_append_left _ (List.mem_append_left _ (List.mem_append_right _ h)))))))))
/-- the other methods of the law take its words, behind their own code -/
def wsK_part : List Cond := .code yL_part cL_part 2 (some .int) :: wsL_law
def wsK_take : List Cond := .code yL_take cL_take 2 (some .int) :: wsL_law
def wsK_mixed : List Cond := .code yL_mixed cL_mixed 4 (some .long) :: wsL_law
def wsK_stations : List Cond := .code yL_stations cL_stations 7 (some .long) :: wsL_law
def wsK_state : List Cond := .code yL_state cL_state 5 (some .long) :: wsL_law
def wsK_placeOf : List Cond := .code yL_placeOf cL_placeOf 4 (some .int) :: wsL_law
def wsK_lays : List Cond := .code yL_lays cL_lays 8 (some .int) :: wsL_law
def wsK_refused : List Cond := .code yL_refused cL_refused 8 (some .boolean) :: wsL_law
def wsK_types : List Cond := .code yL_types cL_types 6 (some .int) :: wsL_law
def wsK_isTold : List Cond := .code yL_isTold cL_isTold 8 (some .boolean) :: wsL_law
def wsK_texts : List Cond := .code yL_texts cL_texts 3 (some .boolean) :: wsL_law
def wsK_built : List Cond := .code yL_built cL_built 2 (some (.object "MercuryLine")) :: wsL_law
def wsK_isEvent : List Cond := .code yL_isEvent cL_isEvent 6 (some .boolean) :: wsL_law
def wsK_rides : List Cond := .code yL_rides cL_rides 2 (some .boolean) :: wsL_law
def wsK_pauses : List Cond := .code yL_pauses cL_pauses 2 (some .boolean) :: wsL_law
def wsK_orders : List Cond := .code yL_orders cL_orders 1 (some .boolean) :: wsL_law
def wsK_change : List Cond := .code yL_change cL_change 5 (some .int) :: wsL_law
theorem kIn {c : Cond} {ws : List Cond} (h : GoodIn wsL_law ws) : GoodIn (c :: wsL_law) ws := fun w q => ⟨List.mem_cons_of_mem _ (h w q).1, (h w q).2⟩
