/-! the words of the law, together -/
theorem wsL_law_g : GoodIn lw_tbl wsL_law := (goodIn_app (goodIn_app (goodIn_app (goodIn_app (goodIn_app (goodIn_app (goodIn_app (goodIn_app (goodIn_app (goodIn_app (goodIn_app wsL_law_r1_g (goodIn_app wsL_law_r2_g (goodIn_app wsL_law_r3_g (goodIn_app wsL_law_r4_g (goodIn_app wsL_law_r5_g (goodIn_app wsL_law_r6_g (goodIn_app wsL_law_r7_g (goodIn_app wsL_law_r8_g (goodIn_app wsL_law_r9_g (goodIn_app wsL_law_r10_g (goodIn_app wsL_law_r11_g (goodIn_app wsL_law_r12_g (goodIn_app wsL_law_r13_g (goodIn_app wsL_law_r14_g (goodIn_app wsL_law_r15_g (goodIn_app wsL_law_r16_g (goodIn_app wsL_law_r17_g (goodIn_app wsL_law_r18_g (goodIn_app wsL_law_r19_g (goodIn_app wsL_law_r20_g (goodIn_app wsL_law_r21_g (goodIn_app wsL_law_r22_g (goodIn_app wsL_law_r23_g (goodIn_app wsL_law_r24_g (goodIn_app wsL_law_r25_g (goodIn_app wsL_law_r26_g (goodIn_app wsL_law_r27_g (goodIn_app wsL_law_r28_g (goodIn_app wsL_law_r29_g (goodIn_app wsL_law_r30_g (goodIn_app wsL_law_r31_g (goodIn_app wsL_law_r32_g (goodIn_app wsL_law_r33_g wsL_law_r34_g))))))))))))))))))))))))))))))))) wsX80_g) wsX30_g) wsX60_g) wsX70_g) wsX00_g) wsX10_g) wsX50_g) wsX20_g) wsX40_g) (fun _ h => nomatch h))
theorem wsL_law_all : ∀ w ∈ wsL_law, w ∈ lw_tbl := fun w h => (wsL_law_g w h).1
theorem wsL_law_s : GoodIn wsL_law wsL_law := fun w h => ⟨h, (wsL_law_g w h).2⟩
theorem inlX0 : ∀ w ∈ wsX00, w ∈ wsL_law := fun _ h => List.mem_append_left _ (List.mem_append_left _ (List.mem_append_left _ (List.mem_append_left _ (List.mem_append_left _ (List.mem_append_right _ h)))))
theorem inlX1 : ∀ w ∈ wsX10, w ∈ wsL_law := fun _ h => List.mem_append_left _ (List.mem_append_left _ (List.mem_append_left _ (List.mem_append_left _ (List.mem_append_right _ h))))
theorem inlX2 : ∀ w ∈ wsX20, w ∈ wsL_law := fun _ h => List.mem_append_left _ (List.mem_append_left _ (List.mem_append_right _ h))
theorem inlX3 : ∀ w ∈ wsX30, w ∈ wsL_law := fun _ h => List.mem_append_left _ (List.mem_append_left _ (List.mem_append_left _ (List.mem_append_left _ (List.mem_append_left _ (List.mem_append_left _ (List.mem_append_left _ (List.mem_append_left _ (List.mem_append_right _ h))))))))
theorem inlX4 : ∀ w ∈ wsX40, w ∈ wsL_law := fun _ h => List.mem_append_left _ (List.mem_append_right _ h)
theorem inlX5 : ∀ w ∈ wsX50, w ∈ wsL_law := fun _ h => List.mem_append_left _ (List.mem_append_left _ (List.mem_append_left _ (List.mem_append_right _ h)))
theorem inlX6 : ∀ w ∈ wsX60, w ∈ wsL_law := fun _ h => List.mem_append_left _ (List.mem_append_left _ (List.mem_append_left _ (List.mem_append_left _ (List.mem_append_left _ (List.mem_append_left _ (List.mem_append_left _ (List.mem_append_right _ h)))))))
theorem inlX7 : ∀ w ∈ wsX70, w ∈ wsL_law := fun _ h => List.mem_append_left _ (List.mem_append_left _ (List.mem_append_left _ (List.mem_append_left _ (List.mem_append_left _ (List.mem_append_left _ (List.mem_append_right _ h))))))
theorem inlX8 : ∀ w ∈ wsX80, w ∈ wsL_law := fun _ h => List.mem_append_left _ (List.mem_append_left _ (List.mem_append_left _ (List.mem_append_left _ (List.mem_append_left _ (List.mem_append_left _ (List.mem_append_left _ (List.mem_append_left _ (List.mem_append_left _ (List.mem_append_right _ h)))))))))
/-- the other methods of the law take its words, behind their own code -/
def wsK_part : List Cond := .code yL_part cL_part 2 (some .int) :: wsL_law
def wsK_take : List Cond := .code yL_take cL_take 2 (some .int) :: wsL_law
def wsK_mixed : List Cond := .code yL_mixed cL_mixed 4 (some .long) :: wsL_law
def wsK_stations : List Cond := .code yL_stations cL_stations 7 (some .long) :: wsL_law
def wsK_state : List Cond := .code yL_state cL_state 5 (some .long) :: wsL_law
def wsK_placeOf : List Cond := .code yL_placeOf cL_placeOf 4 (some .int) :: wsL_law
def wsK_lays : List Cond := .code yL_lays cL_lays 8 (some .int) :: wsL_law
def wsK_refused : List Cond := .code yL_refused cL_refused 8 (some .boolean) :: wsL_law
def wsK_types : List Cond := .code yL_types cL_types 6 (some .int) :: wsL_law
def wsK_isTold : List Cond := .code yL_isTold cL_isTold 8 (some .boolean) :: wsL_law
def wsK_texts : List Cond := .code yL_texts cL_texts 3 (some .boolean) :: wsL_law
def wsK_built : List Cond := .code yL_built cL_built 2 (some (.object "MercuryLine")) :: wsL_law
def wsK_isEvent : List Cond := .code yL_isEvent cL_isEvent 6 (some .boolean) :: wsL_law
def wsK_rides : List Cond := .code yL_rides cL_rides 2 (some .boolean) :: wsL_law
def wsK_pauses : List Cond := .code yL_pauses cL_pauses 2 (some .boolean) :: wsL_law
def wsK_orders : List Cond := .code yL_orders cL_orders 1 (some .boolean) :: wsL_law
def wsK_change : List Cond := .code yL_change cL_change 5 (some .int) :: wsL_law
theorem kIn {c : Cond} {ws : List Cond} (h : GoodIn wsL_law ws) : GoodIn (c :: wsL_law) ws := fun w q => ⟨List.mem_cons_of_mem _ (h w q).1, (h w q).2⟩
