set_option maxRecDepth 20000 in
theorem ggX8_init_X3_init : GoodIn wsX8_init wsX3_init := goodIn_r _ [21, 22, 2, 3, 23, 24, 25, 26, 27, 28, 29, 30, 31, 32, 33, 34, 35, 36, 37, 38, 39, 40, 41, 42, 43, 44, 45, 46, 47, 48, 49, 50, 51, 52, 53, 54, 55, 56, 57, 58, 59, 60, 61, 62, 63, 64, 65, 66, 67, 68, 69, 70, 16, 17, 71, 72, 73, 74, 75, 76, 77, 78, 79, 80, 121, 122, 123, 124, 125, 126, 127, 128, 129, 130, 89, 90, 91, 92, 93, 94, 95, 96, 97, 98, 99, 100, 101, 102, 131, 132, 133, 134, 135, 136, 137, 138, 139, 140, 141, 142, 143, 144, 145, 146, 147, 148, 149, 150, 151, 152, 153, 154, 155, 156, 157, 158, 159, 160, 161, 162, 163, 116, 117, 118, 119, 120] (by decide +kernel) (by decide +kernel)
set_option maxRecDepth 20000 in
theorem gX8_init_X3_init : GoodIn wsX8_init (wsX3_init) := ggX8_init_X3_init
set_option maxRecDepth 20000 in
theorem ggX8_init_X6_init : GoodIn wsX8_init wsX6_init := goodIn_r _ [83, 84, 2, 3, 85, 86, 87, 88, 16, 17, 73, 74, 75, 111, 112, 113, 114, 115, 116, 117, 118, 119, 120] (by decide +kernel) (by decide +kernel)
set_option maxRecDepth 20000 in
theorem gX8_init_X6_init : GoodIn wsX8_init (wsX6_init) := ggX8_init_X6_init
set_option maxRecDepth 20000 in
theorem ggX8_init_X7_init : GoodIn wsX8_init wsX7_init := goodIn_r _ [74, 75, 2, 3] (by decide +kernel) (by decide +kernel)
set_option maxRecDepth 20000 in
theorem gX8_init_X7_init_n35 : GoodIn wsX8_init (wsX7_init) := ggX8_init_X7_init
theorem dX8_init_0 : decode cX8_init 0 = .ok (.aload_n 0, 1) := by decide +kernel
theorem dX8_init_1 : decode cX8_init 1 = .ok (.invokespecial 1, 3) := by decide +kernel
theorem dX8_init_4 : decode cX8_init 4 = .ok (.aload_n 0, 1) := by decide +kernel
theorem dX8_init_5 : decode cX8_init 5 = .ok (.new 7, 3) := by decide +kernel
theorem dX8_init_8 : decode cX8_init 8 = .ok (.dup, 1) := by decide +kernel
theorem dX8_init_9 : decode cX8_init 9 = .ok (.invokespecial 9, 3) := by decide +kernel
theorem dX8_init_12 : decode cX8_init 12 = .ok (.putfield 10, 3) := by decide +kernel
theorem dX8_init_15 : decode cX8_init 15 = .ok (.aload_n 0, 1) := by decide +kernel
theorem dX8_init_16 : decode cX8_init 16 = .ok (.new 7, 3) := by decide +kernel
theorem dX8_init_19 : decode cX8_init 19 = .ok (.dup, 1) := by decide +kernel
theorem dX8_init_20 : decode cX8_init 20 = .ok (.invokespecial 9, 3) := by decide +kernel
theorem dX8_init_23 : decode cX8_init 23 = .ok (.putfield 16, 3) := by decide +kernel
theorem dX8_init_26 : decode cX8_init 26 = .ok (.aload_n 0, 1) := by decide +kernel
theorem dX8_init_27 : decode cX8_init 27 = .ok (.new 7, 3) := by decide +kernel
theorem dX8_init_30 : decode cX8_init 30 = .ok (.dup, 1) := by decide +kernel
theorem dX8_init_31 : decode cX8_init 31 = .ok (.invokespecial 9, 3) := by decide +kernel
theorem dX8_init_34 : decode cX8_init 34 = .ok (.putfield 19, 3) := by decide +kernel
theorem dX8_init_37 : decode cX8_init 37 = .ok (.aload_n 0, 1) := by decide +kernel
theorem dX8_init_38 : decode cX8_init 38 = .ok (.iconst 4, 1) := by decide +kernel
theorem dX8_init_39 : decode cX8_init 39 = .ok (.anewarray 7, 3) := by decide +kernel
theorem dX8_init_42 : decode cX8_init 42 = .ok (.putfield 22, 3) := by decide +kernel
theorem dX8_init_45 : decode cX8_init 45 = .ok (.aload_n 0, 1) := by decide +kernel
theorem dX8_init_46 : decode cX8_init 46 = .ok (.new 26, 3) := by decide +kernel
theorem dX8_init_49 : decode cX8_init 49 = .ok (.dup, 1) := by decide +kernel
theorem dX8_init_50 : decode cX8_init 50 = .ok (.invokespecial 28, 3) := by decide +kernel
theorem dX8_init_53 : decode cX8_init 53 = .ok (.putfield 29, 3) := by decide +kernel
theorem dX8_init_56 : decode cX8_init 56 = .ok (.aload_n 0, 1) := by decide +kernel
theorem dX8_init_57 : decode cX8_init 57 = .ok (.new 33, 3) := by decide +kernel
theorem dX8_init_60 : decode cX8_init 60 = .ok (.dup, 1) := by decide +kernel
theorem dX8_init_61 : decode cX8_init 61 = .ok (.invokespecial 35, 3) := by decide +kernel
theorem dX8_init_64 : decode cX8_init 64 = .ok (.putfield 36, 3) := by decide +kernel
theorem dX8_init_67 : decode cX8_init 67 = .ok (.iconst 0, 1) := by decide +kernel
theorem dX8_init_68 : decode cX8_init 68 = .ok (.istore_n 1, 1) := by decide +kernel
theorem dX8_init_69 : decode cX8_init 69 = .ok (.iload_n 1, 1) := by decide +kernel
theorem dX8_init_70 : decode cX8_init 70 = .ok (.aload_n 0, 1) := by decide +kernel
theorem dX8_init_71 : decode cX8_init 71 = .ok (.getfield 22, 3) := by decide +kernel
theorem dX8_init_74 : decode cX8_init 74 = .ok (.arraylength, 1) := by decide +kernel
theorem dX8_init_75 : decode cX8_init 75 = .ok (.if_icmp .ge 22, 3) := by decide +kernel
theorem dX8_init_78 : decode cX8_init 78 = .ok (.aload_n 0, 1) := by decide +kernel
theorem dX8_init_79 : decode cX8_init 79 = .ok (.getfield 22, 3) := by decide +kernel
theorem dX8_init_82 : decode cX8_init 82 = .ok (.iload_n 1, 1) := by decide +kernel
theorem dX8_init_83 : decode cX8_init 83 = .ok (.new 7, 3) := by decide +kernel
theorem dX8_init_86 : decode cX8_init 86 = .ok (.dup, 1) := by decide +kernel
theorem dX8_init_87 : decode cX8_init 87 = .ok (.invokespecial 9, 3) := by decide +kernel
theorem dX8_init_90 : decode cX8_init 90 = .ok (.aastore, 1) := by decide +kernel
theorem dX8_init_91 : decode cX8_init 91 = .ok (.iinc 1 1, 3) := by decide +kernel
theorem dX8_init_94 : decode cX8_init 94 = .ok (.goto (-25), 3) := by decide +kernel
theorem dX8_init_97 : decode cX8_init 97 = .ok (.return_, 1) := by decide +kernel
set_option maxRecDepth 20000 in
theorem ggX8_build_X8_isLine : GoodIn wsX8_build wsX8_isLine := goodIn_r _ [6] (by decide +kernel) (by decide +kernel)
set_option maxRecDepth 20000 in
theorem gX8_build_X8_isLine : GoodIn wsX8_build (va_wsS RX8 40 yX8_isLine wsX8_isLine) := goodIn_app (goodIn_of _ (by decide +kernel)) ggX8_build_X8_isLine
set_option maxRecDepth 20000 in
theorem ggX8_build_X8_within : GoodIn wsX8_build wsX8_within := goodIn_r _ [9] (by decide +kernel) (by decide +kernel)
set_option maxRecDepth 20000 in
theorem gX8_build_X8_within : GoodIn wsX8_build (va_wsS RX8 46 yX8_within wsX8_within) := goodIn_app (goodIn_of _ (by decide +kernel)) ggX8_build_X8_within
set_option maxRecDepth 20000 in
theorem ggX8_build_X3_lineOf : GoodIn wsX8_build wsX3_lineOf := goodIn_r _ [14, 15, 16, 154, 155, 156, 157, 158, 159, 160, 161, 162, 163, 164, 165, 166, 167] (by decide +kernel) (by decide +kernel)
set_option maxRecDepth 20000 in
theorem gX8_build_X3_lineOf : GoodIn wsX8_build (wsV RX8 50 RX3 yX3_lineOf wsX3_lineOf) := goodIn_app (goodIn_of _ (by decide +kernel)) ggX8_build_X3_lineOf
set_option maxRecDepth 20000 in
theorem ggX8_build_X0_riderCount : GoodIn wsX8_build wsX0_riderCount := goodIn_r _ [21, 22, 144, 145, 146, 147, 148, 149, 150, 151, 152, 153] (by decide +kernel) (by decide +kernel)
set_option maxRecDepth 20000 in
theorem gX8_build_X0_riderCount : GoodIn wsX8_build (wsV RX8 54 RX0 yX0_riderCount wsX0_riderCount) := goodIn_app (goodIn_of _ (by decide +kernel)) ggX8_build_X0_riderCount
set_option maxRecDepth 20000 in
theorem ggX8_build_X0_hasOffsetFrom : GoodIn wsX8_build wsX0_hasOffsetFrom := goodIn_r _ [26, 27, 28, 29, 144, 145, 146, 147, 148, 149, 150, 151, 152, 153, 168, 169, 170, 171, 172, 173, 174, 175, 176, 177] (by decide +kernel) (by decide +kernel)
set_option maxRecDepth 20000 in
theorem gX8_build_X0_hasOffsetFrom : GoodIn wsX8_build (wsV RX8 58 RX0 yX0_hasOffsetFrom wsX0_hasOffsetFrom) := goodIn_app (goodIn_of _ (by decide +kernel)) ggX8_build_X0_hasOffsetFrom
set_option maxRecDepth 20000 in
theorem ggX8_build_X8_recordState : GoodIn wsX8_build wsX8_recordState := goodIn_r _ [33, 34, 35, 1, 36, 37, 38, 5, 39, 7, 8, 9, 40, 41, 42, 13, 43, 15, 16, 44, 45, 46, 47, 48, 49, 50, 51, 52, 53, 54, 55, 56, 57, 58, 20, 59, 22, 60, 61, 62, 63, 28, 27, 64, 65, 66, 67, 68, 69, 70, 71, 72, 73, 74, 75, 76, 77, 78, 79, 80, 81, 82, 83, 84, 85, 86, 87, 88, 89, 90, 91, 92, 93, 94, 95, 96, 97, 98, 99, 100, 101, 102, 103, 104, 105, 106, 107, 108, 109, 110, 111, 112, 113, 114, 115, 116, 117, 118, 119, 120, 121, 122, 123, 124, 125, 126, 127, 128, 129, 130, 131, 136, 137, 138, 139, 140, 141, 142, 143, 154, 155, 156, 157, 158, 159, 160, 161, 162, 163, 164, 165, 166, 167, 144, 145, 146, 147, 148, 149, 150, 151, 152, 153, 168, 169, 170, 171, 172, 173, 174, 175, 176, 177, 178, 179, 180, 181, 182, 183, 184, 185, 186, 187, 188, 189, 190, 191, 192, 193, 194, 195, 196, 197, 198, 199, 200, 201, 202, 203, 204, 205] (by decide +kernel) (by decide +kernel)
set_option maxRecDepth 20000 in
theorem gX8_build_X8_recordState : GoodIn wsX8_build (wsV RX8 65 RX8 yX8_recordState wsX8_recordState) := goodIn_app (goodIn_of _ (by decide +kernel)) ggX8_build_X8_recordState
set_option maxRecDepth 20000 in
theorem ggX8_build_X0_rebuild : GoodIn wsX8_build wsX0_rebuild := goodIn_r _ [135, 64, 65, 66, 144, 145, 146, 147, 148, 149, 150, 151, 152, 153] (by decide +kernel) (by decide +kernel)
set_option maxRecDepth 20000 in
theorem gX8_build_X0_rebuild : GoodIn wsX8_build (wsV RX8 68 RX0 yX0_rebuild wsX0_rebuild) := goodIn_app (goodIn_of _ (by decide +kernel)) ggX8_build_X0_rebuild
theorem dX8_build_0 : decode cX8_build 0 = .ok (.iload_n 1, 1) := by decide +kernel
theorem dX8_build_1 : decode cX8_build 1 = .ok (.invokestatic 40, 3) := by decide +kernel
theorem dX8_build_4 : decode cX8_build 4 = .ok (.ifCond .ne 5, 3) := by decide +kernel
theorem dX8_build_7 : decode cX8_build 7 = .ok (.iconst (-1), 1) := by decide +kernel
theorem dX8_build_8 : decode cX8_build 8 = .ok (.ireturn, 1) := by decide +kernel
theorem dX8_build_9 : decode cX8_build 9 = .ok (.iload_n 2, 1) := by decide +kernel
theorem dX8_build_10 : decode cX8_build 10 = .ok (.iconst 2, 1) := by decide +kernel
theorem dX8_build_11 : decode cX8_build 11 = .ok (.bipush 24, 2) := by decide +kernel
theorem dX8_build_13 : decode cX8_build 13 = .ok (.invokestatic 46, 3) := by decide +kernel
theorem dX8_build_16 : decode cX8_build 16 = .ok (.ifCond .ne 6, 3) := by decide +kernel
theorem dX8_build_19 : decode cX8_build 19 = .ok (.bipush (-2), 2) := by decide +kernel
theorem dX8_build_21 : decode cX8_build 21 = .ok (.ireturn, 1) := by decide +kernel
theorem dX8_build_22 : decode cX8_build 22 = .ok (.aload_n 0, 1) := by decide +kernel
theorem dX8_build_23 : decode cX8_build 23 = .ok (.getfield 10, 3) := by decide +kernel
theorem dX8_build_26 : decode cX8_build 26 = .ok (.iload_n 1, 1) := by decide +kernel
theorem dX8_build_27 : decode cX8_build 27 = .ok (.invokevirtual 50, 3) := by decide +kernel
theorem dX8_build_30 : decode cX8_build 30 = .ok (.astore_n 3, 1) := by decide +kernel
theorem dX8_build_31 : decode cX8_build 31 = .ok (.aload_n 3, 1) := by decide +kernel
theorem dX8_build_32 : decode cX8_build 32 = .ok (.invokevirtual 54, 3) := by decide +kernel
theorem dX8_build_35 : decode cX8_build 35 = .ok (.ifCond .gt 11, 3) := by decide +kernel
theorem dX8_build_38 : decode cX8_build 38 = .ok (.aload_n 3, 1) := by decide +kernel
theorem dX8_build_39 : decode cX8_build 39 = .ok (.iload_n 2, 1) := by decide +kernel
theorem dX8_build_40 : decode cX8_build 40 = .ok (.invokevirtual 58, 3) := by decide +kernel
theorem dX8_build_43 : decode cX8_build 43 = .ok (.ifCond .eq 6, 3) := by decide +kernel
theorem dX8_build_46 : decode cX8_build 46 = .ok (.bipush (-4), 2) := by decide +kernel
theorem dX8_build_48 : decode cX8_build 48 = .ok (.ireturn, 1) := by decide +kernel
theorem dX8_build_49 : decode cX8_build 49 = .ok (.aload_n 3, 1) := by decide +kernel
theorem dX8_build_50 : decode cX8_build 50 = .ok (.getfield 61, 3) := by decide +kernel
theorem dX8_build_53 : decode cX8_build 53 = .ok (.istore 4, 2) := by decide +kernel
theorem dX8_build_55 : decode cX8_build 55 = .ok (.iload 4, 2) := by decide +kernel
theorem dX8_build_57 : decode cX8_build 57 = .ok (.iload_n 2, 1) := by decide +kernel
theorem dX8_build_58 : decode cX8_build 58 = .ok (.if_icmp .ne 6, 3) := by decide +kernel
theorem dX8_build_61 : decode cX8_build 61 = .ok (.bipush (-5), 2) := by decide +kernel
theorem dX8_build_63 : decode cX8_build 63 = .ok (.ireturn, 1) := by decide +kernel
theorem dX8_build_64 : decode cX8_build 64 = .ok (.aload_n 0, 1) := by decide +kernel
theorem dX8_build_65 : decode cX8_build 65 = .ok (.invokevirtual 65, 3) := by decide +kernel
theorem dX8_build_68 : decode cX8_build 68 = .ok (.aload_n 3, 1) := by decide +kernel
theorem dX8_build_69 : decode cX8_build 69 = .ok (.iload_n 2, 1) := by decide +kernel
theorem dX8_build_70 : decode cX8_build 70 = .ok (.invokevirtual 68, 3) := by decide +kernel
theorem dX8_build_73 : decode cX8_build 73 = .ok (.iload 4, 2) := by decide +kernel
theorem dX8_build_75 : decode cX8_build 75 = .ok (.ireturn, 1) := by decide +kernel
set_option maxRecDepth 20000 in
theorem ggX8_addStation_X8_isLine : GoodIn wsX8_addStation wsX8_isLine := goodIn_r _ [7] (by decide +kernel) (by decide +kernel)
set_option maxRecDepth 20000 in
theorem gX8_addStation_X8_isLine : GoodIn wsX8_addStation (va_wsS RX8 40 yX8_isLine wsX8_isLine) := goodIn_app (goodIn_of _ (by decide +kernel)) ggX8_addStation_X8_isLine
set_option maxRecDepth 20000 in
theorem ggX8_addStation_X3_lineOf : GoodIn wsX8_addStation wsX3_lineOf := goodIn_r _ [12, 13, 14, 155, 156, 157, 158, 159, 160, 161, 162, 163, 164, 165, 166, 167, 168] (by decide +kernel) (by decide +kernel)
set_option maxRecDepth 20000 in
theorem gX8_addStation_X3_lineOf : GoodIn wsX8_addStation (wsV RX8 50 RX3 yX3_lineOf wsX3_lineOf) := goodIn_app (goodIn_of _ (by decide +kernel)) ggX8_addStation_X3_lineOf
set_option maxRecDepth 20000 in
theorem ggX8_addStation_X8_within : GoodIn wsX8_addStation wsX8_within := goodIn_r _ [17] (by decide +kernel) (by decide +kernel)
set_option maxRecDepth 20000 in
theorem gX8_addStation_X8_within : GoodIn wsX8_addStation (va_wsS RX8 46 yX8_within wsX8_within) := goodIn_app (goodIn_of _ (by decide +kernel)) ggX8_addStation_X8_within
set_option maxRecDepth 20000 in
theorem ggX8_addStation_X0_hasOffset : GoodIn wsX8_addStation wsX0_hasOffset := goodIn_r _ [22, 23, 24, 25, 145, 146, 147, 148, 149, 150, 151, 152, 153, 154, 169, 170, 171, 172, 173, 174, 175, 176, 177, 178] (by decide +kernel) (by decide +kernel)
set_option maxRecDepth 20000 in
theorem gX8_addStation_X0_hasOffset : GoodIn wsX8_addStation (wsV RX8 72 RX0 yX0_hasOffset wsX0_hasOffset) := goodIn_app (goodIn_of _ (by decide +kernel)) ggX8_addStation_X0_hasOffset
set_option maxRecDepth 20000 in
theorem ggX8_addStation_X8_recordState : GoodIn wsX8_addStation wsX8_recordState := goodIn_r _ [29, 30, 31, 1, 32, 33, 34, 6, 35, 15, 16, 17, 36, 37, 38, 11, 39, 13, 14, 40, 41, 42, 43, 44, 45, 46, 47, 48, 49, 50, 51, 52, 53, 54, 21, 55, 56, 57, 58, 59, 60, 24, 23, 61, 62, 63, 64, 65, 66, 67, 68, 69, 70, 71, 72, 73, 74, 75, 76, 77, 78, 79, 80, 81, 82, 83, 84, 85, 86, 87, 88, 89, 90, 91, 92, 93, 94, 95, 96, 97, 98, 99, 100, 101, 102, 103, 104, 105, 106, 107, 108, 109, 110, 111, 112, 113, 114, 115, 116, 117, 118, 119, 120, 121, 122, 123, 124, 125, 126, 127, 128, 137, 138, 139, 140, 141, 142, 143, 144, 155, 156, 157, 158, 159, 160, 161, 162, 163, 164, 165, 166, 167, 168, 145, 146, 147, 148, 149, 150, 151, 152, 153, 154, 169, 170, 171, 172, 173, 174, 175, 176, 177, 178, 179, 180, 181, 182, 183, 184, 185, 186, 187, 188, 189, 190, 191, 192, 193, 194, 195, 196, 197, 198, 199, 200, 201, 202, 203, 204, 205, 206] (by decide +kernel) (by decide +kernel)
set_option maxRecDepth 20000 in
theorem gX8_addStation_X8_recordState : GoodIn wsX8_addStation (wsV RX8 65 RX8 yX8_recordState wsX8_recordState) := goodIn_app (goodIn_of _ (by decide +kernel)) ggX8_addStation_X8_recordState
set_option maxRecDepth 20000 in
theorem ggX8_addStation_X0_openStation : GoodIn wsX8_addStation wsX0_openStation := goodIn_r _ [132, 23, 24, 16, 6, 17, 133, 134, 135, 70, 136, 75, 74, 76, 77, 78, 79, 145, 146, 147, 148, 149, 150, 151, 152, 153, 154, 169, 170, 171, 172, 173, 174, 175, 176, 177, 178] (by decide +kernel) (by decide +kernel)
set_option maxRecDepth 20000 in
theorem gX8_addStation_X0_openStation : GoodIn wsX8_addStation (wsV RX8 78 RX0 yX0_openStation wsX0_openStation) := goodIn_app (goodIn_of _ (by decide +kernel)) ggX8_addStation_X0_openStation
theorem dX8_addStation_0 : decode cX8_addStation 0 = .ok (.iload_n 1, 1) := by decide +kernel
theorem dX8_addStation_1 : decode cX8_addStation 1 = .ok (.invokestatic 40, 3) := by decide +kernel
theorem dX8_addStation_4 : decode cX8_addStation 4 = .ok (.ifCond .ne 5, 3) := by decide +kernel
theorem dX8_addStation_7 : decode cX8_addStation 7 = .ok (.iconst (-1), 1) := by decide +kernel
theorem dX8_addStation_8 : decode cX8_addStation 8 = .ok (.ireturn, 1) := by decide +kernel
theorem dX8_addStation_9 : decode cX8_addStation 9 = .ok (.aload_n 0, 1) := by decide +kernel
theorem dX8_addStation_10 : decode cX8_addStation 10 = .ok (.getfield 10, 3) := by decide +kernel
theorem dX8_addStation_13 : decode cX8_addStation 13 = .ok (.iload_n 1, 1) := by decide +kernel
theorem dX8_addStation_14 : decode cX8_addStation 14 = .ok (.invokevirtual 50, 3) := by decide +kernel
theorem dX8_addStation_17 : decode cX8_addStation 17 = .ok (.astore_n 3, 1) := by decide +kernel
theorem dX8_addStation_18 : decode cX8_addStation 18 = .ok (.iload_n 2, 1) := by decide +kernel
theorem dX8_addStation_19 : decode cX8_addStation 19 = .ok (.iconst 0, 1) := by decide +kernel
theorem dX8_addStation_20 : decode cX8_addStation 20 = .ok (.aload_n 3, 1) := by decide +kernel
theorem dX8_addStation_21 : decode cX8_addStation 21 = .ok (.getfield 61, 3) := by decide +kernel
theorem dX8_addStation_24 : decode cX8_addStation 24 = .ok (.iconst 1, 1) := by decide +kernel
theorem dX8_addStation_25 : decode cX8_addStation 25 = .ok (.isub, 1) := by decide +kernel
theorem dX8_addStation_26 : decode cX8_addStation 26 = .ok (.invokestatic 46, 3) := by decide +kernel
theorem dX8_addStation_29 : decode cX8_addStation 29 = .ok (.ifCond .ne 6, 3) := by decide +kernel
theorem dX8_addStation_32 : decode cX8_addStation 32 = .ok (.bipush (-2), 2) := by decide +kernel
theorem dX8_addStation_34 : decode cX8_addStation 34 = .ok (.ireturn, 1) := by decide +kernel
theorem dX8_addStation_35 : decode cX8_addStation 35 = .ok (.aload_n 3, 1) := by decide +kernel
theorem dX8_addStation_36 : decode cX8_addStation 36 = .ok (.iload_n 2, 1) := by decide +kernel
theorem dX8_addStation_37 : decode cX8_addStation 37 = .ok (.invokevirtual 72, 3) := by decide +kernel
theorem dX8_addStation_40 : decode cX8_addStation 40 = .ok (.ifCond .eq 6, 3) := by decide +kernel
theorem dX8_addStation_43 : decode cX8_addStation 43 = .ok (.bipush (-4), 2) := by decide +kernel
theorem dX8_addStation_45 : decode cX8_addStation 45 = .ok (.ireturn, 1) := by decide +kernel
theorem dX8_addStation_46 : decode cX8_addStation 46 = .ok (.aload_n 3, 1) := by decide +kernel
theorem dX8_addStation_47 : decode cX8_addStation 47 = .ok (.getfield 75, 3) := by decide +kernel
theorem dX8_addStation_50 : decode cX8_addStation 50 = .ok (.bipush 6, 2) := by decide +kernel
theorem dX8_addStation_52 : decode cX8_addStation 52 = .ok (.if_icmp .lt 6, 3) := by decide +kernel
theorem dX8_addStation_55 : decode cX8_addStation 55 = .ok (.bipush (-3), 2) := by decide +kernel
theorem dX8_addStation_57 : decode cX8_addStation 57 = .ok (.ireturn, 1) := by decide +kernel
theorem dX8_addStation_58 : decode cX8_addStation 58 = .ok (.aload_n 0, 1) := by decide +kernel
theorem dX8_addStation_59 : decode cX8_addStation 59 = .ok (.invokevirtual 65, 3) := by decide +kernel
theorem dX8_addStation_62 : decode cX8_addStation 62 = .ok (.aload_n 3, 1) := by decide +kernel
theorem dX8_addStation_63 : decode cX8_addStation 63 = .ok (.iload_n 2, 1) := by decide +kernel
theorem dX8_addStation_64 : decode cX8_addStation 64 = .ok (.invokevirtual 78, 3) := by decide +kernel
theorem dX8_addStation_67 : decode cX8_addStation 67 = .ok (.ireturn, 1) := by decide +kernel
set_option maxRecDepth 20000 in
theorem ggX8_setHeat_X8_isLine : GoodIn wsX8_setHeat wsX8_isLine := goodIn_r _ [10] (by decide +kernel) (by decide +kernel)
set_option maxRecDepth 20000 in
theorem gX8_setHeat_X8_isLine : GoodIn wsX8_setHeat (va_wsS RX8 40 yX8_isLine wsX8_isLine) := goodIn_app (goodIn_of _ (by decide +kernel)) ggX8_setHeat_X8_isLine
set_option maxRecDepth 20000 in
theorem ggX8_setHeat_X8_within : GoodIn wsX8_setHeat wsX8_within := goodIn_r _ [13] (by decide +kernel) (by decide +kernel)
set_option maxRecDepth 20000 in
theorem gX8_setHeat_X8_within : GoodIn wsX8_setHeat (va_wsS RX8 46 yX8_within wsX8_within) := goodIn_app (goodIn_of _ (by decide +kernel)) ggX8_setHeat_X8_within
set_option maxRecDepth 20000 in
theorem ggX8_setHeat_X3_lineOf : GoodIn wsX8_setHeat wsX3_lineOf := goodIn_r _ [18, 19, 20, 145, 146, 147, 148, 149, 150, 151, 152, 153, 154, 155, 156, 157, 158] (by decide +kernel) (by decide +kernel)
set_option maxRecDepth 20000 in
theorem gX8_setHeat_X3_lineOf : GoodIn wsX8_setHeat (wsV RX8 50 RX3 yX3_lineOf wsX3_lineOf) := goodIn_app (goodIn_of _ (by decide +kernel)) ggX8_setHeat_X3_lineOf
set_option maxRecDepth 20000 in
theorem ggX8_setHeat_X8_recordState : GoodIn wsX8_setHeat wsX8_recordState := goodIn_r _ [24, 25, 26, 1, 27, 28, 29, 9, 30, 11, 12, 13, 31, 32, 33, 17, 34, 19, 20, 35, 36, 37, 38, 39, 40, 41, 42, 43, 44, 45, 46, 47, 48, 49, 50, 51, 52, 53, 54, 55, 56, 57, 58, 59, 60, 61, 62, 63, 64, 65, 66, 67, 68, 69, 70, 71, 72, 73, 74, 75, 76, 77, 78, 79, 80, 81, 82, 83, 84, 85, 86, 87, 88, 89, 90, 91, 92, 93, 94, 95, 96, 97, 98, 99, 100, 101, 102, 103, 104, 105, 106, 107, 108, 109, 110, 111, 112, 113, 114, 115, 116, 117, 118, 119, 120, 121, 122, 123, 124, 125, 126, 127, 128, 129, 130, 131, 132, 133, 134, 145, 146, 147, 148, 149, 150, 151, 152, 153, 154, 155, 156, 157, 158, 135, 136, 137, 138, 139, 140, 141, 142, 143, 144, 159, 160, 161, 162, 163, 164, 165, 166, 167, 168, 169, 170, 171, 172, 173, 174, 175, 176, 177, 178, 179, 180, 181, 182, 183, 184, 185, 186, 187, 188, 189, 190, 191, 192, 193, 194, 195, 196] (by decide +kernel) (by decide +kernel)
set_option maxRecDepth 20000 in
theorem gX8_setHeat_X8_recordState : GoodIn wsX8_setHeat (wsV RX8 65 RX8 yX8_recordState wsX8_recordState) := goodIn_app (goodIn_of _ (by decide +kernel)) ggX8_setHeat_X8_recordState
theorem dX8_setHeat_0 : decode cX8_setHeat 0 = .ok (.iload_n 1, 1) := by decide +kernel
theorem dX8_setHeat_1 : decode cX8_setHeat 1 = .ok (.invokestatic 40, 3) := by decide +kernel
theorem dX8_setHeat_4 : decode cX8_setHeat 4 = .ok (.ifCond .ne 5, 3) := by decide +kernel
theorem dX8_setHeat_7 : decode cX8_setHeat 7 = .ok (.iconst (-1), 1) := by decide +kernel
theorem dX8_setHeat_8 : decode cX8_setHeat 8 = .ok (.ireturn, 1) := by decide +kernel
theorem dX8_setHeat_9 : decode cX8_setHeat 9 = .ok (.iload_n 2, 1) := by decide +kernel
theorem dX8_setHeat_10 : decode cX8_setHeat 10 = .ok (.bipush (-10), 2) := by decide +kernel
theorem dX8_setHeat_12 : decode cX8_setHeat 12 = .ok (.bipush 10, 2) := by decide +kernel
theorem dX8_setHeat_14 : decode cX8_setHeat 14 = .ok (.invokestatic 46, 3) := by decide +kernel
theorem dX8_setHeat_17 : decode cX8_setHeat 17 = .ok (.ifCond .ne 6, 3) := by decide +kernel
theorem dX8_setHeat_20 : decode cX8_setHeat 20 = .ok (.bipush (-2), 2) := by decide +kernel
theorem dX8_setHeat_22 : decode cX8_setHeat 22 = .ok (.ireturn, 1) := by decide +kernel
theorem dX8_setHeat_23 : decode cX8_setHeat 23 = .ok (.aload_n 0, 1) := by decide +kernel
theorem dX8_setHeat_24 : decode cX8_setHeat 24 = .ok (.getfield 10, 3) := by decide +kernel
theorem dX8_setHeat_27 : decode cX8_setHeat 27 = .ok (.iload_n 1, 1) := by decide +kernel
theorem dX8_setHeat_28 : decode cX8_setHeat 28 = .ok (.invokevirtual 50, 3) := by decide +kernel
theorem dX8_setHeat_31 : decode cX8_setHeat 31 = .ok (.astore_n 3, 1) := by decide +kernel
theorem dX8_setHeat_32 : decode cX8_setHeat 32 = .ok (.aload_n 3, 1) := by decide +kernel
theorem dX8_setHeat_33 : decode cX8_setHeat 33 = .ok (.getfield 82, 3) := by decide +kernel
theorem dX8_setHeat_36 : decode cX8_setHeat 36 = .ok (.istore 4, 2) := by decide +kernel
theorem dX8_setHeat_38 : decode cX8_setHeat 38 = .ok (.iload 4, 2) := by decide +kernel
theorem dX8_setHeat_40 : decode cX8_setHeat 40 = .ok (.iload_n 2, 1) := by decide +kernel
theorem dX8_setHeat_41 : decode cX8_setHeat 41 = .ok (.if_icmp .ne 6, 3) := by decide +kernel
theorem dX8_setHeat_44 : decode cX8_setHeat 44 = .ok (.bipush (-5), 2) := by decide +kernel
theorem dX8_setHeat_46 : decode cX8_setHeat 46 = .ok (.ireturn, 1) := by decide +kernel
theorem dX8_setHeat_47 : decode cX8_setHeat 47 = .ok (.aload_n 0, 1) := by decide +kernel
theorem dX8_setHeat_48 : decode cX8_setHeat 48 = .ok (.invokevirtual 65, 3) := by decide +kernel
theorem dX8_setHeat_51 : decode cX8_setHeat 51 = .ok (.aload_n 3, 1) := by decide +kernel
theorem dX8_setHeat_52 : decode cX8_setHeat 52 = .ok (.iload_n 2, 1) := by decide +kernel
theorem dX8_setHeat_53 : decode cX8_setHeat 53 = .ok (.putfield 82, 3) := by decide +kernel
theorem dX8_setHeat_56 : decode cX8_setHeat 56 = .ok (.iload_n 2, 1) := by decide +kernel
theorem dX8_setHeat_57 : decode cX8_setHeat 57 = .ok (.iload 4, 2) := by decide +kernel
theorem dX8_setHeat_59 : decode cX8_setHeat 59 = .ok (.isub, 1) := by decide +kernel
theorem dX8_setHeat_60 : decode cX8_setHeat 60 = .ok (.invokestatic 85, 3) := by decide +kernel
theorem dX8_setHeat_63 : decode cX8_setHeat 63 = .ok (.ireturn, 1) := by decide +kernel
set_option maxRecDepth 20000 in
theorem ggX8_setFare_X8_within : GoodIn wsX8_setFare wsX8_within := goodIn_r _ [6] (by decide +kernel) (by decide +kernel)
set_option maxRecDepth 20000 in
theorem gX8_setFare_X8_within : GoodIn wsX8_setFare (va_wsS RX8 46 yX8_within wsX8_within) := goodIn_app (goodIn_of _ (by decide +kernel)) ggX8_setFare_X8_within
set_option maxRecDepth 20000 in
theorem ggX8_setFare_X8_recordState : GoodIn wsX8_setFare wsX8_recordState := goodIn_r _ [10, 11, 12, 1, 13, 14, 15, 5, 16, 3, 4, 6, 17, 18, 19, 20, 21, 22, 23, 24, 25, 26, 27, 28, 29, 30, 31, 32, 33, 34, 35, 36, 37, 38, 39, 40, 41, 42, 43, 44, 45, 46, 47, 48, 49, 50, 51, 52, 53, 54, 55, 56, 57, 58, 59, 60, 61, 62, 63, 64, 65, 66, 67, 68, 69, 70, 71, 72, 73, 74, 75, 76, 77, 78, 79, 80, 81, 82, 83, 84, 85, 86, 87, 88, 89, 90, 91, 92, 93, 94, 95, 96, 97, 98, 99, 100, 101, 102, 103, 104, 105, 106, 107, 108, 109, 110, 111, 112, 113, 114, 115, 116, 117, 118, 119, 120, 121, 122, 123, 124, 125, 126, 127, 128, 129, 130, 131, 132, 133, 134, 135, 136, 137, 138, 139, 140, 141, 142, 143, 144, 145, 146, 147, 148, 149, 150, 151, 152, 153, 154, 155, 156, 157, 158, 159, 160, 161, 162, 163, 164, 165, 166, 167, 168, 169, 170, 171, 172, 173, 174, 175, 176, 177, 178, 179, 180, 181, 182, 183, 184, 185] (by decide +kernel) (by decide +kernel)
set_option maxRecDepth 20000 in
theorem gX8_setFare_X8_recordState : GoodIn wsX8_setFare (wsV RX8 65 RX8 yX8_recordState wsX8_recordState) := goodIn_app (goodIn_of _ (by decide +kernel)) ggX8_setFare_X8_recordState
theorem dX8_setFare_0 : decode cX8_setFare 0 = .ok (.iload_n 1, 1) := by decide +kernel
theorem dX8_setFare_1 : decode cX8_setFare 1 = .ok (.iconst 1, 1) := by decide +kernel
theorem dX8_setFare_2 : decode cX8_setFare 2 = .ok (.bipush 99, 2) := by decide +kernel
theorem dX8_setFare_4 : decode cX8_setFare 4 = .ok (.invokestatic 46, 3) := by decide +kernel
theorem dX8_setFare_7 : decode cX8_setFare 7 = .ok (.ifCond .ne 6, 3) := by decide +kernel
theorem dX8_setFare_10 : decode cX8_setFare 10 = .ok (.bipush (-2), 2) := by decide +kernel
theorem dX8_setFare_12 : decode cX8_setFare 12 = .ok (.ireturn, 1) := by decide +kernel
theorem dX8_setFare_13 : decode cX8_setFare 13 = .ok (.aload_n 0, 1) := by decide +kernel
theorem dX8_setFare_14 : decode cX8_setFare 14 = .ok (.getfield 10, 3) := by decide +kernel
theorem dX8_setFare_17 : decode cX8_setFare 17 = .ok (.getfield 90, 3) := by decide +kernel
theorem dX8_setFare_20 : decode cX8_setFare 20 = .ok (.istore_n 2, 1) := by decide +kernel
theorem dX8_setFare_21 : decode cX8_setFare 21 = .ok (.iload_n 2, 1) := by decide +kernel
theorem dX8_setFare_22 : decode cX8_setFare 22 = .ok (.iload_n 1, 1) := by decide +kernel
theorem dX8_setFare_23 : decode cX8_setFare 23 = .ok (.if_icmp .ne 6, 3) := by decide +kernel
theorem dX8_setFare_26 : decode cX8_setFare 26 = .ok (.bipush (-5), 2) := by decide +kernel
theorem dX8_setFare_28 : decode cX8_setFare 28 = .ok (.ireturn, 1) := by decide +kernel
theorem dX8_setFare_29 : decode cX8_setFare 29 = .ok (.aload_n 0, 1) := by decide +kernel
theorem dX8_setFare_30 : decode cX8_setFare 30 = .ok (.invokevirtual 65, 3) := by decide +kernel
theorem dX8_setFare_33 : decode cX8_setFare 33 = .ok (.aload_n 0, 1) := by decide +kernel
theorem dX8_setFare_34 : decode cX8_setFare 34 = .ok (.getfield 10, 3) := by decide +kernel
theorem dX8_setFare_37 : decode cX8_setFare 37 = .ok (.iload_n 1, 1) := by decide +kernel
theorem dX8_setFare_38 : decode cX8_setFare 38 = .ok (.putfield 90, 3) := by decide +kernel
theorem dX8_setFare_41 : decode cX8_setFare 41 = .ok (.iload_n 2, 1) := by decide +kernel
theorem dX8_setFare_42 : decode cX8_setFare 42 = .ok (.ireturn, 1) := by decide +kernel
set_option maxRecDepth 20000 in
theorem ggX8_setPatience_X8_within : GoodIn wsX8_setPatience wsX8_within := goodIn_r _ [6] (by decide +kernel) (by decide +kernel)
set_option maxRecDepth 20000 in
theorem gX8_setPatience_X8_within : GoodIn wsX8_setPatience (va_wsS RX8 46 yX8_within wsX8_within) := goodIn_app (goodIn_of _ (by decide +kernel)) ggX8_setPatience_X8_within
set_option maxRecDepth 20000 in
theorem ggX8_setPatience_X8_recordState : GoodIn wsX8_setPatience wsX8_recordState := goodIn_r _ [10, 11, 12, 1, 13, 14, 15, 5, 16, 3, 4, 6, 17, 18, 19, 20, 21, 22, 23, 24, 25, 26, 27, 28, 29, 30, 31, 32, 33, 34, 35, 36, 37, 38, 39, 40, 41, 42, 43, 44, 45, 46, 47, 48, 49, 50, 51, 52, 53, 54, 55, 56, 57, 58, 59, 60, 61, 62, 63, 64, 65, 66, 67, 68, 69, 70, 71, 72, 73, 74, 75, 76, 77, 78, 79, 80, 81, 82, 83, 84, 85, 86, 87, 88, 89, 90, 91, 92, 93, 94, 95, 96, 97, 98, 99, 100, 101, 102, 103, 104, 105, 106, 107, 108, 109, 110, 111, 112, 113, 114, 115, 116, 117, 118, 119, 120, 121, 122, 123, 124, 125, 126, 127, 128, 129, 130, 131, 132, 133, 134, 135, 136, 137, 138, 139, 140, 141, 142, 143, 144, 145, 146, 147, 148, 149, 150, 151, 152, 153, 154, 155, 156, 157, 158, 159, 160, 161, 162, 163, 164, 165, 166, 167, 168, 169, 170, 171, 172, 173, 174, 175, 176, 177, 178, 179, 180, 181, 182, 183, 184, 185] (by decide +kernel) (by decide +kernel)
set_option maxRecDepth 20000 in
theorem gX8_setPatience_X8_recordState : GoodIn wsX8_setPatience (wsV RX8 65 RX8 yX8_recordState wsX8_recordState) := goodIn_app (goodIn_of _ (by decide +kernel)) ggX8_setPatience_X8_recordState
theorem dX8_setPatience_0 : decode cX8_setPatience 0 = .ok (.iload_n 1, 1) := by decide +kernel
theorem dX8_setPatience_1 : decode cX8_setPatience 1 = .ok (.iconst 0, 1) := by decide +kernel
theorem dX8_setPatience_2 : decode cX8_setPatience 2 = .ok (.bipush 50, 2) := by decide +kernel
theorem dX8_setPatience_4 : decode cX8_setPatience 4 = .ok (.invokestatic 46, 3) := by decide +kernel
theorem dX8_setPatience_7 : decode cX8_setPatience 7 = .ok (.ifCond .ne 6, 3) := by decide +kernel
theorem dX8_setPatience_10 : decode cX8_setPatience 10 = .ok (.bipush (-2), 2) := by decide +kernel
theorem dX8_setPatience_12 : decode cX8_setPatience 12 = .ok (.ireturn, 1) := by decide +kernel
theorem dX8_setPatience_13 : decode cX8_setPatience 13 = .ok (.aload_n 0, 1) := by decide +kernel
theorem dX8_setPatience_14 : decode cX8_setPatience 14 = .ok (.getfield 10, 3) := by decide +kernel
theorem dX8_setPatience_17 : decode cX8_setPatience 17 = .ok (.getfield 93, 3) := by decide +kernel
theorem dX8_setPatience_20 : decode cX8_setPatience 20 = .ok (.istore_n 2, 1) := by decide +kernel
theorem dX8_setPatience_21 : decode cX8_setPatience 21 = .ok (.iload_n 2, 1) := by decide +kernel
theorem dX8_setPatience_22 : decode cX8_setPatience 22 = .ok (.iload_n 1, 1) := by decide +kernel
theorem dX8_setPatience_23 : decode cX8_setPatience 23 = .ok (.if_icmp .ne 6, 3) := by decide +kernel
theorem dX8_setPatience_26 : decode cX8_setPatience 26 = .ok (.bipush (-5), 2) := by decide +kernel
theorem dX8_setPatience_28 : decode cX8_setPatience 28 = .ok (.ireturn, 1) := by decide +kernel
theorem dX8_setPatience_29 : decode cX8_setPatience 29 = .ok (.aload_n 0, 1) := by decide +kernel
theorem dX8_setPatience_30 : decode cX8_setPatience 30 = .ok (.invokevirtual 65, 3) := by decide +kernel
theorem dX8_setPatience_33 : decode cX8_setPatience 33 = .ok (.aload_n 0, 1) := by decide +kernel
theorem dX8_setPatience_34 : decode cX8_setPatience 34 = .ok (.getfield 10, 3) := by decide +kernel
theorem dX8_setPatience_37 : decode cX8_setPatience 37 = .ok (.iload_n 1, 1) := by decide +kernel
theorem dX8_setPatience_38 : decode cX8_setPatience 38 = .ok (.putfield 93, 3) := by decide +kernel
theorem dX8_setPatience_41 : decode cX8_setPatience 41 = .ok (.iload_n 2, 1) := by decide +kernel
theorem dX8_setPatience_42 : decode cX8_setPatience 42 = .ok (.ireturn, 1) := by decide +kernel
set_option maxRecDepth 20000 in
theorem ggX8_drain_X8_isLine : GoodIn wsX8_drain wsX8_isLine := goodIn_r _ [5] (by decide +kernel) (by decide +kernel)
set_option maxRecDepth 20000 in
theorem gX8_drain_X8_isLine : GoodIn wsX8_drain (va_wsS RX8 40 yX8_isLine wsX8_isLine) := goodIn_app (goodIn_of _ (by decide +kernel)) ggX8_drain_X8_isLine
set_option maxRecDepth 20000 in
theorem ggX8_drain_X3_lineOf : GoodIn wsX8_drain wsX3_lineOf := goodIn_r _ [10, 11, 12, 162, 163, 164, 165, 166, 167, 168, 169, 170, 171, 172, 173, 174, 175] (by decide +kernel) (by decide +kernel)
set_option maxRecDepth 20000 in
theorem gX8_drain_X3_lineOf : GoodIn wsX8_drain (wsV RX8 50 RX3 yX3_lineOf wsX3_lineOf) := goodIn_app (goodIn_of _ (by decide +kernel)) ggX8_drain_X3_lineOf
set_option maxRecDepth 20000 in
theorem ggX8_drain_X0_riderCount : GoodIn wsX8_drain wsX0_riderCount := goodIn_r _ [17, 18, 176, 177, 178, 179, 180, 181, 182, 183, 184, 185] (by decide +kernel) (by decide +kernel)
set_option maxRecDepth 20000 in
theorem gX8_drain_X0_riderCount : GoodIn wsX8_drain (wsV RX8 54 RX0 yX0_riderCount wsX0_riderCount) := goodIn_app (goodIn_of _ (by decide +kernel)) ggX8_drain_X0_riderCount
set_option maxRecDepth 20000 in
theorem ggX8_drain_X8_recordState : GoodIn wsX8_drain wsX8_recordState := goodIn_r _ [22, 23, 24, 1, 25, 26, 27, 4, 28, 29, 30, 31, 32, 33, 34, 9, 35, 11, 12, 36, 37, 38, 39, 40, 41, 42, 43, 44, 45, 46, 47, 48, 49, 50, 16, 51, 18, 52, 53, 54, 55, 56, 57, 58, 59, 60, 61, 62, 63, 64, 65, 66, 67, 68, 69, 70, 71, 72, 73, 74, 75, 76, 77, 78, 79, 80, 81, 82, 83, 84, 85, 86, 87, 88, 89, 90, 91, 92, 93, 94, 95, 96, 97, 98, 99, 100, 101, 102, 103, 104, 105, 106, 107, 108, 109, 110, 111, 112, 113, 114, 115, 116, 117, 118, 119, 120, 121, 122, 123, 124, 125, 154, 155, 156, 157, 158, 159, 160, 161, 162, 163, 164, 165, 166, 167, 168, 169, 170, 171, 172, 173, 174, 175, 176, 177, 178, 179, 180, 181, 182, 183, 184, 185, 186, 187, 188, 189, 190, 191, 192, 193, 194, 195, 196, 197, 198, 199, 200, 201, 202, 203, 204, 205, 206, 207, 208, 209, 210, 211, 212, 213, 214, 215, 216, 217, 218, 219, 220, 221, 222, 223] (by decide +kernel) (by decide +kernel)
set_option maxRecDepth 20000 in
theorem gX8_drain_X8_recordState : GoodIn wsX8_drain (wsV RX8 65 RX8 yX8_recordState wsX8_recordState) := goodIn_app (goodIn_of _ (by decide +kernel)) ggX8_drain_X8_recordState
set_option maxRecDepth 20000 in
theorem ggX8_drain_X3_putOutRiders : GoodIn wsX8_drain wsX3_putOutRiders := goodIn_r _ [129, 130, 38, 131, 132, 41, 46, 133, 134, 135, 136, 16, 137, 18, 30, 4, 31, 138, 139, 140, 9, 141, 39, 36, 142, 143, 144, 120, 145, 125, 122, 124, 146, 147, 148, 80, 149, 85, 86, 87, 90, 91, 150, 151, 152, 153, 176, 177, 178, 179, 180, 181, 182, 183, 184, 185, 162, 163, 164, 165, 166, 167, 168, 169, 170, 171, 172, 173, 174, 175, 196, 197, 198, 199, 200, 201, 202, 203, 204, 205, 206, 207, 208, 209, 221, 222, 223] (by decide +kernel) (by decide +kernel)
set_option maxRecDepth 20000 in
theorem gX8_drain_X3_putOutRiders : GoodIn wsX8_drain (wsV RX8 96 RX3 yX3_putOutRiders wsX3_putOutRiders) := goodIn_app (goodIn_of _ (by decide +kernel)) ggX8_drain_X3_putOutRiders
theorem dX8_drain_0 : decode cX8_drain 0 = .ok (.iload_n 1, 1) := by decide +kernel
theorem dX8_drain_1 : decode cX8_drain 1 = .ok (.invokestatic 40, 3) := by decide +kernel
theorem dX8_drain_4 : decode cX8_drain 4 = .ok (.ifCond .ne 5, 3) := by decide +kernel
theorem dX8_drain_7 : decode cX8_drain 7 = .ok (.iconst (-1), 1) := by decide +kernel
theorem dX8_drain_8 : decode cX8_drain 8 = .ok (.ireturn, 1) := by decide +kernel
theorem dX8_drain_9 : decode cX8_drain 9 = .ok (.aload_n 0, 1) := by decide +kernel
theorem dX8_drain_10 : decode cX8_drain 10 = .ok (.getfield 10, 3) := by decide +kernel
theorem dX8_drain_13 : decode cX8_drain 13 = .ok (.iload_n 1, 1) := by decide +kernel
theorem dX8_drain_14 : decode cX8_drain 14 = .ok (.invokevirtual 50, 3) := by decide +kernel
theorem dX8_drain_17 : decode cX8_drain 17 = .ok (.astore_n 2, 1) := by decide +kernel
theorem dX8_drain_18 : decode cX8_drain 18 = .ok (.aload_n 2, 1) := by decide +kernel
theorem dX8_drain_19 : decode cX8_drain 19 = .ok (.invokevirtual 54, 3) := by decide +kernel
theorem dX8_drain_22 : decode cX8_drain 22 = .ok (.istore_n 3, 1) := by decide +kernel
theorem dX8_drain_23 : decode cX8_drain 23 = .ok (.iload_n 3, 1) := by decide +kernel
theorem dX8_drain_24 : decode cX8_drain 24 = .ok (.ifCond .ne 6, 3) := by decide +kernel
theorem dX8_drain_27 : decode cX8_drain 27 = .ok (.bipush (-5), 2) := by decide +kernel
theorem dX8_drain_29 : decode cX8_drain 29 = .ok (.ireturn, 1) := by decide +kernel
theorem dX8_drain_30 : decode cX8_drain 30 = .ok (.aload_n 0, 1) := by decide +kernel
theorem dX8_drain_31 : decode cX8_drain 31 = .ok (.invokevirtual 65, 3) := by decide +kernel
theorem dX8_drain_34 : decode cX8_drain 34 = .ok (.aload_n 0, 1) := by decide +kernel
theorem dX8_drain_35 : decode cX8_drain 35 = .ok (.getfield 10, 3) := by decide +kernel
theorem dX8_drain_38 : decode cX8_drain 38 = .ok (.aload_n 2, 1) := by decide +kernel
theorem dX8_drain_39 : decode cX8_drain 39 = .ok (.invokevirtual 96, 3) := by decide +kernel
theorem dX8_drain_42 : decode cX8_drain 42 = .ok (.iload_n 3, 1) := by decide +kernel
theorem dX8_drain_43 : decode cX8_drain 43 = .ok (.ireturn, 1) := by decide +kernel
set_option maxRecDepth 20000 in
theorem ggX8_book_X3_refusalOf : GoodIn wsX8_book wsX3_refusalOf := goodIn_r _ [12, 13, 14, 15, 16, 17, 11, 18, 19, 20, 21, 22, 23, 24, 25, 26, 27, 28, 29, 30, 31, 32, 33, 34, 35, 36, 37, 38, 39, 40, 41, 42, 43, 44, 45, 171, 172, 173, 174, 175, 176, 177, 178, 179, 180, 181, 182, 183, 184, 185, 186, 187, 188, 189, 190, 191, 192, 193, 194, 195, 196, 197, 198, 199] (by decide +kernel) (by decide +kernel)
set_option maxRecDepth 20000 in
theorem gX8_book_X3_refusalOf : GoodIn wsX8_book (wsV RX8 115 RX3 yX3_refusalOf wsX3_refusalOf) := goodIn_app (goodIn_of _ (by decide +kernel)) ggX8_book_X3_refusalOf
set_option maxRecDepth 20000 in
theorem ggX8_book_X3_hasTickets : GoodIn wsX8_book wsX3_hasTickets := goodIn_r _ [49, 50, 176, 177, 178, 179, 180, 181, 182, 183, 184, 185, 186, 187, 188, 189] (by decide +kernel) (by decide +kernel)
set_option maxRecDepth 20000 in
theorem gX8_book_X3_hasTickets : GoodIn wsX8_book (wsV RX8 119 RX3 yX3_hasTickets wsX3_hasTickets) := goodIn_app (goodIn_of _ (by decide +kernel)) ggX8_book_X3_hasTickets
set_option maxRecDepth 20000 in
theorem ggX8_book_X8_recordState : GoodIn wsX8_book wsX8_recordState := goodIn_r _ [54, 55, 56, 7, 57, 58, 59, 20, 60, 61, 19, 21, 62, 63, 64, 11, 65, 26, 27, 66, 67, 68, 50, 69, 70, 71, 72, 73, 74, 75, 76, 77, 78, 79, 31, 80, 81, 82, 83, 84, 85, 34, 33, 86, 87, 88, 89, 90, 91, 92, 93, 94, 95, 96, 97, 98, 99, 100, 101, 102, 103, 104, 105, 106, 107, 108, 109, 110, 111, 112, 113, 114, 115, 116, 117, 118, 119, 120, 121, 122, 123, 124, 125, 38, 126, 40, 42, 44, 45, 43, 127, 128, 129, 130, 131, 132, 133, 134, 135, 136, 137, 138, 139, 140, 141, 142, 143, 144, 145, 146, 147, 163, 164, 165, 166, 167, 168, 169, 170, 176, 177, 178, 179, 180, 181, 182, 183, 184, 185, 186, 187, 188, 189, 190, 191, 192, 193, 194, 195, 196, 197, 198, 199, 200, 201, 202, 203, 204, 205, 206, 207, 208, 209, 210, 211, 212, 213, 214, 215, 216, 217, 218, 219, 220, 221, 222, 223, 171, 172, 173, 174, 175, 224, 225, 226, 227, 228, 229, 230, 231, 232] (by decide +kernel) (by decide +kernel)
set_option maxRecDepth 20000 in
theorem gX8_book_X8_recordState : GoodIn wsX8_book (wsV RX8 65 RX8 yX8_recordState wsX8_recordState) := goodIn_app (goodIn_of _ (by decide +kernel)) ggX8_book_X8_recordState
set_option maxRecDepth 20000 in
theorem ggX8_book_X3_admit : GoodIn wsX8_book wsX3_admit := goodIn_r _ [151, 50, 66, 152, 153, 70, 73, 19, 20, 21, 154, 155, 156, 11, 157, 71, 158, 159, 160, 108, 161, 110, 162, 111, 112, 113, 114, 115, 116, 117, 118, 119, 120, 121, 122, 123, 124, 125, 38, 126, 40, 42, 44, 45, 43, 176, 177, 178, 179, 180, 181, 182, 183, 184, 185, 186, 187, 188, 189, 171, 172, 173, 174, 175, 210, 211, 212, 213, 214, 215, 216, 217, 218, 219, 220, 221, 222, 223] (by decide +kernel) (by decide +kernel)
set_option maxRecDepth 20000 in
theorem gX8_book_X3_admit : GoodIn wsX8_book (wsV RX8 122 RX3 yX3_admit wsX3_admit) := goodIn_app (goodIn_of _ (by decide +kernel)) ggX8_book_X3_admit
theorem dX8_book_0 : decode cX8_book 0 = .ok (.aload_n 0, 1) := by decide +kernel
theorem dX8_book_1 : decode cX8_book 1 = .ok (.getfield 36, 3) := by decide +kernel
theorem dX8_book_4 : decode cX8_book 4 = .ok (.iload_n 1, 1) := by decide +kernel
theorem dX8_book_5 : decode cX8_book 5 = .ok (.putfield 100, 3) := by decide +kernel
theorem dX8_book_8 : decode cX8_book 8 = .ok (.aload_n 0, 1) := by decide +kernel
theorem dX8_book_9 : decode cX8_book 9 = .ok (.getfield 36, 3) := by decide +kernel
theorem dX8_book_12 : decode cX8_book 12 = .ok (.iload_n 2, 1) := by decide +kernel
theorem dX8_book_13 : decode cX8_book 13 = .ok (.putfield 103, 3) := by decide +kernel
theorem dX8_book_16 : decode cX8_book 16 = .ok (.aload_n 0, 1) := by decide +kernel
theorem dX8_book_17 : decode cX8_book 17 = .ok (.getfield 36, 3) := by decide +kernel
theorem dX8_book_20 : decode cX8_book 20 = .ok (.iload_n 3, 1) := by decide +kernel
theorem dX8_book_21 : decode cX8_book 21 = .ok (.putfield 106, 3) := by decide +kernel
theorem dX8_book_24 : decode cX8_book 24 = .ok (.aload_n 0, 1) := by decide +kernel
theorem dX8_book_25 : decode cX8_book 25 = .ok (.getfield 36, 3) := by decide +kernel
theorem dX8_book_28 : decode cX8_book 28 = .ok (.iload 4, 2) := by decide +kernel
theorem dX8_book_30 : decode cX8_book 30 = .ok (.putfield 109, 3) := by decide +kernel
theorem dX8_book_33 : decode cX8_book 33 = .ok (.aload_n 0, 1) := by decide +kernel
theorem dX8_book_34 : decode cX8_book 34 = .ok (.getfield 36, 3) := by decide +kernel
theorem dX8_book_37 : decode cX8_book 37 = .ok (.iload 5, 2) := by decide +kernel
theorem dX8_book_39 : decode cX8_book 39 = .ok (.putfield 112, 3) := by decide +kernel
theorem dX8_book_42 : decode cX8_book 42 = .ok (.aload_n 0, 1) := by decide +kernel
theorem dX8_book_43 : decode cX8_book 43 = .ok (.getfield 10, 3) := by decide +kernel
theorem dX8_book_46 : decode cX8_book 46 = .ok (.aload_n 0, 1) := by decide +kernel
theorem dX8_book_47 : decode cX8_book 47 = .ok (.getfield 36, 3) := by decide +kernel
theorem dX8_book_50 : decode cX8_book 50 = .ok (.invokevirtual 115, 3) := by decide +kernel
theorem dX8_book_53 : decode cX8_book 53 = .ok (.istore 6, 2) := by decide +kernel
theorem dX8_book_55 : decode cX8_book 55 = .ok (.iload 6, 2) := by decide +kernel
theorem dX8_book_57 : decode cX8_book 57 = .ok (.ifCond .eq 6, 3) := by decide +kernel
theorem dX8_book_60 : decode cX8_book 60 = .ok (.iload 6, 2) := by decide +kernel
theorem dX8_book_62 : decode cX8_book 62 = .ok (.ireturn, 1) := by decide +kernel
theorem dX8_book_63 : decode cX8_book 63 = .ok (.aload_n 0, 1) := by decide +kernel
theorem dX8_book_64 : decode cX8_book 64 = .ok (.getfield 10, 3) := by decide +kernel
theorem dX8_book_67 : decode cX8_book 67 = .ok (.iconst 1, 1) := by decide +kernel
theorem dX8_book_68 : decode cX8_book 68 = .ok (.invokevirtual 119, 3) := by decide +kernel
theorem dX8_book_71 : decode cX8_book 71 = .ok (.ifCond .eq 19, 3) := by decide +kernel
theorem dX8_book_74 : decode cX8_book 74 = .ok (.aload_n 0, 1) := by decide +kernel
theorem dX8_book_75 : decode cX8_book 75 = .ok (.invokevirtual 65, 3) := by decide +kernel
theorem dX8_book_78 : decode cX8_book 78 = .ok (.aload_n 0, 1) := by decide +kernel
theorem dX8_book_79 : decode cX8_book 79 = .ok (.getfield 10, 3) := by decide +kernel
theorem dX8_book_82 : decode cX8_book 82 = .ok (.aload_n 0, 1) := by decide +kernel
theorem dX8_book_83 : decode cX8_book 83 = .ok (.getfield 36, 3) := by decide +kernel
theorem dX8_book_86 : decode cX8_book 86 = .ok (.invokevirtual 122, 3) := by decide +kernel
theorem dX8_book_89 : decode cX8_book 89 = .ok (.ireturn, 1) := by decide +kernel
theorem dX8_book_90 : decode cX8_book 90 = .ok (.bipush (-3), 2) := by decide +kernel
theorem dX8_book_92 : decode cX8_book 92 = .ok (.ireturn, 1) := by decide +kernel
set_option maxRecDepth 20000 in
theorem ggX8_cancel_X3_ticketOf : GoodIn wsX8_cancel wsX3_ticketOf := goodIn_r _ [6, 7, 8, 9, 10, 11, 151, 152, 153, 154, 155, 156, 157, 158, 159, 160, 161, 162, 163, 164] (by decide +kernel) (by decide +kernel)
set_option maxRecDepth 20000 in
theorem gX8_cancel_X3_ticketOf : GoodIn wsX8_cancel (wsV RX8 125 RX3 yX3_ticketOf wsX3_ticketOf) := goodIn_app (goodIn_of _ (by decide +kernel)) ggX8_cancel_X3_ticketOf
set_option maxRecDepth 20000 in
theorem ggX8_cancel_X5_hasEnded : GoodIn wsX8_cancel wsX5_hasEnded := goodIn_r _ [16, 17, 165, 166, 167, 168, 169, 170, 171, 172, 173, 174, 175, 176, 177, 178] (by decide +kernel) (by decide +kernel)
set_option maxRecDepth 20000 in
theorem gX8_cancel_X5_hasEnded : GoodIn wsX8_cancel (wsV RX8 129 RX5 yX5_hasEnded wsX5_hasEnded) := goodIn_app (goodIn_of _ (by decide +kernel)) ggX8_cancel_X5_hasEnded
set_option maxRecDepth 20000 in
theorem ggX8_cancel_X8_recordState : GoodIn wsX8_cancel wsX8_recordState := goodIn_r _ [21, 22, 23, 1, 24, 25, 26, 10, 27, 28, 9, 11, 29, 30, 31, 5, 32, 33, 34, 8, 35, 36, 7, 37, 38, 39, 40, 41, 42, 43, 44, 45, 46, 47, 48, 49, 50, 51, 52, 53, 54, 55, 56, 57, 58, 59, 60, 61, 62, 63, 64, 65, 66, 67, 68, 69, 70, 71, 72, 73, 74, 75, 76, 77, 78, 15, 79, 80, 81, 82, 17, 83, 84, 85, 86, 87, 88, 89, 90, 91, 92, 93, 94, 95, 96, 97, 98, 99, 100, 101, 102, 103, 104, 105, 106, 107, 108, 109, 110, 111, 112, 113, 114, 115, 116, 117, 118, 119, 120, 121, 122, 143, 144, 145, 146, 147, 148, 149, 150, 151, 152, 153, 154, 155, 156, 157, 158, 159, 160, 161, 162, 163, 164, 179, 180, 181, 182, 183, 184, 185, 186, 187, 188, 189, 190, 191, 192, 193, 194, 195, 196, 197, 198, 165, 166, 167, 168, 169, 170, 171, 172, 173, 174, 175, 176, 177, 178, 199, 200, 201, 202, 203, 204, 205, 206, 207, 208, 209, 210, 211, 212] (by decide +kernel) (by decide +kernel)
set_option maxRecDepth 20000 in
theorem gX8_cancel_X8_recordState : GoodIn wsX8_cancel (wsV RX8 65 RX8 yX8_recordState wsX8_recordState) := goodIn_app (goodIn_of _ (by decide +kernel)) ggX8_cancel_X8_recordState
set_option maxRecDepth 20000 in
theorem ggX8_cancel_X3_withdraw : GoodIn wsX8_cancel wsX3_withdraw := goodIn_r _ [126, 127, 128, 129, 130, 43, 42, 38, 131, 132, 133, 5, 134, 33, 34, 135, 136, 137, 48, 138, 50, 9, 10, 11, 139, 140, 141, 15, 142, 17, 83, 84, 87, 88, 165, 166, 167, 168, 169, 170, 171, 172, 173, 174, 175, 176, 177, 178, 151, 152, 153, 154, 155, 156, 157, 158, 159, 160, 161, 162, 163, 164, 179, 180, 181, 182, 183, 184, 185, 186, 187, 188] (by decide +kernel) (by decide +kernel)
set_option maxRecDepth 20000 in
theorem gX8_cancel_X3_withdraw : GoodIn wsX8_cancel (wsV RX8 135 RX3 yX3_withdraw wsX3_withdraw) := goodIn_app (goodIn_of _ (by decide +kernel)) ggX8_cancel_X3_withdraw
theorem dX8_cancel_0 : decode cX8_cancel 0 = .ok (.aload_n 0, 1) := by decide +kernel
theorem dX8_cancel_1 : decode cX8_cancel 1 = .ok (.getfield 10, 3) := by decide +kernel
theorem dX8_cancel_4 : decode cX8_cancel 4 = .ok (.iload_n 1, 1) := by decide +kernel
theorem dX8_cancel_5 : decode cX8_cancel 5 = .ok (.invokevirtual 125, 3) := by decide +kernel
theorem dX8_cancel_8 : decode cX8_cancel 8 = .ok (.astore_n 2, 1) := by decide +kernel
theorem dX8_cancel_9 : decode cX8_cancel 9 = .ok (.aload_n 2, 1) := by decide +kernel
theorem dX8_cancel_10 : decode cX8_cancel 10 = .ok (.ifnonnull 5, 3) := by decide +kernel
theorem dX8_cancel_13 : decode cX8_cancel 13 = .ok (.iconst (-1), 1) := by decide +kernel
theorem dX8_cancel_14 : decode cX8_cancel 14 = .ok (.ireturn, 1) := by decide +kernel
theorem dX8_cancel_15 : decode cX8_cancel 15 = .ok (.aload_n 2, 1) := by decide +kernel
theorem dX8_cancel_16 : decode cX8_cancel 16 = .ok (.invokevirtual 129, 3) := by decide +kernel
theorem dX8_cancel_19 : decode cX8_cancel 19 = .ok (.ifCond .eq 6, 3) := by decide +kernel
theorem dX8_cancel_22 : decode cX8_cancel 22 = .ok (.bipush (-4), 2) := by decide +kernel
theorem dX8_cancel_24 : decode cX8_cancel 24 = .ok (.ireturn, 1) := by decide +kernel
theorem dX8_cancel_25 : decode cX8_cancel 25 = .ok (.aload_n 0, 1) := by decide +kernel
theorem dX8_cancel_26 : decode cX8_cancel 26 = .ok (.invokevirtual 65, 3) := by decide +kernel
theorem dX8_cancel_29 : decode cX8_cancel 29 = .ok (.aload_n 0, 1) := by decide +kernel
theorem dX8_cancel_30 : decode cX8_cancel 30 = .ok (.getfield 10, 3) := by decide +kernel
theorem dX8_cancel_33 : decode cX8_cancel 33 = .ok (.aload_n 2, 1) := by decide +kernel
theorem dX8_cancel_34 : decode cX8_cancel 34 = .ok (.invokevirtual 135, 3) := by decide +kernel
theorem dX8_cancel_37 : decode cX8_cancel 37 = .ok (.ireturn, 1) := by decide +kernel
set_option maxRecDepth 20000 in
theorem ggX8_call_X3_stationOf : GoodIn wsX8_call wsX3_stationOf := goodIn_r _ [8, 9, 10, 11, 12, 13, 14, 7, 15, 16, 17, 18, 19, 20, 21, 22, 23, 24, 151, 152, 153, 154, 155, 156, 157, 158, 159, 160, 161, 162, 163, 164, 165, 166, 167, 168, 169, 170, 171, 172, 173, 174] (by decide +kernel) (by decide +kernel)
set_option maxRecDepth 20000 in
theorem gX8_call_X3_stationOf : GoodIn wsX8_call (wsV RX8 139 RX3 yX3_stationOf wsX3_stationOf) := goodIn_app (goodIn_of _ (by decide +kernel)) ggX8_call_X3_stationOf
set_option maxRecDepth 20000 in
theorem ggX8_call_X8_within : GoodIn wsX8_call wsX8_within := goodIn_r _ [11] (by decide +kernel) (by decide +kernel)
set_option maxRecDepth 20000 in
theorem gX8_call_X8_within : GoodIn wsX8_call (va_wsS RX8 46 yX8_within wsX8_within) := goodIn_app (goodIn_of _ (by decide +kernel)) ggX8_call_X8_within
set_option maxRecDepth 20000 in
theorem ggX8_call_X8_recordState : GoodIn wsX8_call wsX8_recordState := goodIn_r _ [29, 30, 31, 1, 32, 33, 34, 10, 35, 25, 9, 11, 36, 37, 38, 7, 39, 16, 17, 40, 41, 42, 43, 44, 45, 46, 47, 48, 49, 50, 51, 52, 53, 54, 21, 55, 56, 57, 58, 59, 60, 24, 23, 61, 62, 63, 64, 65, 66, 67, 68, 69, 70, 71, 72, 73, 74, 75, 76, 77, 78, 79, 80, 81, 82, 83, 84, 85, 86, 87, 88, 89, 90, 91, 92, 93, 94, 95, 96, 97, 98, 99, 100, 101, 102, 103, 104, 105, 106, 107, 108, 109, 110, 111, 112, 113, 114, 115, 116, 117, 118, 119, 120, 121, 122, 123, 124, 125, 126, 127, 128, 133, 134, 135, 136, 137, 138, 139, 140, 151, 152, 153, 154, 155, 156, 157, 158, 159, 160, 161, 162, 163, 164, 165, 166, 167, 168, 169, 170, 171, 172, 173, 174, 141, 142, 143, 144, 145, 146, 147, 148, 149, 150, 175, 176, 177, 178, 179, 180, 181, 182, 183, 184, 185, 186, 187, 188, 189, 190, 191, 192, 193, 194, 195, 196, 197, 198, 199, 200, 201, 202] (by decide +kernel) (by decide +kernel)
set_option maxRecDepth 20000 in
theorem gX8_call_X8_recordState : GoodIn wsX8_call (wsV RX8 65 RX8 yX8_recordState wsX8_recordState) := goodIn_app (goodIn_of _ (by decide +kernel)) ggX8_call_X8_recordState
set_option maxRecDepth 20000 in
theorem ggX8_call_X4_addCall : GoodIn wsX8_call wsX4_addCall := goodIn_r _ [132, 74, 72, 9, 10, 11, 141, 142, 143, 144, 145, 146, 147, 148, 149, 150] (by decide +kernel) (by decide +kernel)
set_option maxRecDepth 20000 in
theorem gX8_call_X4_addCall : GoodIn wsX8_call (wsV RX8 149 RX4 yX4_addCall wsX4_addCall) := goodIn_app (goodIn_of _ (by decide +kernel)) ggX8_call_X4_addCall
theorem dX8_call_0 : decode cX8_call 0 = .ok (.aload_n 0, 1) := by decide +kernel
theorem dX8_call_1 : decode cX8_call 1 = .ok (.getfield 10, 3) := by decide +kernel
theorem dX8_call_4 : decode cX8_call 4 = .ok (.iload_n 1, 1) := by decide +kernel
theorem dX8_call_5 : decode cX8_call 5 = .ok (.invokevirtual 139, 3) := by decide +kernel
theorem dX8_call_8 : decode cX8_call 8 = .ok (.astore_n 3, 1) := by decide +kernel
theorem dX8_call_9 : decode cX8_call 9 = .ok (.aload_n 3, 1) := by decide +kernel
theorem dX8_call_10 : decode cX8_call 10 = .ok (.ifnonnull 5, 3) := by decide +kernel
theorem dX8_call_13 : decode cX8_call 13 = .ok (.iconst (-1), 1) := by decide +kernel
theorem dX8_call_14 : decode cX8_call 14 = .ok (.ireturn, 1) := by decide +kernel
theorem dX8_call_15 : decode cX8_call 15 = .ok (.iload_n 2, 1) := by decide +kernel
theorem dX8_call_16 : decode cX8_call 16 = .ok (.iconst 0, 1) := by decide +kernel
theorem dX8_call_17 : decode cX8_call 17 = .ok (.ldc 143, 2) := by decide +kernel
theorem dX8_call_19 : decode cX8_call 19 = .ok (.invokestatic 46, 3) := by decide +kernel
theorem dX8_call_22 : decode cX8_call 22 = .ok (.ifCond .ne 6, 3) := by decide +kernel
theorem dX8_call_25 : decode cX8_call 25 = .ok (.bipush (-2), 2) := by decide +kernel
theorem dX8_call_27 : decode cX8_call 27 = .ok (.ireturn, 1) := by decide +kernel
theorem dX8_call_28 : decode cX8_call 28 = .ok (.aload_n 3, 1) := by decide +kernel
theorem dX8_call_29 : decode cX8_call 29 = .ok (.getfield 144, 3) := by decide +kernel
theorem dX8_call_32 : decode cX8_call 32 = .ok (.iconst 3, 1) := by decide +kernel
theorem dX8_call_33 : decode cX8_call 33 = .ok (.if_icmp .lt 6, 3) := by decide +kernel
theorem dX8_call_36 : decode cX8_call 36 = .ok (.bipush (-3), 2) := by decide +kernel
theorem dX8_call_38 : decode cX8_call 38 = .ok (.ireturn, 1) := by decide +kernel
theorem dX8_call_39 : decode cX8_call 39 = .ok (.aload_n 0, 1) := by decide +kernel
theorem dX8_call_40 : decode cX8_call 40 = .ok (.invokevirtual 65, 3) := by decide +kernel
theorem dX8_call_43 : decode cX8_call 43 = .ok (.aload_n 3, 1) := by decide +kernel
theorem dX8_call_44 : decode cX8_call 44 = .ok (.iload_n 2, 1) := by decide +kernel
theorem dX8_call_45 : decode cX8_call 45 = .ok (.invokevirtual 149, 3) := by decide +kernel
theorem dX8_call_48 : decode cX8_call 48 = .ok (.ireturn, 1) := by decide +kernel
set_option maxRecDepth 20000 in
theorem ggX8_callBack_X3_stationOf : GoodIn wsX8_callBack wsX3_stationOf := goodIn_r _ [6, 7, 8, 9, 10, 11, 12, 5, 13, 14, 15, 16, 17, 18, 19, 20, 21, 22, 143, 144, 145, 146, 147, 148, 149, 150, 151, 152, 153, 154, 155, 156, 157, 158, 159, 160, 161, 162, 163, 164, 165, 166] (by decide +kernel) (by decide +kernel)
set_option maxRecDepth 20000 in
theorem gX8_callBack_X3_stationOf : GoodIn wsX8_callBack (wsV RX8 139 RX3 yX3_stationOf wsX3_stationOf) := goodIn_app (goodIn_of _ (by decide +kernel)) ggX8_callBack_X3_stationOf
set_option maxRecDepth 20000 in
theorem ggX8_callBack_X4_callAt : GoodIn wsX8_callBack wsX4_callAt := goodIn_r _ [27, 28, 29, 167, 168, 169, 170, 171, 172, 173, 174, 175, 176] (by decide +kernel) (by decide +kernel)
set_option maxRecDepth 20000 in
theorem gX8_callBack_X4_callAt : GoodIn wsX8_callBack (wsV RX8 152 RX4 yX4_callAt wsX4_callAt) := goodIn_app (goodIn_of _ (by decide +kernel)) ggX8_callBack_X4_callAt
set_option maxRecDepth 20000 in
theorem ggX8_callBack_X8_recordState : GoodIn wsX8_callBack wsX8_recordState := goodIn_r _ [33, 34, 35, 1, 36, 37, 38, 8, 39, 40, 7, 9, 41, 42, 43, 5, 44, 14, 15, 45, 46, 47, 48, 49, 50, 51, 52, 53, 54, 55, 56, 57, 58, 59, 19, 60, 61, 62, 63, 64, 65, 22, 21, 66, 67, 68, 69, 70, 71, 72, 73, 74, 26, 75, 29, 76, 28, 77, 78, 79, 80, 81, 82, 83, 84, 85, 86, 87, 88, 89, 90, 91, 92, 93, 94, 95, 96, 97, 98, 99, 100, 101, 102, 103, 104, 105, 106, 107, 108, 109, 110, 111, 112, 113, 114, 115, 116, 117, 118, 119, 120, 121, 122, 123, 124, 125, 126, 127, 128, 129, 130, 135, 136, 137, 138, 139, 140, 141, 142, 143, 144, 145, 146, 147, 148, 149, 150, 151, 152, 153, 154, 155, 156, 157, 158, 159, 160, 161, 162, 163, 164, 165, 166, 167, 168, 169, 170, 171, 172, 173, 174, 175, 176, 177, 178, 179, 180, 181, 182, 183, 184, 185, 186, 187, 188, 189, 190, 191, 192, 193, 194, 195, 196, 197, 198, 199, 200, 201, 202, 203, 204] (by decide +kernel) (by decide +kernel)
set_option maxRecDepth 20000 in
theorem gX8_callBack_X8_recordState : GoodIn wsX8_callBack (wsV RX8 65 RX8 yX8_recordState wsX8_recordState) := goodIn_app (goodIn_of _ (by decide +kernel)) ggX8_callBack_X8_recordState
set_option maxRecDepth 20000 in
theorem ggX8_callBack_X4_removeCall : GoodIn wsX8_callBack wsX4_removeCall := goodIn_r _ [134, 28, 29, 167, 168, 169, 170, 171, 172, 173, 174, 175, 176] (by decide +kernel) (by decide +kernel)
set_option maxRecDepth 20000 in
theorem gX8_callBack_X4_removeCall : GoodIn wsX8_callBack (wsV RX8 155 RX4 yX4_removeCall wsX4_removeCall) := goodIn_app (goodIn_of _ (by decide +kernel)) ggX8_callBack_X4_removeCall
theorem dX8_callBack_0 : decode cX8_callBack 0 = .ok (.aload_n 0, 1) := by decide +kernel
theorem dX8_callBack_1 : decode cX8_callBack 1 = .ok (.getfield 10, 3) := by decide +kernel
theorem dX8_callBack_4 : decode cX8_callBack 4 = .ok (.iload_n 1, 1) := by decide +kernel
theorem dX8_callBack_5 : decode cX8_callBack 5 = .ok (.invokevirtual 139, 3) := by decide +kernel
theorem dX8_callBack_8 : decode cX8_callBack 8 = .ok (.astore_n 2, 1) := by decide +kernel
theorem dX8_callBack_9 : decode cX8_callBack 9 = .ok (.aload_n 2, 1) := by decide +kernel
theorem dX8_callBack_10 : decode cX8_callBack 10 = .ok (.ifnonnull 5, 3) := by decide +kernel
theorem dX8_callBack_13 : decode cX8_callBack 13 = .ok (.iconst (-1), 1) := by decide +kernel
theorem dX8_callBack_14 : decode cX8_callBack 14 = .ok (.ireturn, 1) := by decide +kernel
theorem dX8_callBack_15 : decode cX8_callBack 15 = .ok (.aload_n 2, 1) := by decide +kernel
theorem dX8_callBack_16 : decode cX8_callBack 16 = .ok (.iconst 0, 1) := by decide +kernel
theorem dX8_callBack_17 : decode cX8_callBack 17 = .ok (.invokevirtual 152, 3) := by decide +kernel
theorem dX8_callBack_20 : decode cX8_callBack 20 = .ok (.istore_n 3, 1) := by decide +kernel
theorem dX8_callBack_21 : decode cX8_callBack 21 = .ok (.iload_n 3, 1) := by decide +kernel
theorem dX8_callBack_22 : decode cX8_callBack 22 = .ok (.bipush (-5), 2) := by decide +kernel
theorem dX8_callBack_24 : decode cX8_callBack 24 = .ok (.if_icmp .ne 6, 3) := by decide +kernel
theorem dX8_callBack_27 : decode cX8_callBack 27 = .ok (.bipush (-5), 2) := by decide +kernel
theorem dX8_callBack_29 : decode cX8_callBack 29 = .ok (.ireturn, 1) := by decide +kernel
theorem dX8_callBack_30 : decode cX8_callBack 30 = .ok (.aload_n 0, 1) := by decide +kernel
theorem dX8_callBack_31 : decode cX8_callBack 31 = .ok (.invokevirtual 65, 3) := by decide +kernel
theorem dX8_callBack_34 : decode cX8_callBack 34 = .ok (.aload_n 2, 1) := by decide +kernel
theorem dX8_callBack_35 : decode cX8_callBack 35 = .ok (.iconst 0, 1) := by decide +kernel
theorem dX8_callBack_36 : decode cX8_callBack 36 = .ok (.invokevirtual 155, 3) := by decide +kernel
theorem dX8_callBack_39 : decode cX8_callBack 39 = .ok (.iload_n 3, 1) := by decide +kernel
theorem dX8_callBack_40 : decode cX8_callBack 40 = .ok (.ireturn, 1) := by decide +kernel
set_option maxRecDepth 20000 in
theorem ggX8_order_X3_ticketOf : GoodIn wsX8_order wsX3_ticketOf := goodIn_r _ [8, 9, 10, 11, 12, 13, 137, 138, 139, 140, 141, 142, 143, 144, 145, 146, 147, 148, 149, 150] (by decide +kernel) (by decide +kernel)
set_option maxRecDepth 20000 in
theorem gX8_order_X3_ticketOf : GoodIn wsX8_order (wsV RX8 125 RX3 yX3_ticketOf wsX3_ticketOf) := goodIn_app (goodIn_of _ (by decide +kernel)) ggX8_order_X3_ticketOf
set_option maxRecDepth 20000 in
theorem ggX8_order_X8_within : GoodIn wsX8_order wsX8_within := goodIn_r _ [13] (by decide +kernel) (by decide +kernel)
set_option maxRecDepth 20000 in
theorem gX8_order_X8_within : GoodIn wsX8_order (va_wsS RX8 46 yX8_within wsX8_within) := goodIn_app (goodIn_of _ (by decide +kernel)) ggX8_order_X8_within
set_option maxRecDepth 20000 in
theorem ggX8_order_X8_recordState : GoodIn wsX8_order wsX8_recordState := goodIn_r _ [18, 19, 20, 1, 21, 22, 23, 12, 24, 14, 11, 13, 25, 26, 27, 7, 28, 29, 30, 10, 31, 32, 9, 33, 34, 35, 36, 37, 38, 39, 40, 41, 42, 43, 44, 45, 46, 47, 48, 49, 50, 51, 52, 53, 54, 55, 56, 57, 58, 59, 60, 61, 62, 63, 64, 65, 66, 67, 68, 69, 70, 71, 72, 73, 74, 75, 76, 77, 78, 79, 80, 81, 82, 83, 84, 85, 86, 87, 88, 89, 90, 91, 92, 93, 94, 95, 96, 97, 98, 99, 100, 101, 102, 103, 104, 105, 106, 107, 108, 109, 110, 111, 112, 113, 114, 115, 116, 117, 118, 119, 120, 129, 130, 131, 132, 133, 134, 135, 136, 137, 138, 139, 140, 141, 142, 143, 144, 145, 146, 147, 148, 149, 150, 165, 166, 167, 168, 169, 170, 171, 172, 173, 174, 175, 176, 177, 178, 179, 180, 181, 182, 183, 184, 151, 152, 153, 154, 155, 156, 157, 158, 159, 160, 161, 162, 163, 164, 185, 186, 187, 188, 189, 190, 191, 192, 193, 194, 195, 196, 197, 198] (by decide +kernel) (by decide +kernel)
set_option maxRecDepth 20000 in
theorem gX8_order_X8_recordState : GoodIn wsX8_order (wsV RX8 65 RX8 yX8_recordState wsX8_recordState) := goodIn_app (goodIn_of _ (by decide +kernel)) ggX8_order_X8_recordState
set_option maxRecDepth 20000 in
theorem ggX8_order_X3_giveOrder : GoodIn wsX8_order wsX3_giveOrder := goodIn_r _ [124, 33, 31, 34, 11, 12, 13, 125, 126, 127, 103, 128, 105, 106, 107, 108, 109, 110, 111, 91, 92, 93, 94, 95, 96, 97, 98, 99, 137, 138, 139, 140, 141, 142, 143, 144, 145, 146, 147, 148, 149, 150, 190, 191, 192, 193, 194, 195, 185, 186, 187, 188, 189] (by decide +kernel) (by decide +kernel)
set_option maxRecDepth 20000 in
theorem gX8_order_X3_giveOrder : GoodIn wsX8_order (wsV RX8 164 RX3 yX3_giveOrder wsX3_giveOrder) := goodIn_app (goodIn_of _ (by decide +kernel)) ggX8_order_X3_giveOrder
theorem dX8_order_0 : decode cX8_order 0 = .ok (.aload_n 0, 1) := by decide +kernel
theorem dX8_order_1 : decode cX8_order 1 = .ok (.getfield 10, 3) := by decide +kernel
theorem dX8_order_4 : decode cX8_order 4 = .ok (.iload_n 1, 1) := by decide +kernel
theorem dX8_order_5 : decode cX8_order 5 = .ok (.invokevirtual 125, 3) := by decide +kernel
theorem dX8_order_8 : decode cX8_order 8 = .ok (.astore_n 3, 1) := by decide +kernel
theorem dX8_order_9 : decode cX8_order 9 = .ok (.aload_n 3, 1) := by decide +kernel
theorem dX8_order_10 : decode cX8_order 10 = .ok (.ifnonnull 5, 3) := by decide +kernel
theorem dX8_order_13 : decode cX8_order 13 = .ok (.iconst (-1), 1) := by decide +kernel
theorem dX8_order_14 : decode cX8_order 14 = .ok (.ireturn, 1) := by decide +kernel
theorem dX8_order_15 : decode cX8_order 15 = .ok (.iload_n 2, 1) := by decide +kernel
theorem dX8_order_16 : decode cX8_order 16 = .ok (.iconst 1, 1) := by decide +kernel
theorem dX8_order_17 : decode cX8_order 17 = .ok (.bipush 50, 2) := by decide +kernel
theorem dX8_order_19 : decode cX8_order 19 = .ok (.invokestatic 46, 3) := by decide +kernel
theorem dX8_order_22 : decode cX8_order 22 = .ok (.ifCond .ne 6, 3) := by decide +kernel
theorem dX8_order_25 : decode cX8_order 25 = .ok (.bipush (-2), 2) := by decide +kernel
theorem dX8_order_27 : decode cX8_order 27 = .ok (.ireturn, 1) := by decide +kernel
theorem dX8_order_28 : decode cX8_order 28 = .ok (.aload_n 0, 1) := by decide +kernel
theorem dX8_order_29 : decode cX8_order 29 = .ok (.getfield 10, 3) := by decide +kernel
theorem dX8_order_32 : decode cX8_order 32 = .ok (.getfield 158, 3) := by decide +kernel
theorem dX8_order_35 : decode cX8_order 35 = .ok (.iconst 4, 1) := by decide +kernel
theorem dX8_order_36 : decode cX8_order 36 = .ok (.if_icmp .lt 6, 3) := by decide +kernel
theorem dX8_order_39 : decode cX8_order 39 = .ok (.bipush (-3), 2) := by decide +kernel
theorem dX8_order_41 : decode cX8_order 41 = .ok (.ireturn, 1) := by decide +kernel
theorem dX8_order_42 : decode cX8_order 42 = .ok (.aload_n 0, 1) := by decide +kernel
theorem dX8_order_43 : decode cX8_order 43 = .ok (.invokevirtual 65, 3) := by decide +kernel
theorem dX8_order_46 : decode cX8_order 46 = .ok (.aload_n 0, 1) := by decide +kernel
theorem dX8_order_47 : decode cX8_order 47 = .ok (.getfield 10, 3) := by decide +kernel
theorem dX8_order_50 : decode cX8_order 50 = .ok (.aload_n 3, 1) := by decide +kernel
theorem dX8_order_51 : decode cX8_order 51 = .ok (.getfield 161, 3) := by decide +kernel
theorem dX8_order_54 : decode cX8_order 54 = .ok (.iload_n 2, 1) := by decide +kernel
theorem dX8_order_55 : decode cX8_order 55 = .ok (.invokevirtual 164, 3) := by decide +kernel
theorem dX8_order_58 : decode cX8_order 58 = .ok (.ireturn, 1) := by decide +kernel
set_option maxRecDepth 20000 in
theorem ggX8_endOrder_X3_orderOf : GoodIn wsX8_endOrder wsX3_orderOf := goodIn_r _ [8, 9, 10, 11, 12, 13, 135, 136, 137, 138, 139, 140, 141, 142, 143, 144, 145, 146, 147, 148] (by decide +kernel) (by decide +kernel)
set_option maxRecDepth 20000 in
theorem gX8_endOrder_X3_orderOf : GoodIn wsX8_endOrder (wsV RX8 168 RX3 yX3_orderOf wsX3_orderOf) := goodIn_app (goodIn_of _ (by decide +kernel)) ggX8_endOrder_X3_orderOf
set_option maxRecDepth 20000 in
theorem ggX8_endOrder_X8_recordState : GoodIn wsX8_endOrder wsX8_recordState := goodIn_r _ [17, 18, 19, 1, 20, 21, 22, 12, 23, 24, 11, 13, 25, 26, 27, 7, 28, 29, 30, 31, 10, 32, 33, 9, 34, 35, 36, 37, 38, 39, 40, 41, 42, 43, 44, 45, 46, 47, 48, 49, 50, 51, 52, 53, 54, 55, 56, 57, 58, 59, 60, 61, 62, 63, 64, 65, 66, 67, 68, 69, 70, 71, 72, 73, 74, 75, 76, 77, 78, 79, 80, 81, 82, 83, 84, 85, 86, 87, 88, 89, 90, 91, 92, 93, 94, 95, 96, 97, 98, 99, 100, 101, 102, 103, 104, 105, 106, 107, 108, 109, 110, 111, 112, 113, 114, 115, 116, 117, 118, 119, 120, 121, 122, 123, 124, 125, 126, 127, 128, 135, 136, 137, 138, 139, 140, 141, 142, 143, 144, 145, 146, 147, 148, 149, 150, 151, 152, 153, 154, 155, 156, 157, 158, 159, 160, 161, 162, 163, 164, 165, 166, 167, 168, 169, 170, 171, 172, 173, 174, 175, 176, 177, 178, 179, 180, 181, 182, 183, 184, 185, 186, 187, 129, 130, 131, 132, 133, 134, 188, 189, 190] (by decide +kernel) (by decide +kernel)
set_option maxRecDepth 20000 in
theorem gX8_endOrder_X8_recordState : GoodIn wsX8_endOrder (wsV RX8 65 RX8 yX8_recordState wsX8_recordState) := goodIn_app (goodIn_of _ (by decide +kernel)) ggX8_endOrder_X8_recordState
theorem dX8_endOrder_0 : decode cX8_endOrder 0 = .ok (.aload_n 0, 1) := by decide +kernel
theorem dX8_endOrder_1 : decode cX8_endOrder 1 = .ok (.getfield 10, 3) := by decide +kernel
theorem dX8_endOrder_4 : decode cX8_endOrder 4 = .ok (.iload_n 1, 1) := by decide +kernel
theorem dX8_endOrder_5 : decode cX8_endOrder 5 = .ok (.invokevirtual 168, 3) := by decide +kernel
theorem dX8_endOrder_8 : decode cX8_endOrder 8 = .ok (.astore_n 2, 1) := by decide +kernel
theorem dX8_endOrder_9 : decode cX8_endOrder 9 = .ok (.aload_n 2, 1) := by decide +kernel
theorem dX8_endOrder_10 : decode cX8_endOrder 10 = .ok (.ifnonnull 5, 3) := by decide +kernel
theorem dX8_endOrder_13 : decode cX8_endOrder 13 = .ok (.iconst (-1), 1) := by decide +kernel
theorem dX8_endOrder_14 : decode cX8_endOrder 14 = .ok (.ireturn, 1) := by decide +kernel
theorem dX8_endOrder_15 : decode cX8_endOrder 15 = .ok (.aload_n 2, 1) := by decide +kernel
theorem dX8_endOrder_16 : decode cX8_endOrder 16 = .ok (.getfield 172, 3) := by decide +kernel
theorem dX8_endOrder_19 : decode cX8_endOrder 19 = .ok (.ifCond .eq 6, 3) := by decide +kernel
theorem dX8_endOrder_22 : decode cX8_endOrder 22 = .ok (.bipush (-5), 2) := by decide +kernel
theorem dX8_endOrder_24 : decode cX8_endOrder 24 = .ok (.ireturn, 1) := by decide +kernel
theorem dX8_endOrder_25 : decode cX8_endOrder 25 = .ok (.aload_n 0, 1) := by decide +kernel
theorem dX8_endOrder_26 : decode cX8_endOrder 26 = .ok (.invokevirtual 65, 3) := by decide +kernel
theorem dX8_endOrder_29 : decode cX8_endOrder 29 = .ok (.aload_n 2, 1) := by decide +kernel
theorem dX8_endOrder_30 : decode cX8_endOrder 30 = .ok (.iconst 1, 1) := by decide +kernel
theorem dX8_endOrder_31 : decode cX8_endOrder 31 = .ok (.putfield 172, 3) := by decide +kernel
theorem dX8_endOrder_34 : decode cX8_endOrder 34 = .ok (.aload_n 2, 1) := by decide +kernel
theorem dX8_endOrder_35 : decode cX8_endOrder 35 = .ok (.getfield 178, 3) := by decide +kernel
theorem dX8_endOrder_38 : decode cX8_endOrder 38 = .ok (.ireturn, 1) := by decide +kernel
