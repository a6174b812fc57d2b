set_option maxRecDepth 20000 in
theorem ggX3_init_X0_init : GoodIn wsX3_init wsX0_init := goodIn_r _ [25, 26, 2, 3, 27, 28, 29, 30, 31, 32, 33, 34, 35, 36, 37, 38, 39, 40, 41, 42, 64, 65, 66, 67, 68, 69, 70, 71, 72, 73, 111, 112, 113, 114, 115, 116, 117, 118, 119, 120] (by decide +kernel) (by decide +kernel)
set_option maxRecDepth 20000 in
theorem gX3_init_X0_init : GoodIn wsX3_init (wsX0_init) := ggX3_init_X0_init
set_option maxRecDepth 20000 in
theorem ggX3_init_X1_init : GoodIn wsX3_init wsX1_init := goodIn_r _ [44, 45, 2, 3, 27, 46, 88, 89, 90] (by decide +kernel) (by decide +kernel)
set_option maxRecDepth 20000 in
theorem gX3_init_X1_init_n37 : GoodIn wsX3_init (wsX1_init) := ggX3_init_X1_init
set_option maxRecDepth 20000 in
theorem ggX3_init_X5_init : GoodIn wsX3_init wsX5_init := goodIn_r _ [49, 50, 2, 3, 51, 52, 53, 54, 55, 56, 57, 58, 121, 122, 123, 124, 125, 91, 92, 93, 94, 95, 96, 97, 98, 99, 100, 101, 102, 103, 104] (by decide +kernel) (by decide +kernel)
set_option maxRecDepth 20000 in
theorem gX3_init_X5_init : GoodIn wsX3_init (wsX5_init) := ggX3_init_X5_init
set_option maxRecDepth 20000 in
theorem ggX3_init_X2_init : GoodIn wsX3_init wsX2_init := goodIn_r _ [60, 61, 2, 3, 62, 52, 53, 63, 56, 57, 58, 121, 122, 123, 124, 125, 105, 106, 107, 108, 109, 110] (by decide +kernel) (by decide +kernel)
set_option maxRecDepth 20000 in
theorem gX3_init_X2_init_n50 : GoodIn wsX3_init (wsX2_init) := ggX3_init_X2_init
theorem dX3_init_0 : decode cX3_init 0 = .ok (.aload_n 0, 1) := by decide +kernel
theorem dX3_init_1 : decode cX3_init 1 = .ok (.invokespecial 3, 3) := by decide +kernel
theorem dX3_init_4 : decode cX3_init 4 = .ok (.aload_n 0, 1) := by decide +kernel
theorem dX3_init_5 : decode cX3_init 5 = .ok (.new 9, 3) := by decide +kernel
theorem dX3_init_8 : decode cX3_init 8 = .ok (.dup, 1) := by decide +kernel
theorem dX3_init_9 : decode cX3_init 9 = .ok (.iconst 0, 1) := by decide +kernel
theorem dX3_init_10 : decode cX3_init 10 = .ok (.invokespecial 11, 3) := by decide +kernel
theorem dX3_init_13 : decode cX3_init 13 = .ok (.putfield 14, 3) := by decide +kernel
theorem dX3_init_16 : decode cX3_init 16 = .ok (.aload_n 0, 1) := by decide +kernel
theorem dX3_init_17 : decode cX3_init 17 = .ok (.new 9, 3) := by decide +kernel
theorem dX3_init_20 : decode cX3_init 20 = .ok (.dup, 1) := by decide +kernel
theorem dX3_init_21 : decode cX3_init 21 = .ok (.iconst 1, 1) := by decide +kernel
theorem dX3_init_22 : decode cX3_init 22 = .ok (.invokespecial 11, 3) := by decide +kernel
theorem dX3_init_25 : decode cX3_init 25 = .ok (.putfield 20, 3) := by decide +kernel
theorem dX3_init_28 : decode cX3_init 28 = .ok (.aload_n 0, 1) := by decide +kernel
theorem dX3_init_29 : decode cX3_init 29 = .ok (.bipush 40, 2) := by decide +kernel
theorem dX3_init_31 : decode cX3_init 31 = .ok (.anewarray 23, 3) := by decide +kernel
theorem dX3_init_34 : decode cX3_init 34 = .ok (.putfield 25, 3) := by decide +kernel
theorem dX3_init_37 : decode cX3_init 37 = .ok (.aload_n 0, 1) := by decide +kernel
theorem dX3_init_38 : decode cX3_init 38 = .ok (.iconst 4, 1) := by decide +kernel
theorem dX3_init_39 : decode cX3_init 39 = .ok (.anewarray 29, 3) := by decide +kernel
theorem dX3_init_42 : decode cX3_init 42 = .ok (.putfield 31, 3) := by decide +kernel
theorem dX3_init_45 : decode cX3_init 45 = .ok (.aload_n 0, 1) := by decide +kernel
theorem dX3_init_46 : decode cX3_init 46 = .ok (.new 35, 3) := by decide +kernel
theorem dX3_init_49 : decode cX3_init 49 = .ok (.dup, 1) := by decide +kernel
theorem dX3_init_50 : decode cX3_init 50 = .ok (.invokespecial 37, 3) := by decide +kernel
theorem dX3_init_53 : decode cX3_init 53 = .ok (.putfield 38, 3) := by decide +kernel
theorem dX3_init_56 : decode cX3_init 56 = .ok (.aload_n 0, 1) := by decide +kernel
theorem dX3_init_57 : decode cX3_init 57 = .ok (.bipush 10, 2) := by decide +kernel
theorem dX3_init_59 : decode cX3_init 59 = .ok (.putfield 42, 3) := by decide +kernel
theorem dX3_init_62 : decode cX3_init 62 = .ok (.aload_n 0, 1) := by decide +kernel
theorem dX3_init_63 : decode cX3_init 63 = .ok (.iconst 3, 1) := by decide +kernel
theorem dX3_init_64 : decode cX3_init 64 = .ok (.putfield 46, 3) := by decide +kernel
theorem dX3_init_67 : decode cX3_init 67 = .ok (.iconst 0, 1) := by decide +kernel
theorem dX3_init_68 : decode cX3_init 68 = .ok (.istore_n 1, 1) := by decide +kernel
theorem dX3_init_69 : decode cX3_init 69 = .ok (.iload_n 1, 1) := by decide +kernel
theorem dX3_init_70 : decode cX3_init 70 = .ok (.aload_n 0, 1) := by decide +kernel
theorem dX3_init_71 : decode cX3_init 71 = .ok (.getfield 25, 3) := by decide +kernel
theorem dX3_init_74 : decode cX3_init 74 = .ok (.arraylength, 1) := by decide +kernel
theorem dX3_init_75 : decode cX3_init 75 = .ok (.if_icmp .ge 23, 3) := by decide +kernel
theorem dX3_init_78 : decode cX3_init 78 = .ok (.aload_n 0, 1) := by decide +kernel
theorem dX3_init_79 : decode cX3_init 79 = .ok (.getfield 25, 3) := by decide +kernel
theorem dX3_init_82 : decode cX3_init 82 = .ok (.iload_n 1, 1) := by decide +kernel
theorem dX3_init_83 : decode cX3_init 83 = .ok (.new 23, 3) := by decide +kernel
theorem dX3_init_86 : decode cX3_init 86 = .ok (.dup, 1) := by decide +kernel
theorem dX3_init_87 : decode cX3_init 87 = .ok (.iload_n 1, 1) := by decide +kernel
theorem dX3_init_88 : decode cX3_init 88 = .ok (.invokespecial 49, 3) := by decide +kernel
theorem dX3_init_91 : decode cX3_init 91 = .ok (.aastore, 1) := by decide +kernel
theorem dX3_init_92 : decode cX3_init 92 = .ok (.iinc 1 1, 3) := by decide +kernel
theorem dX3_init_95 : decode cX3_init 95 = .ok (.goto (-26), 3) := by decide +kernel
theorem dX3_init_98 : decode cX3_init 98 = .ok (.iconst 0, 1) := by decide +kernel
theorem dX3_init_99 : decode cX3_init 99 = .ok (.istore_n 1, 1) := by decide +kernel
theorem dX3_init_100 : decode cX3_init 100 = .ok (.iload_n 1, 1) := by decide +kernel
theorem dX3_init_101 : decode cX3_init 101 = .ok (.aload_n 0, 1) := by decide +kernel
theorem dX3_init_102 : decode cX3_init 102 = .ok (.getfield 31, 3) := by decide +kernel
theorem dX3_init_105 : decode cX3_init 105 = .ok (.arraylength, 1) := by decide +kernel
theorem dX3_init_106 : decode cX3_init 106 = .ok (.if_icmp .ge 22, 3) := by decide +kernel
theorem dX3_init_109 : decode cX3_init 109 = .ok (.aload_n 0, 1) := by decide +kernel
theorem dX3_init_110 : decode cX3_init 110 = .ok (.getfield 31, 3) := by decide +kernel
theorem dX3_init_113 : decode cX3_init 113 = .ok (.iload_n 1, 1) := by decide +kernel
theorem dX3_init_114 : decode cX3_init 114 = .ok (.new 29, 3) := by decide +kernel
theorem dX3_init_117 : decode cX3_init 117 = .ok (.dup, 1) := by decide +kernel
theorem dX3_init_118 : decode cX3_init 118 = .ok (.invokespecial 50, 3) := by decide +kernel
theorem dX3_init_121 : decode cX3_init 121 = .ok (.aastore, 1) := by decide +kernel
theorem dX3_init_122 : decode cX3_init 122 = .ok (.iinc 1 1, 3) := by decide +kernel
theorem dX3_init_125 : decode cX3_init 125 = .ok (.goto (-25), 3) := by decide +kernel
theorem dX3_init_128 : decode cX3_init 128 = .ok (.return_, 1) := by decide +kernel
set_option maxRecDepth 20000 in
theorem ggX3_copyFrom_X0_copyFrom : GoodIn wsX3_copyFrom wsX0_copyFrom := goodIn_r _ [19, 20, 21, 22, 23, 24, 25, 26, 27, 28, 29, 30, 31, 32, 33, 34, 35, 36, 37, 38, 39, 40, 41, 42, 43, 44, 45, 109, 110, 111, 112, 113, 114, 115, 116, 117, 118, 119, 120, 121, 122, 123, 124, 125, 126, 127, 128] (by decide +kernel) (by decide +kernel)
set_option maxRecDepth 20000 in
theorem gX3_copyFrom_X0_copyFrom : GoodIn wsX3_copyFrom (wsV RX3 51 RX0 yX0_copyFrom wsX0_copyFrom) := goodIn_app (goodIn_of _ (by decide +kernel)) ggX3_copyFrom_X0_copyFrom
set_option maxRecDepth 20000 in
theorem ggX3_copyFrom_X5_copyFrom : GoodIn wsX3_copyFrom wsX5_copyFrom := goodIn_r _ [50, 51, 52, 53, 54, 55, 56, 57, 58, 59, 60, 61, 62, 63, 64, 65, 66, 67, 68, 69, 70, 71, 72, 73, 129, 130, 131, 132, 133, 134, 135, 136, 137, 138, 139, 140, 141, 142, 143, 144, 145, 146, 147] (by decide +kernel) (by decide +kernel)
set_option maxRecDepth 20000 in
theorem gX3_copyFrom_X5_copyFrom : GoodIn wsX3_copyFrom (wsV RX3 55 RX5 yX5_copyFrom wsX5_copyFrom) := goodIn_app (goodIn_of _ (by decide +kernel)) ggX3_copyFrom_X5_copyFrom
set_option maxRecDepth 20000 in
theorem ggX3_copyFrom_X2_copyFrom : GoodIn wsX3_copyFrom wsX2_copyFrom := goodIn_r _ [78, 79, 80, 81, 82, 83, 84, 85, 65, 66, 67, 68, 69, 70, 71, 72, 73, 148, 149, 150, 151, 152, 153, 143, 144, 145, 146, 147] (by decide +kernel) (by decide +kernel)
set_option maxRecDepth 20000 in
theorem gX3_copyFrom_X2_copyFrom : GoodIn wsX3_copyFrom (wsV RX3 58 RX2 yX2_copyFrom wsX2_copyFrom) := goodIn_app (goodIn_of _ (by decide +kernel)) ggX3_copyFrom_X2_copyFrom
set_option maxRecDepth 20000 in
theorem ggX3_copyFrom_X1_copyFrom : GoodIn wsX3_copyFrom wsX1_copyFrom := goodIn_r _ [90, 91, 92, 22, 23, 24, 93, 94, 154, 155, 156] (by decide +kernel) (by decide +kernel)
set_option maxRecDepth 20000 in
theorem gX3_copyFrom_X1_copyFrom : GoodIn wsX3_copyFrom (wsV RX3 61 RX1 yX1_copyFrom wsX1_copyFrom) := goodIn_app (goodIn_of _ (by decide +kernel)) ggX3_copyFrom_X1_copyFrom
theorem dX3_copyFrom_0 : decode cX3_copyFrom 0 = .ok (.aload_n 0, 1) := by decide +kernel
theorem dX3_copyFrom_1 : decode cX3_copyFrom 1 = .ok (.getfield 14, 3) := by decide +kernel
theorem dX3_copyFrom_4 : decode cX3_copyFrom 4 = .ok (.aload_n 1, 1) := by decide +kernel
theorem dX3_copyFrom_5 : decode cX3_copyFrom 5 = .ok (.getfield 14, 3) := by decide +kernel
theorem dX3_copyFrom_8 : decode cX3_copyFrom 8 = .ok (.invokevirtual 51, 3) := by decide +kernel
theorem dX3_copyFrom_11 : decode cX3_copyFrom 11 = .ok (.aload_n 0, 1) := by decide +kernel
theorem dX3_copyFrom_12 : decode cX3_copyFrom 12 = .ok (.getfield 20, 3) := by decide +kernel
theorem dX3_copyFrom_15 : decode cX3_copyFrom 15 = .ok (.aload_n 1, 1) := by decide +kernel
theorem dX3_copyFrom_16 : decode cX3_copyFrom 16 = .ok (.getfield 20, 3) := by decide +kernel
theorem dX3_copyFrom_19 : decode cX3_copyFrom 19 = .ok (.invokevirtual 51, 3) := by decide +kernel
theorem dX3_copyFrom_22 : decode cX3_copyFrom 22 = .ok (.iconst 0, 1) := by decide +kernel
theorem dX3_copyFrom_23 : decode cX3_copyFrom 23 = .ok (.istore_n 2, 1) := by decide +kernel
theorem dX3_copyFrom_24 : decode cX3_copyFrom 24 = .ok (.iload_n 2, 1) := by decide +kernel
theorem dX3_copyFrom_25 : decode cX3_copyFrom 25 = .ok (.bipush 40, 2) := by decide +kernel
theorem dX3_copyFrom_27 : decode cX3_copyFrom 27 = .ok (.if_icmp .ge 24, 3) := by decide +kernel
theorem dX3_copyFrom_30 : decode cX3_copyFrom 30 = .ok (.aload_n 0, 1) := by decide +kernel
theorem dX3_copyFrom_31 : decode cX3_copyFrom 31 = .ok (.getfield 25, 3) := by decide +kernel
theorem dX3_copyFrom_34 : decode cX3_copyFrom 34 = .ok (.iload_n 2, 1) := by decide +kernel
theorem dX3_copyFrom_35 : decode cX3_copyFrom 35 = .ok (.aaload, 1) := by decide +kernel
theorem dX3_copyFrom_36 : decode cX3_copyFrom 36 = .ok (.aload_n 1, 1) := by decide +kernel
theorem dX3_copyFrom_37 : decode cX3_copyFrom 37 = .ok (.getfield 25, 3) := by decide +kernel
theorem dX3_copyFrom_40 : decode cX3_copyFrom 40 = .ok (.iload_n 2, 1) := by decide +kernel
theorem dX3_copyFrom_41 : decode cX3_copyFrom 41 = .ok (.aaload, 1) := by decide +kernel
theorem dX3_copyFrom_42 : decode cX3_copyFrom 42 = .ok (.invokevirtual 55, 3) := by decide +kernel
theorem dX3_copyFrom_45 : decode cX3_copyFrom 45 = .ok (.iinc 2 1, 3) := by decide +kernel
theorem dX3_copyFrom_48 : decode cX3_copyFrom 48 = .ok (.goto (-24), 3) := by decide +kernel
theorem dX3_copyFrom_51 : decode cX3_copyFrom 51 = .ok (.iconst 0, 1) := by decide +kernel
theorem dX3_copyFrom_52 : decode cX3_copyFrom 52 = .ok (.istore_n 2, 1) := by decide +kernel
theorem dX3_copyFrom_53 : decode cX3_copyFrom 53 = .ok (.iload_n 2, 1) := by decide +kernel
theorem dX3_copyFrom_54 : decode cX3_copyFrom 54 = .ok (.iconst 4, 1) := by decide +kernel
theorem dX3_copyFrom_55 : decode cX3_copyFrom 55 = .ok (.if_icmp .ge 24, 3) := by decide +kernel
theorem dX3_copyFrom_58 : decode cX3_copyFrom 58 = .ok (.aload_n 0, 1) := by decide +kernel
theorem dX3_copyFrom_59 : decode cX3_copyFrom 59 = .ok (.getfield 31, 3) := by decide +kernel
theorem dX3_copyFrom_62 : decode cX3_copyFrom 62 = .ok (.iload_n 2, 1) := by decide +kernel
theorem dX3_copyFrom_63 : decode cX3_copyFrom 63 = .ok (.aaload, 1) := by decide +kernel
theorem dX3_copyFrom_64 : decode cX3_copyFrom 64 = .ok (.aload_n 1, 1) := by decide +kernel
theorem dX3_copyFrom_65 : decode cX3_copyFrom 65 = .ok (.getfield 31, 3) := by decide +kernel
theorem dX3_copyFrom_68 : decode cX3_copyFrom 68 = .ok (.iload_n 2, 1) := by decide +kernel
theorem dX3_copyFrom_69 : decode cX3_copyFrom 69 = .ok (.aaload, 1) := by decide +kernel
theorem dX3_copyFrom_70 : decode cX3_copyFrom 70 = .ok (.invokevirtual 58, 3) := by decide +kernel
theorem dX3_copyFrom_73 : decode cX3_copyFrom 73 = .ok (.iinc 2 1, 3) := by decide +kernel
theorem dX3_copyFrom_76 : decode cX3_copyFrom 76 = .ok (.goto (-23), 3) := by decide +kernel
theorem dX3_copyFrom_79 : decode cX3_copyFrom 79 = .ok (.aload_n 0, 1) := by decide +kernel
theorem dX3_copyFrom_80 : decode cX3_copyFrom 80 = .ok (.getfield 38, 3) := by decide +kernel
theorem dX3_copyFrom_83 : decode cX3_copyFrom 83 = .ok (.aload_n 1, 1) := by decide +kernel
theorem dX3_copyFrom_84 : decode cX3_copyFrom 84 = .ok (.getfield 38, 3) := by decide +kernel
theorem dX3_copyFrom_87 : decode cX3_copyFrom 87 = .ok (.invokevirtual 61, 3) := by decide +kernel
theorem dX3_copyFrom_90 : decode cX3_copyFrom 90 = .ok (.aload_n 0, 1) := by decide +kernel
theorem dX3_copyFrom_91 : decode cX3_copyFrom 91 = .ok (.aload_n 1, 1) := by decide +kernel
theorem dX3_copyFrom_92 : decode cX3_copyFrom 92 = .ok (.getfield 64, 3) := by decide +kernel
theorem dX3_copyFrom_95 : decode cX3_copyFrom 95 = .ok (.putfield 64, 3) := by decide +kernel
theorem dX3_copyFrom_98 : decode cX3_copyFrom 98 = .ok (.aload_n 0, 1) := by decide +kernel
theorem dX3_copyFrom_99 : decode cX3_copyFrom 99 = .ok (.aload_n 1, 1) := by decide +kernel
theorem dX3_copyFrom_100 : decode cX3_copyFrom 100 = .ok (.getfield 67, 3) := by decide +kernel
theorem dX3_copyFrom_103 : decode cX3_copyFrom 103 = .ok (.putfield 67, 3) := by decide +kernel
theorem dX3_copyFrom_106 : decode cX3_copyFrom 106 = .ok (.aload_n 0, 1) := by decide +kernel
theorem dX3_copyFrom_107 : decode cX3_copyFrom 107 = .ok (.aload_n 1, 1) := by decide +kernel
theorem dX3_copyFrom_108 : decode cX3_copyFrom 108 = .ok (.getfield 70, 3) := by decide +kernel
theorem dX3_copyFrom_111 : decode cX3_copyFrom 111 = .ok (.putfield 70, 3) := by decide +kernel
theorem dX3_copyFrom_114 : decode cX3_copyFrom 114 = .ok (.aload_n 0, 1) := by decide +kernel
theorem dX3_copyFrom_115 : decode cX3_copyFrom 115 = .ok (.aload_n 1, 1) := by decide +kernel
theorem dX3_copyFrom_116 : decode cX3_copyFrom 116 = .ok (.getfield 42, 3) := by decide +kernel
theorem dX3_copyFrom_119 : decode cX3_copyFrom 119 = .ok (.putfield 42, 3) := by decide +kernel
theorem dX3_copyFrom_122 : decode cX3_copyFrom 122 = .ok (.aload_n 0, 1) := by decide +kernel
theorem dX3_copyFrom_123 : decode cX3_copyFrom 123 = .ok (.aload_n 1, 1) := by decide +kernel
theorem dX3_copyFrom_124 : decode cX3_copyFrom 124 = .ok (.getfield 46, 3) := by decide +kernel
theorem dX3_copyFrom_127 : decode cX3_copyFrom 127 = .ok (.putfield 46, 3) := by decide +kernel
theorem dX3_copyFrom_130 : decode cX3_copyFrom 130 = .ok (.aload_n 0, 1) := by decide +kernel
theorem dX3_copyFrom_131 : decode cX3_copyFrom 131 = .ok (.aload_n 1, 1) := by decide +kernel
theorem dX3_copyFrom_132 : decode cX3_copyFrom 132 = .ok (.getfield 73, 3) := by decide +kernel
theorem dX3_copyFrom_135 : decode cX3_copyFrom 135 = .ok (.putfield 73, 3) := by decide +kernel
theorem dX3_copyFrom_138 : decode cX3_copyFrom 138 = .ok (.aload_n 0, 1) := by decide +kernel
theorem dX3_copyFrom_139 : decode cX3_copyFrom 139 = .ok (.aload_n 1, 1) := by decide +kernel
theorem dX3_copyFrom_140 : decode cX3_copyFrom 140 = .ok (.getfield 76, 3) := by decide +kernel
theorem dX3_copyFrom_143 : decode cX3_copyFrom 143 = .ok (.putfield 76, 3) := by decide +kernel
theorem dX3_copyFrom_146 : decode cX3_copyFrom 146 = .ok (.aload_n 0, 1) := by decide +kernel
theorem dX3_copyFrom_147 : decode cX3_copyFrom 147 = .ok (.aload_n 1, 1) := by decide +kernel
theorem dX3_copyFrom_148 : decode cX3_copyFrom 148 = .ok (.getfield 79, 3) := by decide +kernel
theorem dX3_copyFrom_151 : decode cX3_copyFrom 151 = .ok (.putfield 79, 3) := by decide +kernel
theorem dX3_copyFrom_154 : decode cX3_copyFrom 154 = .ok (.aload_n 0, 1) := by decide +kernel
theorem dX3_copyFrom_155 : decode cX3_copyFrom 155 = .ok (.aload_n 1, 1) := by decide +kernel
theorem dX3_copyFrom_156 : decode cX3_copyFrom 156 = .ok (.getfield 82, 3) := by decide +kernel
theorem dX3_copyFrom_159 : decode cX3_copyFrom 159 = .ok (.putfield 82, 3) := by decide +kernel
theorem dX3_copyFrom_162 : decode cX3_copyFrom 162 = .ok (.return_, 1) := by decide +kernel
theorem dX3_lineOf_0 : decode cX3_lineOf 0 = .ok (.iload_n 1, 1) := by decide +kernel
theorem dX3_lineOf_1 : decode cX3_lineOf 1 = .ok (.ifCond .ne 10, 3) := by decide +kernel
theorem dX3_lineOf_4 : decode cX3_lineOf 4 = .ok (.aload_n 0, 1) := by decide +kernel
theorem dX3_lineOf_5 : decode cX3_lineOf 5 = .ok (.getfield 14, 3) := by decide +kernel
theorem dX3_lineOf_8 : decode cX3_lineOf 8 = .ok (.goto 7, 3) := by decide +kernel
theorem dX3_lineOf_11 : decode cX3_lineOf 11 = .ok (.aload_n 0, 1) := by decide +kernel
theorem dX3_lineOf_12 : decode cX3_lineOf 12 = .ok (.getfield 20, 3) := by decide +kernel
theorem dX3_lineOf_15 : decode cX3_lineOf 15 = .ok (.areturn, 1) := by decide +kernel
set_option maxRecDepth 20000 in
theorem ggX3_stationOf_X8_within : GoodIn wsX3_stationOf wsX8_within := goodIn_r _ [3] (by decide +kernel) (by decide +kernel)
set_option maxRecDepth 20000 in
theorem gX3_stationOf_X8_within_n85 : GoodIn wsX3_stationOf (wsX8_within) := ggX3_stationOf_X8_within
set_option maxRecDepth 20000 in
theorem ggX3_stationOf_X3_lineOf : GoodIn wsX3_stationOf wsX3_lineOf := goodIn_r _ [8, 9, 10, 18, 19, 20, 21, 22, 23, 24, 25, 26, 27, 28, 29, 30, 31] (by decide +kernel) (by decide +kernel)
set_option maxRecDepth 20000 in
theorem gX3_stationOf_X3_lineOf : GoodIn wsX3_stationOf (wsV RX3 89 RX3 yX3_lineOf wsX3_lineOf) := goodIn_app (goodIn_of _ (by decide +kernel)) ggX3_stationOf_X3_lineOf
set_option maxRecDepth 20000 in
theorem ggX3_stationOf_X0_stationAt : GoodIn wsX3_stationOf wsX0_stationAt := goodIn_r _ [15, 16, 17, 1, 2, 3, 32, 33, 34, 35, 36, 37, 38, 39, 40, 41] (by decide +kernel) (by decide +kernel)
set_option maxRecDepth 20000 in
theorem gX3_stationOf_X0_stationAt : GoodIn wsX3_stationOf (wsV RX3 93 RX0 yX0_stationAt wsX0_stationAt) := goodIn_app (goodIn_of _ (by decide +kernel)) ggX3_stationOf_X0_stationAt
theorem dX3_stationOf_0 : decode cX3_stationOf 0 = .ok (.iload_n 1, 1) := by decide +kernel
theorem dX3_stationOf_1 : decode cX3_stationOf 1 = .ok (.iconst 0, 1) := by decide +kernel
theorem dX3_stationOf_2 : decode cX3_stationOf 2 = .ok (.bipush 19, 2) := by decide +kernel
theorem dX3_stationOf_4 : decode cX3_stationOf 4 = .ok (.invokestatic 85, 3) := by decide +kernel
theorem dX3_stationOf_7 : decode cX3_stationOf 7 = .ok (.ifCond .eq 21, 3) := by decide +kernel
theorem dX3_stationOf_10 : decode cX3_stationOf 10 = .ok (.aload_n 0, 1) := by decide +kernel
theorem dX3_stationOf_11 : decode cX3_stationOf 11 = .ok (.iload_n 1, 1) := by decide +kernel
theorem dX3_stationOf_12 : decode cX3_stationOf 12 = .ok (.bipush 10, 2) := by decide +kernel
theorem dX3_stationOf_14 : decode cX3_stationOf 14 = .ok (.idiv, 1) := by decide +kernel
theorem dX3_stationOf_15 : decode cX3_stationOf 15 = .ok (.invokevirtual 89, 3) := by decide +kernel
theorem dX3_stationOf_18 : decode cX3_stationOf 18 = .ok (.iload_n 1, 1) := by decide +kernel
theorem dX3_stationOf_19 : decode cX3_stationOf 19 = .ok (.bipush 10, 2) := by decide +kernel
theorem dX3_stationOf_21 : decode cX3_stationOf 21 = .ok (.irem, 1) := by decide +kernel
theorem dX3_stationOf_22 : decode cX3_stationOf 22 = .ok (.invokevirtual 93, 3) := by decide +kernel
theorem dX3_stationOf_25 : decode cX3_stationOf 25 = .ok (.goto 4, 3) := by decide +kernel
theorem dX3_stationOf_28 : decode cX3_stationOf 28 = .ok (.aconst_null, 1) := by decide +kernel
theorem dX3_stationOf_29 : decode cX3_stationOf 29 = .ok (.areturn, 1) := by decide +kernel
set_option maxRecDepth 20000 in
theorem ggX3_ticketOf_X8_within : GoodIn wsX3_ticketOf wsX8_within := goodIn_r _ [5] (by decide +kernel) (by decide +kernel)
set_option maxRecDepth 20000 in
theorem gX3_ticketOf_X8_within_n85 : GoodIn wsX3_ticketOf (wsX8_within) := ggX3_ticketOf_X8_within
theorem dX3_ticketOf_0 : decode cX3_ticketOf 0 = .ok (.iload_n 1, 1) := by decide +kernel
theorem dX3_ticketOf_1 : decode cX3_ticketOf 1 = .ok (.iconst 0, 1) := by decide +kernel
theorem dX3_ticketOf_2 : decode cX3_ticketOf 2 = .ok (.aload_n 0, 1) := by decide +kernel
theorem dX3_ticketOf_3 : decode cX3_ticketOf 3 = .ok (.getfield 64, 3) := by decide +kernel
theorem dX3_ticketOf_6 : decode cX3_ticketOf 6 = .ok (.iconst 1, 1) := by decide +kernel
theorem dX3_ticketOf_7 : decode cX3_ticketOf 7 = .ok (.isub, 1) := by decide +kernel
theorem dX3_ticketOf_8 : decode cX3_ticketOf 8 = .ok (.invokestatic 85, 3) := by decide +kernel
theorem dX3_ticketOf_11 : decode cX3_ticketOf 11 = .ok (.ifCond .eq 16, 3) := by decide +kernel
theorem dX3_ticketOf_14 : decode cX3_ticketOf 14 = .ok (.iload_n 1, 1) := by decide +kernel
theorem dX3_ticketOf_15 : decode cX3_ticketOf 15 = .ok (.aload_n 0, 1) := by decide +kernel
theorem dX3_ticketOf_16 : decode cX3_ticketOf 16 = .ok (.getfield 25, 3) := by decide +kernel
theorem dX3_ticketOf_19 : decode cX3_ticketOf 19 = .ok (.arraylength, 1) := by decide +kernel
theorem dX3_ticketOf_20 : decode cX3_ticketOf 20 = .ok (.if_icmp .ge 7, 3) := by decide +kernel
theorem dX3_ticketOf_23 : decode cX3_ticketOf 23 = .ok (.iconst 1, 1) := by decide +kernel
theorem dX3_ticketOf_24 : decode cX3_ticketOf 24 = .ok (.goto 4, 3) := by decide +kernel
theorem dX3_ticketOf_27 : decode cX3_ticketOf 27 = .ok (.iconst 0, 1) := by decide +kernel
theorem dX3_ticketOf_28 : decode cX3_ticketOf 28 = .ok (.istore_n 2, 1) := by decide +kernel
theorem dX3_ticketOf_29 : decode cX3_ticketOf 29 = .ok (.iload_n 2, 1) := by decide +kernel
theorem dX3_ticketOf_30 : decode cX3_ticketOf 30 = .ok (.ifCond .eq 12, 3) := by decide +kernel
theorem dX3_ticketOf_33 : decode cX3_ticketOf 33 = .ok (.aload_n 0, 1) := by decide +kernel
theorem dX3_ticketOf_34 : decode cX3_ticketOf 34 = .ok (.getfield 25, 3) := by decide +kernel
theorem dX3_ticketOf_37 : decode cX3_ticketOf 37 = .ok (.iload_n 1, 1) := by decide +kernel
theorem dX3_ticketOf_38 : decode cX3_ticketOf 38 = .ok (.aaload, 1) := by decide +kernel
theorem dX3_ticketOf_39 : decode cX3_ticketOf 39 = .ok (.goto 4, 3) := by decide +kernel
theorem dX3_ticketOf_42 : decode cX3_ticketOf 42 = .ok (.aconst_null, 1) := by decide +kernel
theorem dX3_ticketOf_43 : decode cX3_ticketOf 43 = .ok (.areturn, 1) := by decide +kernel
set_option maxRecDepth 20000 in
theorem ggX3_orderOf_X8_within : GoodIn wsX3_orderOf wsX8_within := goodIn_r _ [5] (by decide +kernel) (by decide +kernel)
set_option maxRecDepth 20000 in
theorem gX3_orderOf_X8_within_n85 : GoodIn wsX3_orderOf (wsX8_within) := ggX3_orderOf_X8_within
theorem dX3_orderOf_0 : decode cX3_orderOf 0 = .ok (.iload_n 1, 1) := by decide +kernel
theorem dX3_orderOf_1 : decode cX3_orderOf 1 = .ok (.iconst 0, 1) := by decide +kernel
theorem dX3_orderOf_2 : decode cX3_orderOf 2 = .ok (.aload_n 0, 1) := by decide +kernel
theorem dX3_orderOf_3 : decode cX3_orderOf 3 = .ok (.getfield 67, 3) := by decide +kernel
theorem dX3_orderOf_6 : decode cX3_orderOf 6 = .ok (.iconst 1, 1) := by decide +kernel
theorem dX3_orderOf_7 : decode cX3_orderOf 7 = .ok (.isub, 1) := by decide +kernel
theorem dX3_orderOf_8 : decode cX3_orderOf 8 = .ok (.invokestatic 85, 3) := by decide +kernel
theorem dX3_orderOf_11 : decode cX3_orderOf 11 = .ok (.ifCond .eq 16, 3) := by decide +kernel
theorem dX3_orderOf_14 : decode cX3_orderOf 14 = .ok (.iload_n 1, 1) := by decide +kernel
theorem dX3_orderOf_15 : decode cX3_orderOf 15 = .ok (.aload_n 0, 1) := by decide +kernel
theorem dX3_orderOf_16 : decode cX3_orderOf 16 = .ok (.getfield 31, 3) := by decide +kernel
theorem dX3_orderOf_19 : decode cX3_orderOf 19 = .ok (.arraylength, 1) := by decide +kernel
theorem dX3_orderOf_20 : decode cX3_orderOf 20 = .ok (.if_icmp .ge 7, 3) := by decide +kernel
theorem dX3_orderOf_23 : decode cX3_orderOf 23 = .ok (.iconst 1, 1) := by decide +kernel
theorem dX3_orderOf_24 : decode cX3_orderOf 24 = .ok (.goto 4, 3) := by decide +kernel
theorem dX3_orderOf_27 : decode cX3_orderOf 27 = .ok (.iconst 0, 1) := by decide +kernel
theorem dX3_orderOf_28 : decode cX3_orderOf 28 = .ok (.istore_n 2, 1) := by decide +kernel
theorem dX3_orderOf_29 : decode cX3_orderOf 29 = .ok (.iload_n 2, 1) := by decide +kernel
theorem dX3_orderOf_30 : decode cX3_orderOf 30 = .ok (.ifCond .eq 12, 3) := by decide +kernel
theorem dX3_orderOf_33 : decode cX3_orderOf 33 = .ok (.aload_n 0, 1) := by decide +kernel
theorem dX3_orderOf_34 : decode cX3_orderOf 34 = .ok (.getfield 31, 3) := by decide +kernel
theorem dX3_orderOf_37 : decode cX3_orderOf 37 = .ok (.iload_n 1, 1) := by decide +kernel
theorem dX3_orderOf_38 : decode cX3_orderOf 38 = .ok (.aaload, 1) := by decide +kernel
theorem dX3_orderOf_39 : decode cX3_orderOf 39 = .ok (.goto 4, 3) := by decide +kernel
theorem dX3_orderOf_42 : decode cX3_orderOf 42 = .ok (.aconst_null, 1) := by decide +kernel
theorem dX3_orderOf_43 : decode cX3_orderOf 43 = .ok (.areturn, 1) := by decide +kernel
theorem dX3_hasTickets_0 : decode cX3_hasTickets 0 = .ok (.aload_n 0, 1) := by decide +kernel
theorem dX3_hasTickets_1 : decode cX3_hasTickets 1 = .ok (.getfield 64, 3) := by decide +kernel
theorem dX3_hasTickets_4 : decode cX3_hasTickets 4 = .ok (.iload_n 1, 1) := by decide +kernel
theorem dX3_hasTickets_5 : decode cX3_hasTickets 5 = .ok (.iadd, 1) := by decide +kernel
theorem dX3_hasTickets_6 : decode cX3_hasTickets 6 = .ok (.bipush 40, 2) := by decide +kernel
theorem dX3_hasTickets_8 : decode cX3_hasTickets 8 = .ok (.if_icmp .gt 7, 3) := by decide +kernel
theorem dX3_hasTickets_11 : decode cX3_hasTickets 11 = .ok (.iconst 1, 1) := by decide +kernel
theorem dX3_hasTickets_12 : decode cX3_hasTickets 12 = .ok (.goto 4, 3) := by decide +kernel
theorem dX3_hasTickets_15 : decode cX3_hasTickets 15 = .ok (.iconst 0, 1) := by decide +kernel
theorem dX3_hasTickets_16 : decode cX3_hasTickets 16 = .ok (.ireturn, 1) := by decide +kernel
set_option maxRecDepth 20000 in
theorem ggX3_refusalOf_X3_stationOf : GoodIn wsX3_refusalOf wsX3_stationOf := goodIn_r _ [7, 8, 9, 10, 11, 12, 13, 6, 14, 15, 16, 17, 18, 19, 20, 21, 22, 23, 40, 41, 42, 43, 44, 45, 46, 47, 48, 49, 50, 51, 52, 53, 54, 55, 56, 57, 58, 59, 60, 61, 62, 63] (by decide +kernel) (by decide +kernel)
set_option maxRecDepth 20000 in
theorem gX3_refusalOf_X3_stationOf : GoodIn wsX3_refusalOf (wsV RX3 102 RX3 yX3_stationOf wsX3_stationOf) := goodIn_app (goodIn_of _ (by decide +kernel)) ggX3_refusalOf_X3_stationOf
set_option maxRecDepth 20000 in
theorem ggX3_refusalOf_X7_isGood : GoodIn wsX3_refusalOf wsX7_isGood := goodIn_r _ [28, 29, 30, 31, 32, 33, 34, 8, 9, 10, 35, 36, 37, 38, 39] (by decide +kernel) (by decide +kernel)
set_option maxRecDepth 20000 in
theorem gX3_refusalOf_X7_isGood : GoodIn wsX3_refusalOf (wsV RX3 108 RX7 yX7_isGood wsX7_isGood) := goodIn_app (goodIn_of _ (by decide +kernel)) ggX3_refusalOf_X7_isGood
theorem dX3_refusalOf_0 : decode cX3_refusalOf 0 = .ok (.aload_n 0, 1) := by decide +kernel
theorem dX3_refusalOf_1 : decode cX3_refusalOf 1 = .ok (.aload_n 1, 1) := by decide +kernel
theorem dX3_refusalOf_2 : decode cX3_refusalOf 2 = .ok (.getfield 97, 3) := by decide +kernel
theorem dX3_refusalOf_5 : decode cX3_refusalOf 5 = .ok (.invokevirtual 102, 3) := by decide +kernel
theorem dX3_refusalOf_8 : decode cX3_refusalOf 8 = .ok (.ifnull 14, 3) := by decide +kernel
theorem dX3_refusalOf_11 : decode cX3_refusalOf 11 = .ok (.aload_n 0, 1) := by decide +kernel
theorem dX3_refusalOf_12 : decode cX3_refusalOf 12 = .ok (.aload_n 1, 1) := by decide +kernel
theorem dX3_refusalOf_13 : decode cX3_refusalOf 13 = .ok (.getfield 105, 3) := by decide +kernel
theorem dX3_refusalOf_16 : decode cX3_refusalOf 16 = .ok (.invokevirtual 102, 3) := by decide +kernel
theorem dX3_refusalOf_19 : decode cX3_refusalOf 19 = .ok (.ifnonnull 5, 3) := by decide +kernel
theorem dX3_refusalOf_22 : decode cX3_refusalOf 22 = .ok (.iconst (-1), 1) := by decide +kernel
theorem dX3_refusalOf_23 : decode cX3_refusalOf 23 = .ok (.ireturn, 1) := by decide +kernel
theorem dX3_refusalOf_24 : decode cX3_refusalOf 24 = .ok (.aload_n 1, 1) := by decide +kernel
theorem dX3_refusalOf_25 : decode cX3_refusalOf 25 = .ok (.invokevirtual 108, 3) := by decide +kernel
theorem dX3_refusalOf_28 : decode cX3_refusalOf 28 = .ok (.ifCond .eq 7, 3) := by decide +kernel
theorem dX3_refusalOf_31 : decode cX3_refusalOf 31 = .ok (.iconst 0, 1) := by decide +kernel
theorem dX3_refusalOf_32 : decode cX3_refusalOf 32 = .ok (.goto 5, 3) := by decide +kernel
theorem dX3_refusalOf_35 : decode cX3_refusalOf 35 = .ok (.bipush (-2), 2) := by decide +kernel
theorem dX3_refusalOf_37 : decode cX3_refusalOf 37 = .ok (.ireturn, 1) := by decide +kernel
theorem dX3_priceOf_0 : decode cX3_priceOf 0 = .ok (.iload_n 1, 1) := by decide +kernel
theorem dX3_priceOf_1 : decode cX3_priceOf 1 = .ok (.iload_n 2, 1) := by decide +kernel
theorem dX3_priceOf_2 : decode cX3_priceOf 2 = .ok (.imul, 1) := by decide +kernel
theorem dX3_priceOf_3 : decode cX3_priceOf 3 = .ok (.aload_n 0, 1) := by decide +kernel
theorem dX3_priceOf_4 : decode cX3_priceOf 4 = .ok (.getfield 42, 3) := by decide +kernel
theorem dX3_priceOf_7 : decode cX3_priceOf 7 = .ok (.imul, 1) := by decide +kernel
theorem dX3_priceOf_8 : decode cX3_priceOf 8 = .ok (.iload_n 1, 1) := by decide +kernel
theorem dX3_priceOf_9 : decode cX3_priceOf 9 = .ok (.iconst 3, 1) := by decide +kernel
theorem dX3_priceOf_10 : decode cX3_priceOf 10 = .ok (.if_icmp .ne 8, 3) := by decide +kernel
theorem dX3_priceOf_13 : decode cX3_priceOf 13 = .ok (.bipush 25, 2) := by decide +kernel
theorem dX3_priceOf_15 : decode cX3_priceOf 15 = .ok (.goto 4, 3) := by decide +kernel
theorem dX3_priceOf_18 : decode cX3_priceOf 18 = .ok (.iconst 0, 1) := by decide +kernel
theorem dX3_priceOf_19 : decode cX3_priceOf 19 = .ok (.iadd, 1) := by decide +kernel
theorem dX3_priceOf_20 : decode cX3_priceOf 20 = .ok (.ireturn, 1) := by decide +kernel
theorem dX3_countIn_0 : decode cX3_countIn 0 = .ok (.iconst 0, 1) := by decide +kernel
theorem dX3_countIn_1 : decode cX3_countIn 1 = .ok (.istore_n 2, 1) := by decide +kernel
theorem dX3_countIn_2 : decode cX3_countIn 2 = .ok (.iconst 0, 1) := by decide +kernel
theorem dX3_countIn_3 : decode cX3_countIn 3 = .ok (.istore_n 3, 1) := by decide +kernel
theorem dX3_countIn_4 : decode cX3_countIn 4 = .ok (.iload_n 3, 1) := by decide +kernel
theorem dX3_countIn_5 : decode cX3_countIn 5 = .ok (.aload_n 0, 1) := by decide +kernel
theorem dX3_countIn_6 : decode cX3_countIn 6 = .ok (.getfield 64, 3) := by decide +kernel
theorem dX3_countIn_9 : decode cX3_countIn 9 = .ok (.if_icmp .ge 34, 3) := by decide +kernel
theorem dX3_countIn_12 : decode cX3_countIn 12 = .ok (.iload_n 3, 1) := by decide +kernel
theorem dX3_countIn_13 : decode cX3_countIn 13 = .ok (.aload_n 0, 1) := by decide +kernel
theorem dX3_countIn_14 : decode cX3_countIn 14 = .ok (.getfield 25, 3) := by decide +kernel
theorem dX3_countIn_17 : decode cX3_countIn 17 = .ok (.arraylength, 1) := by decide +kernel
theorem dX3_countIn_18 : decode cX3_countIn 18 = .ok (.if_icmp .ge 25, 3) := by decide +kernel
theorem dX3_countIn_21 : decode cX3_countIn 21 = .ok (.aload_n 0, 1) := by decide +kernel
theorem dX3_countIn_22 : decode cX3_countIn 22 = .ok (.getfield 25, 3) := by decide +kernel
theorem dX3_countIn_25 : decode cX3_countIn 25 = .ok (.iload_n 3, 1) := by decide +kernel
theorem dX3_countIn_26 : decode cX3_countIn 26 = .ok (.aaload, 1) := by decide +kernel
theorem dX3_countIn_27 : decode cX3_countIn 27 = .ok (.getfield 112, 3) := by decide +kernel
theorem dX3_countIn_30 : decode cX3_countIn 30 = .ok (.iload_n 1, 1) := by decide +kernel
theorem dX3_countIn_31 : decode cX3_countIn 31 = .ok (.if_icmp .ne 6, 3) := by decide +kernel
theorem dX3_countIn_34 : decode cX3_countIn 34 = .ok (.iinc 2 1, 3) := by decide +kernel
theorem dX3_countIn_37 : decode cX3_countIn 37 = .ok (.iinc 3 1, 3) := by decide +kernel
theorem dX3_countIn_40 : decode cX3_countIn 40 = .ok (.goto (-36), 3) := by decide +kernel
theorem dX3_countIn_43 : decode cX3_countIn 43 = .ok (.iload_n 2, 1) := by decide +kernel
theorem dX3_countIn_44 : decode cX3_countIn 44 = .ok (.ireturn, 1) := by decide +kernel
set_option maxRecDepth 20000 in
theorem ggX3_queueLength_X5_queue : GoodIn wsX3_queueLength wsX5_queue := goodIn_r _ [7, 8, 9, 10, 11, 26, 27, 28, 29, 30, 31, 32, 33, 34, 35, 36, 37, 38, 39, 40, 41, 42, 43, 44] (by decide +kernel) (by decide +kernel)
set_option maxRecDepth 20000 in
theorem gX3_queueLength_X5_queue : GoodIn wsX3_queueLength (wsV RX3 115 RX5 yX5_queue wsX5_queue) := goodIn_app (goodIn_of _ (by decide +kernel)) ggX3_queueLength_X5_queue
theorem dX3_queueLength_0 : decode cX3_queueLength 0 = .ok (.iconst 0, 1) := by decide +kernel
theorem dX3_queueLength_1 : decode cX3_queueLength 1 = .ok (.istore_n 2, 1) := by decide +kernel
theorem dX3_queueLength_2 : decode cX3_queueLength 2 = .ok (.iconst 0, 1) := by decide +kernel
theorem dX3_queueLength_3 : decode cX3_queueLength 3 = .ok (.istore_n 3, 1) := by decide +kernel
theorem dX3_queueLength_4 : decode cX3_queueLength 4 = .ok (.iload_n 3, 1) := by decide +kernel
theorem dX3_queueLength_5 : decode cX3_queueLength 5 = .ok (.aload_n 0, 1) := by decide +kernel
theorem dX3_queueLength_6 : decode cX3_queueLength 6 = .ok (.getfield 64, 3) := by decide +kernel
theorem dX3_queueLength_9 : decode cX3_queueLength 9 = .ok (.if_icmp .ge 34, 3) := by decide +kernel
theorem dX3_queueLength_12 : decode cX3_queueLength 12 = .ok (.iload_n 3, 1) := by decide +kernel
theorem dX3_queueLength_13 : decode cX3_queueLength 13 = .ok (.aload_n 0, 1) := by decide +kernel
theorem dX3_queueLength_14 : decode cX3_queueLength 14 = .ok (.getfield 25, 3) := by decide +kernel
theorem dX3_queueLength_17 : decode cX3_queueLength 17 = .ok (.arraylength, 1) := by decide +kernel
theorem dX3_queueLength_18 : decode cX3_queueLength 18 = .ok (.if_icmp .ge 25, 3) := by decide +kernel
theorem dX3_queueLength_21 : decode cX3_queueLength 21 = .ok (.aload_n 0, 1) := by decide +kernel
theorem dX3_queueLength_22 : decode cX3_queueLength 22 = .ok (.getfield 25, 3) := by decide +kernel
theorem dX3_queueLength_25 : decode cX3_queueLength 25 = .ok (.iload_n 3, 1) := by decide +kernel
theorem dX3_queueLength_26 : decode cX3_queueLength 26 = .ok (.aaload, 1) := by decide +kernel
theorem dX3_queueLength_27 : decode cX3_queueLength 27 = .ok (.invokevirtual 115, 3) := by decide +kernel
theorem dX3_queueLength_30 : decode cX3_queueLength 30 = .ok (.iload_n 1, 1) := by decide +kernel
theorem dX3_queueLength_31 : decode cX3_queueLength 31 = .ok (.if_icmp .ne 6, 3) := by decide +kernel
theorem dX3_queueLength_34 : decode cX3_queueLength 34 = .ok (.iinc 2 1, 3) := by decide +kernel
theorem dX3_queueLength_37 : decode cX3_queueLength 37 = .ok (.iinc 3 1, 3) := by decide +kernel
theorem dX3_queueLength_40 : decode cX3_queueLength 40 = .ok (.goto (-36), 3) := by decide +kernel
theorem dX3_queueLength_43 : decode cX3_queueLength 43 = .ok (.iload_n 2, 1) := by decide +kernel
theorem dX3_queueLength_44 : decode cX3_queueLength 44 = .ok (.ireturn, 1) := by decide +kernel
theorem dX3_hallLength_0 : decode cX3_hallLength 0 = .ok (.iconst 0, 1) := by decide +kernel
theorem dX3_hallLength_1 : decode cX3_hallLength 1 = .ok (.istore_n 2, 1) := by decide +kernel
theorem dX3_hallLength_2 : decode cX3_hallLength 2 = .ok (.iconst 0, 1) := by decide +kernel
theorem dX3_hallLength_3 : decode cX3_hallLength 3 = .ok (.istore_n 3, 1) := by decide +kernel
theorem dX3_hallLength_4 : decode cX3_hallLength 4 = .ok (.iload_n 3, 1) := by decide +kernel
theorem dX3_hallLength_5 : decode cX3_hallLength 5 = .ok (.aload_n 0, 1) := by decide +kernel
theorem dX3_hallLength_6 : decode cX3_hallLength 6 = .ok (.getfield 64, 3) := by decide +kernel
theorem dX3_hallLength_9 : decode cX3_hallLength 9 = .ok (.if_icmp .ge 50, 3) := by decide +kernel
theorem dX3_hallLength_12 : decode cX3_hallLength 12 = .ok (.iload_n 3, 1) := by decide +kernel
theorem dX3_hallLength_13 : decode cX3_hallLength 13 = .ok (.aload_n 0, 1) := by decide +kernel
theorem dX3_hallLength_14 : decode cX3_hallLength 14 = .ok (.getfield 25, 3) := by decide +kernel
theorem dX3_hallLength_17 : decode cX3_hallLength 17 = .ok (.arraylength, 1) := by decide +kernel
theorem dX3_hallLength_18 : decode cX3_hallLength 18 = .ok (.if_icmp .ge 41, 3) := by decide +kernel
theorem dX3_hallLength_21 : decode cX3_hallLength 21 = .ok (.aload_n 0, 1) := by decide +kernel
theorem dX3_hallLength_22 : decode cX3_hallLength 22 = .ok (.getfield 25, 3) := by decide +kernel
theorem dX3_hallLength_25 : decode cX3_hallLength 25 = .ok (.iload_n 3, 1) := by decide +kernel
theorem dX3_hallLength_26 : decode cX3_hallLength 26 = .ok (.aaload, 1) := by decide +kernel
theorem dX3_hallLength_27 : decode cX3_hallLength 27 = .ok (.getfield 112, 3) := by decide +kernel
theorem dX3_hallLength_30 : decode cX3_hallLength 30 = .ok (.iconst 2, 1) := by decide +kernel
theorem dX3_hallLength_31 : decode cX3_hallLength 31 = .ok (.if_icmp .ne 22, 3) := by decide +kernel
theorem dX3_hallLength_34 : decode cX3_hallLength 34 = .ok (.aload_n 0, 1) := by decide +kernel
theorem dX3_hallLength_35 : decode cX3_hallLength 35 = .ok (.getfield 25, 3) := by decide +kernel
theorem dX3_hallLength_38 : decode cX3_hallLength 38 = .ok (.iload_n 3, 1) := by decide +kernel
theorem dX3_hallLength_39 : decode cX3_hallLength 39 = .ok (.aaload, 1) := by decide +kernel
theorem dX3_hallLength_40 : decode cX3_hallLength 40 = .ok (.getfield 119, 3) := by decide +kernel
theorem dX3_hallLength_43 : decode cX3_hallLength 43 = .ok (.aload_n 1, 1) := by decide +kernel
theorem dX3_hallLength_44 : decode cX3_hallLength 44 = .ok (.getfield 122, 3) := by decide +kernel
theorem dX3_hallLength_47 : decode cX3_hallLength 47 = .ok (.if_icmp .ne 6, 3) := by decide +kernel
theorem dX3_hallLength_50 : decode cX3_hallLength 50 = .ok (.iinc 2 1, 3) := by decide +kernel
theorem dX3_hallLength_53 : decode cX3_hallLength 53 = .ok (.iinc 3 1, 3) := by decide +kernel
theorem dX3_hallLength_56 : decode cX3_hallLength 56 = .ok (.goto (-52), 3) := by decide +kernel
theorem dX3_hallLength_59 : decode cX3_hallLength 59 = .ok (.iload_n 2, 1) := by decide +kernel
theorem dX3_hallLength_60 : decode cX3_hallLength 60 = .ok (.ireturn, 1) := by decide +kernel
set_option maxRecDepth 20000 in
theorem ggX3_firstIn_X5_queue : GoodIn wsX3_firstIn wsX5_queue := goodIn_r _ [9, 10, 11, 12, 13, 28, 29, 30, 31, 32, 33, 34, 35, 36, 37, 38, 39, 40, 41, 42, 43, 44, 45, 46] (by decide +kernel) (by decide +kernel)
set_option maxRecDepth 20000 in
theorem gX3_firstIn_X5_queue : GoodIn wsX3_firstIn (wsV RX3 115 RX5 yX5_queue wsX5_queue) := goodIn_app (goodIn_of _ (by decide +kernel)) ggX3_firstIn_X5_queue
theorem dX3_firstIn_0 : decode cX3_firstIn 0 = .ok (.aconst_null, 1) := by decide +kernel
theorem dX3_firstIn_1 : decode cX3_firstIn 1 = .ok (.astore_n 2, 1) := by decide +kernel
theorem dX3_firstIn_2 : decode cX3_firstIn 2 = .ok (.iconst 0, 1) := by decide +kernel
theorem dX3_firstIn_3 : decode cX3_firstIn 3 = .ok (.istore_n 3, 1) := by decide +kernel
theorem dX3_firstIn_4 : decode cX3_firstIn 4 = .ok (.iload_n 3, 1) := by decide +kernel
theorem dX3_firstIn_5 : decode cX3_firstIn 5 = .ok (.aload_n 0, 1) := by decide +kernel
theorem dX3_firstIn_6 : decode cX3_firstIn 6 = .ok (.getfield 64, 3) := by decide +kernel
theorem dX3_firstIn_9 : decode cX3_firstIn 9 = .ok (.if_icmp .ge 60, 3) := by decide +kernel
theorem dX3_firstIn_12 : decode cX3_firstIn 12 = .ok (.iload_n 3, 1) := by decide +kernel
theorem dX3_firstIn_13 : decode cX3_firstIn 13 = .ok (.aload_n 0, 1) := by decide +kernel
theorem dX3_firstIn_14 : decode cX3_firstIn 14 = .ok (.getfield 25, 3) := by decide +kernel
theorem dX3_firstIn_17 : decode cX3_firstIn 17 = .ok (.arraylength, 1) := by decide +kernel
theorem dX3_firstIn_18 : decode cX3_firstIn 18 = .ok (.if_icmp .ge 51, 3) := by decide +kernel
theorem dX3_firstIn_21 : decode cX3_firstIn 21 = .ok (.aload_n 0, 1) := by decide +kernel
theorem dX3_firstIn_22 : decode cX3_firstIn 22 = .ok (.getfield 25, 3) := by decide +kernel
theorem dX3_firstIn_25 : decode cX3_firstIn 25 = .ok (.iload_n 3, 1) := by decide +kernel
theorem dX3_firstIn_26 : decode cX3_firstIn 26 = .ok (.aaload, 1) := by decide +kernel
theorem dX3_firstIn_27 : decode cX3_firstIn 27 = .ok (.astore 4, 2) := by decide +kernel
theorem dX3_firstIn_29 : decode cX3_firstIn 29 = .ok (.aload 4, 2) := by decide +kernel
theorem dX3_firstIn_31 : decode cX3_firstIn 31 = .ok (.invokevirtual 115, 3) := by decide +kernel
theorem dX3_firstIn_34 : decode cX3_firstIn 34 = .ok (.iload_n 1, 1) := by decide +kernel
theorem dX3_firstIn_35 : decode cX3_firstIn 35 = .ok (.if_icmp .ne 28, 3) := by decide +kernel
theorem dX3_firstIn_38 : decode cX3_firstIn 38 = .ok (.aload_n 2, 1) := by decide +kernel
theorem dX3_firstIn_39 : decode cX3_firstIn 39 = .ok (.ifnull 21, 3) := by decide +kernel
theorem dX3_firstIn_42 : decode cX3_firstIn 42 = .ok (.aload 4, 2) := by decide +kernel
theorem dX3_firstIn_44 : decode cX3_firstIn 44 = .ok (.getfield 125, 3) := by decide +kernel
theorem dX3_firstIn_47 : decode cX3_firstIn 47 = .ok (.getfield 129, 3) := by decide +kernel
theorem dX3_firstIn_50 : decode cX3_firstIn 50 = .ok (.aload_n 2, 1) := by decide +kernel
theorem dX3_firstIn_51 : decode cX3_firstIn 51 = .ok (.getfield 125, 3) := by decide +kernel
theorem dX3_firstIn_54 : decode cX3_firstIn 54 = .ok (.getfield 129, 3) := by decide +kernel
theorem dX3_firstIn_57 : decode cX3_firstIn 57 = .ok (.if_icmp .le 6, 3) := by decide +kernel
theorem dX3_firstIn_60 : decode cX3_firstIn 60 = .ok (.aload 4, 2) := by decide +kernel
theorem dX3_firstIn_62 : decode cX3_firstIn 62 = .ok (.astore_n 2, 1) := by decide +kernel
theorem dX3_firstIn_63 : decode cX3_firstIn 63 = .ok (.iinc 3 1, 3) := by decide +kernel
theorem dX3_firstIn_66 : decode cX3_firstIn 66 = .ok (.goto (-62), 3) := by decide +kernel
theorem dX3_firstIn_69 : decode cX3_firstIn 69 = .ok (.aload_n 2, 1) := by decide +kernel
theorem dX3_firstIn_70 : decode cX3_firstIn 70 = .ok (.areturn, 1) := by decide +kernel
set_option maxRecDepth 20000 in
theorem ggX3_inQueue_X5_queue : GoodIn wsX3_inQueue wsX5_queue := goodIn_r _ [9, 10, 11, 12, 13, 28, 29, 30, 31, 32, 33, 34, 35, 36, 37, 38, 39, 40, 41, 42, 43, 44, 45, 46] (by decide +kernel) (by decide +kernel)
set_option maxRecDepth 20000 in
theorem gX3_inQueue_X5_queue : GoodIn wsX3_inQueue (wsV RX3 115 RX5 yX5_queue wsX5_queue) := goodIn_app (goodIn_of _ (by decide +kernel)) ggX3_inQueue_X5_queue
theorem dX3_inQueue_0 : decode cX3_inQueue 0 = .ok (.iload_n 2, 1) := by decide +kernel
theorem dX3_inQueue_1 : decode cX3_inQueue 1 = .ok (.istore_n 3, 1) := by decide +kernel
theorem dX3_inQueue_2 : decode cX3_inQueue 2 = .ok (.iconst 3, 1) := by decide +kernel
theorem dX3_inQueue_3 : decode cX3_inQueue 3 = .ok (.istore 4, 2) := by decide +kernel
theorem dX3_inQueue_5 : decode cX3_inQueue 5 = .ok (.iload 4, 2) := by decide +kernel
theorem dX3_inQueue_7 : decode cX3_inQueue 7 = .ok (.iconst 1, 1) := by decide +kernel
theorem dX3_inQueue_8 : decode cX3_inQueue 8 = .ok (.if_icmp .lt 78, 3) := by decide +kernel
theorem dX3_inQueue_11 : decode cX3_inQueue 11 = .ok (.iconst 0, 1) := by decide +kernel
theorem dX3_inQueue_12 : decode cX3_inQueue 12 = .ok (.istore 5, 2) := by decide +kernel
theorem dX3_inQueue_14 : decode cX3_inQueue 14 = .ok (.iload 5, 2) := by decide +kernel
theorem dX3_inQueue_16 : decode cX3_inQueue 16 = .ok (.aload_n 0, 1) := by decide +kernel
theorem dX3_inQueue_17 : decode cX3_inQueue 17 = .ok (.getfield 64, 3) := by decide +kernel
theorem dX3_inQueue_20 : decode cX3_inQueue 20 = .ok (.if_icmp .ge 60, 3) := by decide +kernel
theorem dX3_inQueue_23 : decode cX3_inQueue 23 = .ok (.iload 5, 2) := by decide +kernel
theorem dX3_inQueue_25 : decode cX3_inQueue 25 = .ok (.aload_n 0, 1) := by decide +kernel
theorem dX3_inQueue_26 : decode cX3_inQueue 26 = .ok (.getfield 25, 3) := by decide +kernel
theorem dX3_inQueue_29 : decode cX3_inQueue 29 = .ok (.arraylength, 1) := by decide +kernel
theorem dX3_inQueue_30 : decode cX3_inQueue 30 = .ok (.if_icmp .ge 50, 3) := by decide +kernel
theorem dX3_inQueue_33 : decode cX3_inQueue 33 = .ok (.aload_n 0, 1) := by decide +kernel
theorem dX3_inQueue_34 : decode cX3_inQueue 34 = .ok (.getfield 25, 3) := by decide +kernel
theorem dX3_inQueue_37 : decode cX3_inQueue 37 = .ok (.iload 5, 2) := by decide +kernel
theorem dX3_inQueue_39 : decode cX3_inQueue 39 = .ok (.aaload, 1) := by decide +kernel
theorem dX3_inQueue_40 : decode cX3_inQueue 40 = .ok (.astore 6, 2) := by decide +kernel
theorem dX3_inQueue_42 : decode cX3_inQueue 42 = .ok (.aload 6, 2) := by decide +kernel
theorem dX3_inQueue_44 : decode cX3_inQueue 44 = .ok (.invokevirtual 115, 3) := by decide +kernel
theorem dX3_inQueue_47 : decode cX3_inQueue 47 = .ok (.iload_n 1, 1) := by decide +kernel
theorem dX3_inQueue_48 : decode cX3_inQueue 48 = .ok (.if_icmp .ne 26, 3) := by decide +kernel
theorem dX3_inQueue_51 : decode cX3_inQueue 51 = .ok (.aload 6, 2) := by decide +kernel
theorem dX3_inQueue_53 : decode cX3_inQueue 53 = .ok (.getfield 125, 3) := by decide +kernel
theorem dX3_inQueue_56 : decode cX3_inQueue 56 = .ok (.getfield 129, 3) := by decide +kernel
theorem dX3_inQueue_59 : decode cX3_inQueue 59 = .ok (.iload 4, 2) := by decide +kernel
theorem dX3_inQueue_61 : decode cX3_inQueue 61 = .ok (.if_icmp .ne 13, 3) := by decide +kernel
theorem dX3_inQueue_64 : decode cX3_inQueue 64 = .ok (.iload_n 3, 1) := by decide +kernel
theorem dX3_inQueue_65 : decode cX3_inQueue 65 = .ok (.ifCond .ne 6, 3) := by decide +kernel
theorem dX3_inQueue_68 : decode cX3_inQueue 68 = .ok (.aload 6, 2) := by decide +kernel
theorem dX3_inQueue_70 : decode cX3_inQueue 70 = .ok (.areturn, 1) := by decide +kernel
theorem dX3_inQueue_71 : decode cX3_inQueue 71 = .ok (.iinc 3 (-1), 3) := by decide +kernel
theorem dX3_inQueue_74 : decode cX3_inQueue 74 = .ok (.iinc 5 1, 3) := by decide +kernel
theorem dX3_inQueue_77 : decode cX3_inQueue 77 = .ok (.goto (-63), 3) := by decide +kernel
theorem dX3_inQueue_80 : decode cX3_inQueue 80 = .ok (.iinc 4 (-1), 3) := by decide +kernel
theorem dX3_inQueue_83 : decode cX3_inQueue 83 = .ok (.goto (-78), 3) := by decide +kernel
theorem dX3_inQueue_86 : decode cX3_inQueue 86 = .ok (.aconst_null, 1) := by decide +kernel
theorem dX3_inQueue_87 : decode cX3_inQueue 87 = .ok (.areturn, 1) := by decide +kernel
set_option maxRecDepth 20000 in
theorem ggX3_nextToBoard_X3_lineOf : GoodIn wsX3_nextToBoard wsX3_lineOf := goodIn_r _ [8, 9, 10, 44, 45, 46, 47, 48, 49, 50, 51, 52, 53, 54, 55, 56, 57] (by decide +kernel) (by decide +kernel)
set_option maxRecDepth 20000 in
theorem gX3_nextToBoard_X3_lineOf : GoodIn wsX3_nextToBoard (wsV RX3 89 RX3 yX3_lineOf wsX3_lineOf) := goodIn_app (goodIn_of _ (by decide +kernel)) ggX3_nextToBoard_X3_lineOf
set_option maxRecDepth 20000 in
theorem ggX3_nextToBoard_X0_hall : GoodIn wsX3_nextToBoard wsX0_hall := goodIn_r _ [15, 16, 58, 59, 60, 61, 62, 63, 64, 65, 66, 67] (by decide +kernel) (by decide +kernel)
set_option maxRecDepth 20000 in
theorem gX3_nextToBoard_X0_hall : GoodIn wsX3_nextToBoard (wsV RX3 139 RX0 yX0_hall wsX0_hall) := goodIn_app (goodIn_of _ (by decide +kernel)) ggX3_nextToBoard_X0_hall
set_option maxRecDepth 20000 in
theorem ggX3_nextToBoard_X3_firstIn : GoodIn wsX3_nextToBoard wsX3_firstIn := goodIn_r _ [20, 21, 22, 23, 24, 25, 26, 27, 28, 29, 30, 31, 32, 33, 44, 45, 46, 47, 48, 49, 50, 51, 52, 53, 54, 55, 56, 57, 68, 69, 70, 71, 72, 73, 74, 75, 76, 77, 78, 79, 80, 81, 82, 83, 84, 85, 86] (by decide +kernel) (by decide +kernel)
set_option maxRecDepth 20000 in
theorem gX3_nextToBoard_X3_firstIn : GoodIn wsX3_nextToBoard (wsV RX3 142 RX3 yX3_firstIn wsX3_firstIn) := goodIn_app (goodIn_of _ (by decide +kernel)) ggX3_nextToBoard_X3_firstIn
theorem dX3_nextToBoard_0 : decode cX3_nextToBoard 0 = .ok (.aload_n 1, 1) := by decide +kernel
theorem dX3_nextToBoard_1 : decode cX3_nextToBoard 1 = .ok (.getfield 132, 3) := by decide +kernel
theorem dX3_nextToBoard_4 : decode cX3_nextToBoard 4 = .ok (.ifCond .eq 21, 3) := by decide +kernel
theorem dX3_nextToBoard_7 : decode cX3_nextToBoard 7 = .ok (.aload_n 0, 1) := by decide +kernel
theorem dX3_nextToBoard_8 : decode cX3_nextToBoard 8 = .ok (.aload_n 0, 1) := by decide +kernel
theorem dX3_nextToBoard_9 : decode cX3_nextToBoard 9 = .ok (.aload_n 1, 1) := by decide +kernel
theorem dX3_nextToBoard_10 : decode cX3_nextToBoard 10 = .ok (.getfield 138, 3) := by decide +kernel
theorem dX3_nextToBoard_13 : decode cX3_nextToBoard 13 = .ok (.invokevirtual 89, 3) := by decide +kernel
theorem dX3_nextToBoard_16 : decode cX3_nextToBoard 16 = .ok (.invokevirtual 139, 3) := by decide +kernel
theorem dX3_nextToBoard_19 : decode cX3_nextToBoard 19 = .ok (.invokevirtual 142, 3) := by decide +kernel
theorem dX3_nextToBoard_22 : decode cX3_nextToBoard 22 = .ok (.goto 4, 3) := by decide +kernel
theorem dX3_nextToBoard_25 : decode cX3_nextToBoard 25 = .ok (.aconst_null, 1) := by decide +kernel
theorem dX3_nextToBoard_26 : decode cX3_nextToBoard 26 = .ok (.astore_n 2, 1) := by decide +kernel
theorem dX3_nextToBoard_27 : decode cX3_nextToBoard 27 = .ok (.aload_n 2, 1) := by decide +kernel
theorem dX3_nextToBoard_28 : decode cX3_nextToBoard 28 = .ok (.ifnonnull 14, 3) := by decide +kernel
theorem dX3_nextToBoard_31 : decode cX3_nextToBoard 31 = .ok (.aload_n 0, 1) := by decide +kernel
theorem dX3_nextToBoard_32 : decode cX3_nextToBoard 32 = .ok (.aload_n 1, 1) := by decide +kernel
theorem dX3_nextToBoard_33 : decode cX3_nextToBoard 33 = .ok (.getfield 146, 3) := by decide +kernel
theorem dX3_nextToBoard_36 : decode cX3_nextToBoard 36 = .ok (.invokevirtual 142, 3) := by decide +kernel
theorem dX3_nextToBoard_39 : decode cX3_nextToBoard 39 = .ok (.goto 4, 3) := by decide +kernel
theorem dX3_nextToBoard_42 : decode cX3_nextToBoard 42 = .ok (.aload_n 2, 1) := by decide +kernel
theorem dX3_nextToBoard_43 : decode cX3_nextToBoard 43 = .ok (.areturn, 1) := by decide +kernel
set_option maxRecDepth 20000 in
theorem ggX3_admit_X8_within : GoodIn wsX3_admit wsX8_within := goodIn_r _ [9] (by decide +kernel) (by decide +kernel)
set_option maxRecDepth 20000 in
theorem gX3_admit_X8_within_n85 : GoodIn wsX3_admit (wsX8_within) := ggX3_admit_X8_within
set_option maxRecDepth 20000 in
theorem ggX3_admit_X3_priceOf : GoodIn wsX3_admit wsX3_priceOf := goodIn_r _ [14, 15, 45, 46, 47, 48, 49, 50, 51, 52, 53, 54, 55, 56, 57, 58] (by decide +kernel) (by decide +kernel)
set_option maxRecDepth 20000 in
theorem gX3_admit_X3_priceOf : GoodIn wsX3_admit (wsV RX3 152 RX3 yX3_priceOf wsX3_priceOf) := goodIn_app (goodIn_of _ (by decide +kernel)) ggX3_admit_X3_priceOf
set_option maxRecDepth 20000 in
theorem ggX3_admit_X5_issue : GoodIn wsX3_admit wsX5_issue := goodIn_r _ [20, 21, 22, 23, 24, 25, 26, 27, 28, 29, 30, 31, 32, 33, 34, 35, 36, 37, 38, 39, 40, 41, 42, 43, 44, 64, 65, 66, 67, 68, 69, 70, 71, 72, 73, 74, 75, 76, 77, 59, 60, 61, 62, 63] (by decide +kernel) (by decide +kernel)
set_option maxRecDepth 20000 in
theorem gX3_admit_X5_issue : GoodIn wsX3_admit (wsV RX3 156 RX5 yX5_issue wsX5_issue) := goodIn_app (goodIn_of _ (by decide +kernel)) ggX3_admit_X5_issue
theorem dX3_admit_0 : decode cX3_admit 0 = .ok (.aload_n 0, 1) := by decide +kernel
theorem dX3_admit_1 : decode cX3_admit 1 = .ok (.getfield 64, 3) := by decide +kernel
theorem dX3_admit_4 : decode cX3_admit 4 = .ok (.istore_n 2, 1) := by decide +kernel
theorem dX3_admit_5 : decode cX3_admit 5 = .ok (.iload_n 2, 1) := by decide +kernel
theorem dX3_admit_6 : decode cX3_admit 6 = .ok (.iconst 0, 1) := by decide +kernel
theorem dX3_admit_7 : decode cX3_admit 7 = .ok (.aload_n 0, 1) := by decide +kernel
theorem dX3_admit_8 : decode cX3_admit 8 = .ok (.getfield 25, 3) := by decide +kernel
theorem dX3_admit_11 : decode cX3_admit 11 = .ok (.arraylength, 1) := by decide +kernel
theorem dX3_admit_12 : decode cX3_admit 12 = .ok (.iconst 1, 1) := by decide +kernel
theorem dX3_admit_13 : decode cX3_admit 13 = .ok (.isub, 1) := by decide +kernel
theorem dX3_admit_14 : decode cX3_admit 14 = .ok (.invokestatic 85, 3) := by decide +kernel
theorem dX3_admit_17 : decode cX3_admit 17 = .ok (.ifCond .ne 6, 3) := by decide +kernel
theorem dX3_admit_20 : decode cX3_admit 20 = .ok (.bipush (-3), 2) := by decide +kernel
theorem dX3_admit_22 : decode cX3_admit 22 = .ok (.ireturn, 1) := by decide +kernel
theorem dX3_admit_23 : decode cX3_admit 23 = .ok (.aload_n 0, 1) := by decide +kernel
theorem dX3_admit_24 : decode cX3_admit 24 = .ok (.aload_n 1, 1) := by decide +kernel
theorem dX3_admit_25 : decode cX3_admit 25 = .ok (.getfield 129, 3) := by decide +kernel
theorem dX3_admit_28 : decode cX3_admit 28 = .ok (.aload_n 1, 1) := by decide +kernel
theorem dX3_admit_29 : decode cX3_admit 29 = .ok (.getfield 149, 3) := by decide +kernel
theorem dX3_admit_32 : decode cX3_admit 32 = .ok (.invokevirtual 152, 3) := by decide +kernel
theorem dX3_admit_35 : decode cX3_admit 35 = .ok (.istore_n 3, 1) := by decide +kernel
theorem dX3_admit_36 : decode cX3_admit 36 = .ok (.aload_n 0, 1) := by decide +kernel
theorem dX3_admit_37 : decode cX3_admit 37 = .ok (.getfield 25, 3) := by decide +kernel
theorem dX3_admit_40 : decode cX3_admit 40 = .ok (.iload_n 2, 1) := by decide +kernel
theorem dX3_admit_41 : decode cX3_admit 41 = .ok (.aaload, 1) := by decide +kernel
theorem dX3_admit_42 : decode cX3_admit 42 = .ok (.aload_n 1, 1) := by decide +kernel
theorem dX3_admit_43 : decode cX3_admit 43 = .ok (.iload_n 3, 1) := by decide +kernel
theorem dX3_admit_44 : decode cX3_admit 44 = .ok (.aload_n 0, 1) := by decide +kernel
theorem dX3_admit_45 : decode cX3_admit 45 = .ok (.getfield 70, 3) := by decide +kernel
theorem dX3_admit_48 : decode cX3_admit 48 = .ok (.invokevirtual 156, 3) := by decide +kernel
theorem dX3_admit_51 : decode cX3_admit 51 = .ok (.aload_n 0, 1) := by decide +kernel
theorem dX3_admit_52 : decode cX3_admit 52 = .ok (.dup, 1) := by decide +kernel
theorem dX3_admit_53 : decode cX3_admit 53 = .ok (.getfield 73, 3) := by decide +kernel
theorem dX3_admit_56 : decode cX3_admit 56 = .ok (.iload_n 3, 1) := by decide +kernel
theorem dX3_admit_57 : decode cX3_admit 57 = .ok (.iadd, 1) := by decide +kernel
theorem dX3_admit_58 : decode cX3_admit 58 = .ok (.putfield 73, 3) := by decide +kernel
theorem dX3_admit_61 : decode cX3_admit 61 = .ok (.aload_n 0, 1) := by decide +kernel
theorem dX3_admit_62 : decode cX3_admit 62 = .ok (.dup, 1) := by decide +kernel
theorem dX3_admit_63 : decode cX3_admit 63 = .ok (.getfield 64, 3) := by decide +kernel
theorem dX3_admit_66 : decode cX3_admit 66 = .ok (.iconst 1, 1) := by decide +kernel
theorem dX3_admit_67 : decode cX3_admit 67 = .ok (.iadd, 1) := by decide +kernel
theorem dX3_admit_68 : decode cX3_admit 68 = .ok (.putfield 64, 3) := by decide +kernel
theorem dX3_admit_71 : decode cX3_admit 71 = .ok (.iload_n 2, 1) := by decide +kernel
theorem dX3_admit_72 : decode cX3_admit 72 = .ok (.ireturn, 1) := by decide +kernel
set_option maxRecDepth 20000 in
theorem ggX3_giveOrder_X8_within : GoodIn wsX3_giveOrder wsX8_within := goodIn_r _ [6] (by decide +kernel) (by decide +kernel)
set_option maxRecDepth 20000 in
theorem gX3_giveOrder_X8_within_n85 : GoodIn wsX3_giveOrder (wsX8_within) := ggX3_giveOrder_X8_within
set_option maxRecDepth 20000 in
theorem ggX3_giveOrder_X2_give : GoodIn wsX3_giveOrder wsX2_give := goodIn_r _ [11, 12, 13, 14, 15, 16, 17, 18, 19, 20, 21, 22, 23, 24, 25, 26, 27, 42, 43, 44, 45, 46, 47, 48, 49, 50, 51, 52] (by decide +kernel) (by decide +kernel)
set_option maxRecDepth 20000 in
theorem gX3_giveOrder_X2_give : GoodIn wsX3_giveOrder (wsV RX3 160 RX2 yX2_give wsX2_give) := goodIn_app (goodIn_of _ (by decide +kernel)) ggX3_giveOrder_X2_give
theorem dX3_giveOrder_0 : decode cX3_giveOrder 0 = .ok (.aload_n 0, 1) := by decide +kernel
theorem dX3_giveOrder_1 : decode cX3_giveOrder 1 = .ok (.getfield 67, 3) := by decide +kernel
theorem dX3_giveOrder_4 : decode cX3_giveOrder 4 = .ok (.istore_n 3, 1) := by decide +kernel
theorem dX3_giveOrder_5 : decode cX3_giveOrder 5 = .ok (.iload_n 3, 1) := by decide +kernel
theorem dX3_giveOrder_6 : decode cX3_giveOrder 6 = .ok (.iconst 0, 1) := by decide +kernel
theorem dX3_giveOrder_7 : decode cX3_giveOrder 7 = .ok (.aload_n 0, 1) := by decide +kernel
theorem dX3_giveOrder_8 : decode cX3_giveOrder 8 = .ok (.getfield 31, 3) := by decide +kernel
theorem dX3_giveOrder_11 : decode cX3_giveOrder 11 = .ok (.arraylength, 1) := by decide +kernel
theorem dX3_giveOrder_12 : decode cX3_giveOrder 12 = .ok (.iconst 1, 1) := by decide +kernel
theorem dX3_giveOrder_13 : decode cX3_giveOrder 13 = .ok (.isub, 1) := by decide +kernel
theorem dX3_giveOrder_14 : decode cX3_giveOrder 14 = .ok (.invokestatic 85, 3) := by decide +kernel
theorem dX3_giveOrder_17 : decode cX3_giveOrder 17 = .ok (.ifCond .ne 6, 3) := by decide +kernel
theorem dX3_giveOrder_20 : decode cX3_giveOrder 20 = .ok (.bipush (-3), 2) := by decide +kernel
theorem dX3_giveOrder_22 : decode cX3_giveOrder 22 = .ok (.ireturn, 1) := by decide +kernel
theorem dX3_giveOrder_23 : decode cX3_giveOrder 23 = .ok (.aload_n 0, 1) := by decide +kernel
theorem dX3_giveOrder_24 : decode cX3_giveOrder 24 = .ok (.getfield 31, 3) := by decide +kernel
theorem dX3_giveOrder_27 : decode cX3_giveOrder 27 = .ok (.iload_n 3, 1) := by decide +kernel
theorem dX3_giveOrder_28 : decode cX3_giveOrder 28 = .ok (.aaload, 1) := by decide +kernel
theorem dX3_giveOrder_29 : decode cX3_giveOrder 29 = .ok (.aload_n 1, 1) := by decide +kernel
theorem dX3_giveOrder_30 : decode cX3_giveOrder 30 = .ok (.iload_n 2, 1) := by decide +kernel
theorem dX3_giveOrder_31 : decode cX3_giveOrder 31 = .ok (.aload_n 0, 1) := by decide +kernel
theorem dX3_giveOrder_32 : decode cX3_giveOrder 32 = .ok (.getfield 70, 3) := by decide +kernel
theorem dX3_giveOrder_35 : decode cX3_giveOrder 35 = .ok (.invokevirtual 160, 3) := by decide +kernel
theorem dX3_giveOrder_38 : decode cX3_giveOrder 38 = .ok (.aload_n 0, 1) := by decide +kernel
theorem dX3_giveOrder_39 : decode cX3_giveOrder 39 = .ok (.dup, 1) := by decide +kernel
theorem dX3_giveOrder_40 : decode cX3_giveOrder 40 = .ok (.getfield 67, 3) := by decide +kernel
theorem dX3_giveOrder_43 : decode cX3_giveOrder 43 = .ok (.iconst 1, 1) := by decide +kernel
theorem dX3_giveOrder_44 : decode cX3_giveOrder 44 = .ok (.iadd, 1) := by decide +kernel
theorem dX3_giveOrder_45 : decode cX3_giveOrder 45 = .ok (.putfield 67, 3) := by decide +kernel
theorem dX3_giveOrder_48 : decode cX3_giveOrder 48 = .ok (.iload_n 3, 1) := by decide +kernel
theorem dX3_giveOrder_49 : decode cX3_giveOrder 49 = .ok (.ireturn, 1) := by decide +kernel
set_option maxRecDepth 20000 in
theorem ggX3_withdraw_X3_lineOf : GoodIn wsX3_withdraw wsX3_lineOf := goodIn_r _ [12, 13, 14, 48, 49, 50, 51, 52, 53, 54, 55, 56, 57, 58, 59, 60, 61] (by decide +kernel) (by decide +kernel)
set_option maxRecDepth 20000 in
theorem gX3_withdraw_X3_lineOf : GoodIn wsX3_withdraw (wsV RX3 89 RX3 yX3_lineOf wsX3_lineOf) := goodIn_app (goodIn_of _ (by decide +kernel)) ggX3_withdraw_X3_lineOf
set_option maxRecDepth 20000 in
theorem ggX3_withdraw_X0_setRider : GoodIn wsX3_withdraw wsX0_setRider := goodIn_r _ [19, 20, 21, 22, 23, 62, 63, 64, 65, 66, 67, 68, 69, 70, 71] (by decide +kernel) (by decide +kernel)
set_option maxRecDepth 20000 in
theorem gX3_withdraw_X0_setRider : GoodIn wsX3_withdraw (wsV RX3 167 RX0 yX0_setRider wsX0_setRider) := goodIn_app (goodIn_of _ (by decide +kernel)) ggX3_withdraw_X0_setRider
set_option maxRecDepth 20000 in
theorem ggX3_withdraw_X5_finish : GoodIn wsX3_withdraw wsX5_finish := goodIn_r _ [28, 29, 30, 31, 32, 33, 34, 35, 36, 37, 38, 39, 40, 41, 42, 43, 44, 45, 46, 47] (by decide +kernel) (by decide +kernel)
set_option maxRecDepth 20000 in
theorem gX3_withdraw_X5_finish : GoodIn wsX3_withdraw (wsV RX3 171 RX5 yX5_finish wsX5_finish) := goodIn_app (goodIn_of _ (by decide +kernel)) ggX3_withdraw_X5_finish
theorem dX3_withdraw_0 : decode cX3_withdraw 0 = .ok (.aload_n 1, 1) := by decide +kernel
theorem dX3_withdraw_1 : decode cX3_withdraw 1 = .ok (.getfield 163, 3) := by decide +kernel
theorem dX3_withdraw_4 : decode cX3_withdraw 4 = .ok (.istore_n 2, 1) := by decide +kernel
theorem dX3_withdraw_5 : decode cX3_withdraw 5 = .ok (.aload_n 1, 1) := by decide +kernel
theorem dX3_withdraw_6 : decode cX3_withdraw 6 = .ok (.getfield 112, 3) := by decide +kernel
theorem dX3_withdraw_9 : decode cX3_withdraw 9 = .ok (.iconst 1, 1) := by decide +kernel
theorem dX3_withdraw_10 : decode cX3_withdraw 10 = .ok (.if_icmp .ne 27, 3) := by decide +kernel
theorem dX3_withdraw_13 : decode cX3_withdraw 13 = .ok (.aload_n 1, 1) := by decide +kernel
theorem dX3_withdraw_14 : decode cX3_withdraw 14 = .ok (.getfield 163, 3) := by decide +kernel
theorem dX3_withdraw_17 : decode cX3_withdraw 17 = .ok (.iconst 2, 1) := by decide +kernel
theorem dX3_withdraw_18 : decode cX3_withdraw 18 = .ok (.idiv, 1) := by decide +kernel
theorem dX3_withdraw_19 : decode cX3_withdraw 19 = .ok (.istore_n 2, 1) := by decide +kernel
theorem dX3_withdraw_20 : decode cX3_withdraw 20 = .ok (.aload_n 0, 1) := by decide +kernel
theorem dX3_withdraw_21 : decode cX3_withdraw 21 = .ok (.aload_n 1, 1) := by decide +kernel
theorem dX3_withdraw_22 : decode cX3_withdraw 22 = .ok (.getfield 119, 3) := by decide +kernel
theorem dX3_withdraw_25 : decode cX3_withdraw 25 = .ok (.invokevirtual 89, 3) := by decide +kernel
theorem dX3_withdraw_28 : decode cX3_withdraw 28 = .ok (.aload_n 1, 1) := by decide +kernel
theorem dX3_withdraw_29 : decode cX3_withdraw 29 = .ok (.getfield 164, 3) := by decide +kernel
theorem dX3_withdraw_32 : decode cX3_withdraw 32 = .ok (.bipush (-5), 2) := by decide +kernel
theorem dX3_withdraw_34 : decode cX3_withdraw 34 = .ok (.invokevirtual 167, 3) := by decide +kernel
theorem dX3_withdraw_37 : decode cX3_withdraw 37 = .ok (.aload_n 0, 1) := by decide +kernel
theorem dX3_withdraw_38 : decode cX3_withdraw 38 = .ok (.dup, 1) := by decide +kernel
theorem dX3_withdraw_39 : decode cX3_withdraw 39 = .ok (.getfield 79, 3) := by decide +kernel
theorem dX3_withdraw_42 : decode cX3_withdraw 42 = .ok (.iload_n 2, 1) := by decide +kernel
theorem dX3_withdraw_43 : decode cX3_withdraw 43 = .ok (.iadd, 1) := by decide +kernel
theorem dX3_withdraw_44 : decode cX3_withdraw 44 = .ok (.putfield 79, 3) := by decide +kernel
theorem dX3_withdraw_47 : decode cX3_withdraw 47 = .ok (.aload_n 0, 1) := by decide +kernel
theorem dX3_withdraw_48 : decode cX3_withdraw 48 = .ok (.dup, 1) := by decide +kernel
theorem dX3_withdraw_49 : decode cX3_withdraw 49 = .ok (.getfield 76, 3) := by decide +kernel
theorem dX3_withdraw_52 : decode cX3_withdraw 52 = .ok (.aload_n 1, 1) := by decide +kernel
theorem dX3_withdraw_53 : decode cX3_withdraw 53 = .ok (.getfield 163, 3) := by decide +kernel
theorem dX3_withdraw_56 : decode cX3_withdraw 56 = .ok (.iload_n 2, 1) := by decide +kernel
theorem dX3_withdraw_57 : decode cX3_withdraw 57 = .ok (.isub, 1) := by decide +kernel
theorem dX3_withdraw_58 : decode cX3_withdraw 58 = .ok (.iadd, 1) := by decide +kernel
theorem dX3_withdraw_59 : decode cX3_withdraw 59 = .ok (.putfield 76, 3) := by decide +kernel
theorem dX3_withdraw_62 : decode cX3_withdraw 62 = .ok (.aload_n 1, 1) := by decide +kernel
theorem dX3_withdraw_63 : decode cX3_withdraw 63 = .ok (.bipush 8, 2) := by decide +kernel
theorem dX3_withdraw_65 : decode cX3_withdraw 65 = .ok (.bipush (-5), 2) := by decide +kernel
theorem dX3_withdraw_67 : decode cX3_withdraw 67 = .ok (.aload_n 0, 1) := by decide +kernel
theorem dX3_withdraw_68 : decode cX3_withdraw 68 = .ok (.getfield 70, 3) := by decide +kernel
theorem dX3_withdraw_71 : decode cX3_withdraw 71 = .ok (.invokevirtual 171, 3) := by decide +kernel
theorem dX3_withdraw_74 : decode cX3_withdraw 74 = .ok (.iload_n 2, 1) := by decide +kernel
theorem dX3_withdraw_75 : decode cX3_withdraw 75 = .ok (.ireturn, 1) := by decide +kernel
set_option maxRecDepth 20000 in
theorem ggX3_putOutRiders_X0_riderIn : GoodIn wsX3_putOutRiders wsX0_riderIn := goodIn_r _ [12, 13, 14, 15, 16, 46, 47, 48, 49, 50, 51, 52, 53, 54, 55] (by decide +kernel) (by decide +kernel)
set_option maxRecDepth 20000 in
theorem gX3_putOutRiders_X0_riderIn : GoodIn wsX3_putOutRiders (wsV RX3 178 RX0 yX0_riderIn wsX0_riderIn) := goodIn_app (goodIn_of _ (by decide +kernel)) ggX3_putOutRiders_X0_riderIn
set_option maxRecDepth 20000 in
theorem ggX3_putOutRiders_X3_ticketOf : GoodIn wsX3_putOutRiders wsX3_ticketOf := goodIn_r _ [21, 22, 23, 14, 15, 16, 56, 57, 58, 59, 60, 61, 62, 63, 64, 65, 66, 67, 68, 69] (by decide +kernel) (by decide +kernel)
set_option maxRecDepth 20000 in
theorem gX3_putOutRiders_X3_ticketOf : GoodIn wsX3_putOutRiders (wsV RX3 182 RX3 yX3_ticketOf wsX3_ticketOf) := goodIn_app (goodIn_of _ (by decide +kernel)) ggX3_putOutRiders_X3_ticketOf
set_option maxRecDepth 20000 in
theorem ggX3_putOutRiders_X1_write : GoodIn wsX3_putOutRiders wsX1_write := goodIn_r _ [28, 29, 30, 31, 84, 85, 86] (by decide +kernel) (by decide +kernel)
set_option maxRecDepth 20000 in
theorem gX3_putOutRiders_X1_write : GoodIn wsX3_putOutRiders (wsV RX3 186 RX1 yX1_write wsX1_write) := goodIn_app (goodIn_of _ (by decide +kernel)) ggX3_putOutRiders_X1_write
set_option maxRecDepth 20000 in
theorem ggX3_putOutRiders_X5_finish : GoodIn wsX3_putOutRiders wsX5_finish := goodIn_r _ [36, 37, 38, 39, 40, 41, 70, 71, 72, 73, 74, 75, 76, 77, 78, 79, 80, 81, 82, 83] (by decide +kernel) (by decide +kernel)
set_option maxRecDepth 20000 in
theorem gX3_putOutRiders_X5_finish : GoodIn wsX3_putOutRiders (wsV RX3 171 RX5 yX5_finish wsX5_finish) := goodIn_app (goodIn_of _ (by decide +kernel)) ggX3_putOutRiders_X5_finish
set_option maxRecDepth 20000 in
theorem ggX3_putOutRiders_X0_setRider : GoodIn wsX3_putOutRiders wsX0_setRider := goodIn_r _ [45, 13, 14, 15, 16, 46, 47, 48, 49, 50, 51, 52, 53, 54, 55] (by decide +kernel) (by decide +kernel)
set_option maxRecDepth 20000 in
theorem gX3_putOutRiders_X0_setRider : GoodIn wsX3_putOutRiders (wsV RX3 167 RX0 yX0_setRider wsX0_setRider) := goodIn_app (goodIn_of _ (by decide +kernel)) ggX3_putOutRiders_X0_setRider
theorem dX3_putOutRiders_0 : decode cX3_putOutRiders 0 = .ok (.iconst 0, 1) := by decide +kernel
theorem dX3_putOutRiders_1 : decode cX3_putOutRiders 1 = .ok (.istore_n 2, 1) := by decide +kernel
theorem dX3_putOutRiders_2 : decode cX3_putOutRiders 2 = .ok (.iload_n 2, 1) := by decide +kernel
theorem dX3_putOutRiders_3 : decode cX3_putOutRiders 3 = .ok (.aload_n 1, 1) := by decide +kernel
theorem dX3_putOutRiders_4 : decode cX3_putOutRiders 4 = .ok (.getfield 175, 3) := by decide +kernel
theorem dX3_putOutRiders_7 : decode cX3_putOutRiders 7 = .ok (.if_icmp .ge 78, 3) := by decide +kernel
theorem dX3_putOutRiders_10 : decode cX3_putOutRiders 10 = .ok (.aload_n 0, 1) := by decide +kernel
theorem dX3_putOutRiders_11 : decode cX3_putOutRiders 11 = .ok (.aload_n 1, 1) := by decide +kernel
theorem dX3_putOutRiders_12 : decode cX3_putOutRiders 12 = .ok (.iload_n 2, 1) := by decide +kernel
theorem dX3_putOutRiders_13 : decode cX3_putOutRiders 13 = .ok (.invokevirtual 178, 3) := by decide +kernel
theorem dX3_putOutRiders_16 : decode cX3_putOutRiders 16 = .ok (.invokevirtual 182, 3) := by decide +kernel
theorem dX3_putOutRiders_19 : decode cX3_putOutRiders 19 = .ok (.astore_n 3, 1) := by decide +kernel
theorem dX3_putOutRiders_20 : decode cX3_putOutRiders 20 = .ok (.aload_n 3, 1) := by decide +kernel
theorem dX3_putOutRiders_21 : decode cX3_putOutRiders 21 = .ok (.ifnull 58, 3) := by decide +kernel
theorem dX3_putOutRiders_24 : decode cX3_putOutRiders 24 = .ok (.aload_n 0, 1) := by decide +kernel
theorem dX3_putOutRiders_25 : decode cX3_putOutRiders 25 = .ok (.getfield 38, 3) := by decide +kernel
theorem dX3_putOutRiders_28 : decode cX3_putOutRiders 28 = .ok (.bipush 8, 2) := by decide +kernel
theorem dX3_putOutRiders_30 : decode cX3_putOutRiders 30 = .ok (.aload_n 3, 1) := by decide +kernel
theorem dX3_putOutRiders_31 : decode cX3_putOutRiders 31 = .ok (.getfield 185, 3) := by decide +kernel
theorem dX3_putOutRiders_34 : decode cX3_putOutRiders 34 = .ok (.aload_n 1, 1) := by decide +kernel
theorem dX3_putOutRiders_35 : decode cX3_putOutRiders 35 = .ok (.getfield 122, 3) := by decide +kernel
theorem dX3_putOutRiders_38 : decode cX3_putOutRiders 38 = .ok (.bipush (-5), 2) := by decide +kernel
theorem dX3_putOutRiders_40 : decode cX3_putOutRiders 40 = .ok (.aload_n 0, 1) := by decide +kernel
theorem dX3_putOutRiders_41 : decode cX3_putOutRiders 41 = .ok (.getfield 70, 3) := by decide +kernel
theorem dX3_putOutRiders_44 : decode cX3_putOutRiders 44 = .ok (.invokevirtual 186, 3) := by decide +kernel
theorem dX3_putOutRiders_47 : decode cX3_putOutRiders 47 = .ok (.aload_n 0, 1) := by decide +kernel
theorem dX3_putOutRiders_48 : decode cX3_putOutRiders 48 = .ok (.dup, 1) := by decide +kernel
theorem dX3_putOutRiders_49 : decode cX3_putOutRiders 49 = .ok (.getfield 79, 3) := by decide +kernel
theorem dX3_putOutRiders_52 : decode cX3_putOutRiders 52 = .ok (.aload_n 3, 1) := by decide +kernel
theorem dX3_putOutRiders_53 : decode cX3_putOutRiders 53 = .ok (.getfield 163, 3) := by decide +kernel
theorem dX3_putOutRiders_56 : decode cX3_putOutRiders 56 = .ok (.iadd, 1) := by decide +kernel
theorem dX3_putOutRiders_57 : decode cX3_putOutRiders 57 = .ok (.putfield 79, 3) := by decide +kernel
theorem dX3_putOutRiders_60 : decode cX3_putOutRiders 60 = .ok (.aload_n 3, 1) := by decide +kernel
theorem dX3_putOutRiders_61 : decode cX3_putOutRiders 61 = .ok (.bipush 7, 2) := by decide +kernel
theorem dX3_putOutRiders_63 : decode cX3_putOutRiders 63 = .ok (.bipush (-5), 2) := by decide +kernel
theorem dX3_putOutRiders_65 : decode cX3_putOutRiders 65 = .ok (.aload_n 0, 1) := by decide +kernel
theorem dX3_putOutRiders_66 : decode cX3_putOutRiders 66 = .ok (.getfield 70, 3) := by decide +kernel
theorem dX3_putOutRiders_69 : decode cX3_putOutRiders 69 = .ok (.invokevirtual 171, 3) := by decide +kernel
theorem dX3_putOutRiders_72 : decode cX3_putOutRiders 72 = .ok (.aload_n 1, 1) := by decide +kernel
theorem dX3_putOutRiders_73 : decode cX3_putOutRiders 73 = .ok (.iload_n 2, 1) := by decide +kernel
theorem dX3_putOutRiders_74 : decode cX3_putOutRiders 74 = .ok (.bipush (-5), 2) := by decide +kernel
theorem dX3_putOutRiders_76 : decode cX3_putOutRiders 76 = .ok (.invokevirtual 167, 3) := by decide +kernel
theorem dX3_putOutRiders_79 : decode cX3_putOutRiders 79 = .ok (.iinc 2 1, 3) := by decide +kernel
theorem dX3_putOutRiders_82 : decode cX3_putOutRiders 82 = .ok (.goto (-80), 3) := by decide +kernel
theorem dX3_putOutRiders_85 : decode cX3_putOutRiders 85 = .ok (.return_, 1) := by decide +kernel
set_option maxRecDepth 20000 in
theorem ggX3_passTick_X3_followOrders : GoodIn wsX3_passTick wsX3_followOrders := goodIn_r _ [8, 9, 10, 3, 11, 12, 13, 14, 15, 16, 17, 18, 19, 20, 21, 7, 22, 23, 24, 25, 26, 27, 28, 29, 30, 31, 32, 33, 34, 35, 36, 37, 38, 39, 40, 41, 42, 43, 44, 45, 46, 47, 48, 49, 50, 51, 52, 53, 54, 55, 56, 57, 58, 59, 60, 61, 62, 63, 64, 65, 66, 67, 68, 69, 70, 71, 72, 73, 74, 75, 238, 239, 240, 241, 242, 243, 244, 245, 246, 247, 248, 249, 250, 251, 252, 253, 254, 255, 256, 257, 258, 259, 260, 261, 262, 263, 264, 265, 266, 267, 268, 269, 270, 271, 272, 273, 274, 275, 276] (by decide +kernel) (by decide +kernel)
set_option maxRecDepth 20000 in
theorem gX3_passTick_X3_followOrders : GoodIn wsX3_passTick (wsV RX3 190 RX3 yX3_followOrders wsX3_followOrders) := goodIn_app (goodIn_of _ (by decide +kernel)) ggX3_passTick_X3_followOrders
set_option maxRecDepth 20000 in
theorem ggX3_passTick_X3_serveLine : GoodIn wsX3_passTick wsX3_serveLine := goodIn_r _ [79, 80, 81, 82, 83, 84, 7, 85, 86, 87, 88, 89, 90, 91, 92, 93, 94, 95, 96, 97, 98, 99, 100, 101, 102, 103, 104, 105, 39, 40, 41, 106, 107, 108, 109, 30, 35, 110, 111, 112, 113, 114, 115, 116, 117, 118, 119, 120, 3, 121, 122, 123, 124, 125, 126, 127, 128, 129, 130, 131, 132, 133, 134, 135, 136, 137, 138, 139, 140, 141, 50, 142, 56, 57, 58, 61, 62, 143, 144, 145, 146, 147, 148, 149, 150, 151, 152, 153, 154, 155, 156, 157, 158, 159, 160, 161, 162, 163, 164, 165, 166, 167, 168, 169, 170, 69, 171, 74, 172, 173, 174, 175, 1, 2, 176, 177, 178, 179, 180, 181, 182, 183, 184, 185, 186, 64, 187, 188, 189, 190, 191, 192, 193, 194, 195, 196, 197, 198, 199, 200, 201, 202, 203, 36, 204, 205, 206, 207, 52, 208, 209, 210, 211, 212, 213, 214, 215, 216, 217, 218, 219, 220, 221, 222, 223, 224, 225, 65, 60, 277, 278, 279, 280, 281, 282, 283, 284, 285, 286, 287, 288, 289, 290, 291, 292, 293, 294, 295, 296, 263, 264, 265, 266, 267, 268, 269, 270, 271, 272, 273, 274, 275, 276, 238, 239, 240, 241, 242, 243, 244, 245, 246, 247, 248, 249, 250, 251, 258, 259, 260, 261, 262, 297, 298, 299] (by decide +kernel) (by decide +kernel)
set_option maxRecDepth 20000 in
theorem gX3_passTick_X3_serveLine : GoodIn wsX3_passTick (wsV RX3 193 RX3 yX3_serveLine wsX3_serveLine) := goodIn_app (goodIn_of _ (by decide +kernel)) ggX3_passTick_X3_serveLine
set_option maxRecDepth 20000 in
theorem ggX3_passTick_X3_moveLine : GoodIn wsX3_passTick wsX3_moveLine := goodIn_r _ [229, 119, 182, 3, 230, 231, 232, 93, 233, 234, 235, 236, 237, 95, 96, 97, 98, 99, 100, 131, 132, 133, 134, 135, 136, 137, 138, 238, 239, 240, 241, 242, 243, 244, 245, 246, 247, 248, 249, 250, 251, 277, 278, 279, 280, 281, 282, 283, 284, 285, 286, 297, 298, 299] (by decide +kernel) (by decide +kernel)
set_option maxRecDepth 20000 in
theorem gX3_passTick_X3_moveLine : GoodIn wsX3_passTick (wsV RX3 196 RX3 yX3_moveLine wsX3_moveLine) := goodIn_app (goodIn_of _ (by decide +kernel)) ggX3_passTick_X3_moveLine
theorem dX3_passTick_0 : decode cX3_passTick 0 = .ok (.aload_n 0, 1) := by decide +kernel
theorem dX3_passTick_1 : decode cX3_passTick 1 = .ok (.invokevirtual 190, 3) := by decide +kernel
theorem dX3_passTick_4 : decode cX3_passTick 4 = .ok (.aload_n 0, 1) := by decide +kernel
theorem dX3_passTick_5 : decode cX3_passTick 5 = .ok (.aload_n 0, 1) := by decide +kernel
theorem dX3_passTick_6 : decode cX3_passTick 6 = .ok (.getfield 14, 3) := by decide +kernel
theorem dX3_passTick_9 : decode cX3_passTick 9 = .ok (.invokevirtual 193, 3) := by decide +kernel
theorem dX3_passTick_12 : decode cX3_passTick 12 = .ok (.aload_n 0, 1) := by decide +kernel
theorem dX3_passTick_13 : decode cX3_passTick 13 = .ok (.aload_n 0, 1) := by decide +kernel
theorem dX3_passTick_14 : decode cX3_passTick 14 = .ok (.getfield 20, 3) := by decide +kernel
theorem dX3_passTick_17 : decode cX3_passTick 17 = .ok (.invokevirtual 193, 3) := by decide +kernel
theorem dX3_passTick_20 : decode cX3_passTick 20 = .ok (.aload_n 0, 1) := by decide +kernel
theorem dX3_passTick_21 : decode cX3_passTick 21 = .ok (.aload_n 0, 1) := by decide +kernel
theorem dX3_passTick_22 : decode cX3_passTick 22 = .ok (.getfield 14, 3) := by decide +kernel
theorem dX3_passTick_25 : decode cX3_passTick 25 = .ok (.invokevirtual 196, 3) := by decide +kernel
theorem dX3_passTick_28 : decode cX3_passTick 28 = .ok (.aload_n 0, 1) := by decide +kernel
theorem dX3_passTick_29 : decode cX3_passTick 29 = .ok (.aload_n 0, 1) := by decide +kernel
theorem dX3_passTick_30 : decode cX3_passTick 30 = .ok (.getfield 20, 3) := by decide +kernel
theorem dX3_passTick_33 : decode cX3_passTick 33 = .ok (.invokevirtual 196, 3) := by decide +kernel
theorem dX3_passTick_36 : decode cX3_passTick 36 = .ok (.aload_n 0, 1) := by decide +kernel
theorem dX3_passTick_37 : decode cX3_passTick 37 = .ok (.dup, 1) := by decide +kernel
theorem dX3_passTick_38 : decode cX3_passTick 38 = .ok (.getfield 70, 3) := by decide +kernel
theorem dX3_passTick_41 : decode cX3_passTick 41 = .ok (.iconst 1, 1) := by decide +kernel
theorem dX3_passTick_42 : decode cX3_passTick 42 = .ok (.iadd, 1) := by decide +kernel
theorem dX3_passTick_43 : decode cX3_passTick 43 = .ok (.putfield 70, 3) := by decide +kernel
theorem dX3_passTick_46 : decode cX3_passTick 46 = .ok (.return_, 1) := by decide +kernel
set_option maxRecDepth 20000 in
theorem ggX3_followOrders_X2_isDue : GoodIn wsX3_followOrders wsX2_isDue := goodIn_r _ [8, 9, 10, 11, 84, 85, 86, 87, 88, 89] (by decide +kernel) (by decide +kernel)
set_option maxRecDepth 20000 in
theorem gX3_followOrders_X2_isDue : GoodIn wsX3_followOrders (wsV RX3 199 RX2 yX2_isDue wsX2_isDue) := goodIn_app (goodIn_of _ (by decide +kernel)) ggX3_followOrders_X2_isDue
set_option maxRecDepth 20000 in
theorem ggX3_followOrders_X3_followOrder : GoodIn wsX3_followOrders wsX3_followOrder := goodIn_r _ [16, 17, 18, 19, 20, 21, 22, 15, 23, 24, 25, 26, 27, 28, 29, 30, 31, 3, 32, 33, 34, 35, 36, 37, 38, 39, 40, 41, 42, 43, 44, 45, 46, 47, 48, 49, 50, 51, 52, 53, 54, 55, 56, 57, 58, 59, 60, 61, 62, 63, 64, 65, 66, 67, 68, 69, 84, 85, 86, 87, 88, 89, 70, 71, 72, 73, 74, 75, 76, 77, 78, 79, 80, 81, 82, 83, 90, 91, 92, 93, 94, 95, 96, 97, 98, 99, 100, 101, 102, 103, 104, 105, 106, 107, 108] (by decide +kernel) (by decide +kernel)
set_option maxRecDepth 20000 in
theorem gX3_followOrders_X3_followOrder : GoodIn wsX3_followOrders (wsV RX3 203 RX3 yX3_followOrder wsX3_followOrder) := goodIn_app (goodIn_of _ (by decide +kernel)) ggX3_followOrders_X3_followOrder
theorem dX3_followOrders_0 : decode cX3_followOrders 0 = .ok (.iconst 0, 1) := by decide +kernel
theorem dX3_followOrders_1 : decode cX3_followOrders 1 = .ok (.istore_n 1, 1) := by decide +kernel
theorem dX3_followOrders_2 : decode cX3_followOrders 2 = .ok (.iload_n 1, 1) := by decide +kernel
theorem dX3_followOrders_3 : decode cX3_followOrders 3 = .ok (.aload_n 0, 1) := by decide +kernel
theorem dX3_followOrders_4 : decode cX3_followOrders 4 = .ok (.getfield 67, 3) := by decide +kernel
theorem dX3_followOrders_7 : decode cX3_followOrders 7 = .ok (.if_icmp .ge 41, 3) := by decide +kernel
theorem dX3_followOrders_10 : decode cX3_followOrders 10 = .ok (.iload_n 1, 1) := by decide +kernel
theorem dX3_followOrders_11 : decode cX3_followOrders 11 = .ok (.aload_n 0, 1) := by decide +kernel
theorem dX3_followOrders_12 : decode cX3_followOrders 12 = .ok (.getfield 31, 3) := by decide +kernel
theorem dX3_followOrders_15 : decode cX3_followOrders 15 = .ok (.arraylength, 1) := by decide +kernel
theorem dX3_followOrders_16 : decode cX3_followOrders 16 = .ok (.if_icmp .ge 32, 3) := by decide +kernel
theorem dX3_followOrders_19 : decode cX3_followOrders 19 = .ok (.aload_n 0, 1) := by decide +kernel
theorem dX3_followOrders_20 : decode cX3_followOrders 20 = .ok (.getfield 31, 3) := by decide +kernel
theorem dX3_followOrders_23 : decode cX3_followOrders 23 = .ok (.iload_n 1, 1) := by decide +kernel
theorem dX3_followOrders_24 : decode cX3_followOrders 24 = .ok (.aaload, 1) := by decide +kernel
theorem dX3_followOrders_25 : decode cX3_followOrders 25 = .ok (.astore_n 2, 1) := by decide +kernel
theorem dX3_followOrders_26 : decode cX3_followOrders 26 = .ok (.aload_n 2, 1) := by decide +kernel
theorem dX3_followOrders_27 : decode cX3_followOrders 27 = .ok (.aload_n 0, 1) := by decide +kernel
theorem dX3_followOrders_28 : decode cX3_followOrders 28 = .ok (.getfield 70, 3) := by decide +kernel
theorem dX3_followOrders_31 : decode cX3_followOrders 31 = .ok (.invokevirtual 199, 3) := by decide +kernel
theorem dX3_followOrders_34 : decode cX3_followOrders 34 = .ok (.ifCond .eq 8, 3) := by decide +kernel
theorem dX3_followOrders_37 : decode cX3_followOrders 37 = .ok (.aload_n 0, 1) := by decide +kernel
theorem dX3_followOrders_38 : decode cX3_followOrders 38 = .ok (.aload_n 2, 1) := by decide +kernel
theorem dX3_followOrders_39 : decode cX3_followOrders 39 = .ok (.invokevirtual 203, 3) := by decide +kernel
theorem dX3_followOrders_42 : decode cX3_followOrders 42 = .ok (.iinc 1 1, 3) := by decide +kernel
theorem dX3_followOrders_45 : decode cX3_followOrders 45 = .ok (.goto (-43), 3) := by decide +kernel
theorem dX3_followOrders_48 : decode cX3_followOrders 48 = .ok (.return_, 1) := by decide +kernel
set_option maxRecDepth 20000 in
theorem ggX3_followOrder_X3_hasTickets : GoodIn wsX3_followOrder wsX3_hasTickets := goodIn_r _ [8, 9, 62, 63, 64, 65, 66, 67, 68, 69, 70, 71, 72, 73, 74, 75] (by decide +kernel) (by decide +kernel)
set_option maxRecDepth 20000 in
theorem gX3_followOrder_X3_hasTickets : GoodIn wsX3_followOrder (wsV RX3 206 RX3 yX3_hasTickets wsX3_hasTickets) := goodIn_app (goodIn_of _ (by decide +kernel)) ggX3_followOrder_X3_hasTickets
set_option maxRecDepth 20000 in
theorem ggX3_followOrder_X3_admit : GoodIn wsX3_followOrder wsX3_admit := goodIn_r _ [13, 9, 14, 15, 16, 17, 18, 19, 20, 21, 22, 23, 24, 7, 25, 26, 27, 28, 29, 30, 31, 32, 33, 34, 35, 36, 37, 38, 39, 40, 41, 42, 43, 44, 45, 46, 47, 48, 49, 50, 51, 52, 53, 54, 55, 62, 63, 64, 65, 66, 67, 68, 69, 70, 71, 72, 73, 74, 75, 76, 77, 78, 79, 80, 81, 82, 83, 84, 85, 86, 87, 88, 89, 90, 91, 92, 93, 94] (by decide +kernel) (by decide +kernel)
set_option maxRecDepth 20000 in
theorem gX3_followOrder_X3_admit : GoodIn wsX3_followOrder (wsV RX3 210 RX3 yX3_admit wsX3_admit) := goodIn_app (goodIn_of _ (by decide +kernel)) ggX3_followOrder_X3_admit
theorem dX3_followOrder_0 : decode cX3_followOrder 0 = .ok (.aload_n 0, 1) := by decide +kernel
theorem dX3_followOrder_1 : decode cX3_followOrder 1 = .ok (.iconst 1, 1) := by decide +kernel
theorem dX3_followOrder_2 : decode cX3_followOrder 2 = .ok (.invokevirtual 206, 3) := by decide +kernel
theorem dX3_followOrder_5 : decode cX3_followOrder 5 = .ok (.ifCond .eq 25, 3) := by decide +kernel
theorem dX3_followOrder_8 : decode cX3_followOrder 8 = .ok (.aload_n 0, 1) := by decide +kernel
theorem dX3_followOrder_9 : decode cX3_followOrder 9 = .ok (.aload_n 1, 1) := by decide +kernel
theorem dX3_followOrder_10 : decode cX3_followOrder 10 = .ok (.getfield 209, 3) := by decide +kernel
theorem dX3_followOrder_13 : decode cX3_followOrder 13 = .ok (.invokevirtual 210, 3) := by decide +kernel
theorem dX3_followOrder_16 : decode cX3_followOrder 16 = .ok (.pop, 1) := by decide +kernel
theorem dX3_followOrder_17 : decode cX3_followOrder 17 = .ok (.aload_n 1, 1) := by decide +kernel
theorem dX3_followOrder_18 : decode cX3_followOrder 18 = .ok (.dup, 1) := by decide +kernel
theorem dX3_followOrder_19 : decode cX3_followOrder 19 = .ok (.getfield 214, 3) := by decide +kernel
theorem dX3_followOrder_22 : decode cX3_followOrder 22 = .ok (.iconst 1, 1) := by decide +kernel
theorem dX3_followOrder_23 : decode cX3_followOrder 23 = .ok (.iadd, 1) := by decide +kernel
theorem dX3_followOrder_24 : decode cX3_followOrder 24 = .ok (.putfield 214, 3) := by decide +kernel
theorem dX3_followOrder_27 : decode cX3_followOrder 27 = .ok (.goto 13, 3) := by decide +kernel
theorem dX3_followOrder_30 : decode cX3_followOrder 30 = .ok (.aload_n 1, 1) := by decide +kernel
theorem dX3_followOrder_31 : decode cX3_followOrder 31 = .ok (.dup, 1) := by decide +kernel
theorem dX3_followOrder_32 : decode cX3_followOrder 32 = .ok (.getfield 217, 3) := by decide +kernel
theorem dX3_followOrder_35 : decode cX3_followOrder 35 = .ok (.iconst 1, 1) := by decide +kernel
theorem dX3_followOrder_36 : decode cX3_followOrder 36 = .ok (.iadd, 1) := by decide +kernel
theorem dX3_followOrder_37 : decode cX3_followOrder 37 = .ok (.putfield 217, 3) := by decide +kernel
theorem dX3_followOrder_40 : decode cX3_followOrder 40 = .ok (.return_, 1) := by decide +kernel
set_option maxRecDepth 20000 in
theorem ggX3_serveLine_X3_serveStation : GoodIn wsX3_serveLine wsX3_serveStation := goodIn_r _ [7, 8, 9, 10, 11, 12, 13, 14, 15, 16, 17, 18, 19, 20, 21, 22, 23, 24, 25, 26, 27, 28, 29, 30, 31, 32, 33, 6, 34, 35, 36, 37, 38, 39, 40, 41, 42, 43, 44, 45, 46, 47, 48, 49, 50, 51, 52, 53, 54, 55, 56, 57, 58, 59, 60, 61, 62, 63, 64, 65, 66, 67, 68, 69, 70, 71, 72, 73, 74, 75, 76, 77, 78, 79, 80, 81, 82, 83, 84, 85, 86, 87, 88, 89, 90, 91, 92, 93, 94, 95, 96, 97, 98, 99, 100, 101, 102, 103, 104, 105, 106, 107, 108, 109, 110, 111, 112, 113, 114, 115, 116, 117, 118, 119, 120, 121, 122, 123, 124, 125, 126, 127, 128, 129, 130, 131, 132, 133, 134, 135, 136, 137, 138, 139, 140, 141, 142, 143, 144, 145, 146, 147, 148, 149, 150, 151, 152, 153, 154, 155, 156, 157, 158, 159, 160, 161, 162, 163, 164, 165, 166, 167, 168, 179, 180, 181, 182, 183, 184, 185, 186, 187, 188, 189, 190, 191, 192, 193, 194, 195, 196, 197, 198, 199, 200, 201, 202, 169, 170, 171, 172, 173, 174, 175, 176, 177, 178, 203, 204, 205, 206, 207, 208, 209, 210, 211, 212, 213, 214, 215, 216, 217, 218, 219, 220, 221, 222, 223, 224] (by decide +kernel) (by decide +kernel)
set_option maxRecDepth 20000 in
theorem gX3_serveLine_X3_serveStation : GoodIn wsX3_serveLine (wsV RX3 227 RX3 yX3_serveStation wsX3_serveStation) := goodIn_app (goodIn_of _ (by decide +kernel)) ggX3_serveLine_X3_serveStation
theorem dX3_serveLine_0 : decode cX3_serveLine 0 = .ok (.iconst 0, 1) := by decide +kernel
theorem dX3_serveLine_1 : decode cX3_serveLine 1 = .ok (.istore_n 2, 1) := by decide +kernel
theorem dX3_serveLine_2 : decode cX3_serveLine 2 = .ok (.iload_n 2, 1) := by decide +kernel
theorem dX3_serveLine_3 : decode cX3_serveLine 3 = .ok (.aload_n 1, 1) := by decide +kernel
theorem dX3_serveLine_4 : decode cX3_serveLine 4 = .ok (.getfield 220, 3) := by decide +kernel
theorem dX3_serveLine_7 : decode cX3_serveLine 7 = .ok (.if_icmp .ge 29, 3) := by decide +kernel
theorem dX3_serveLine_10 : decode cX3_serveLine 10 = .ok (.iload_n 2, 1) := by decide +kernel
theorem dX3_serveLine_11 : decode cX3_serveLine 11 = .ok (.aload_n 1, 1) := by decide +kernel
theorem dX3_serveLine_12 : decode cX3_serveLine 12 = .ok (.getfield 223, 3) := by decide +kernel
theorem dX3_serveLine_15 : decode cX3_serveLine 15 = .ok (.arraylength, 1) := by decide +kernel
theorem dX3_serveLine_16 : decode cX3_serveLine 16 = .ok (.if_icmp .ge 20, 3) := by decide +kernel
theorem dX3_serveLine_19 : decode cX3_serveLine 19 = .ok (.aload_n 0, 1) := by decide +kernel
theorem dX3_serveLine_20 : decode cX3_serveLine 20 = .ok (.aload_n 1, 1) := by decide +kernel
theorem dX3_serveLine_21 : decode cX3_serveLine 21 = .ok (.aload_n 1, 1) := by decide +kernel
theorem dX3_serveLine_22 : decode cX3_serveLine 22 = .ok (.getfield 223, 3) := by decide +kernel
theorem dX3_serveLine_25 : decode cX3_serveLine 25 = .ok (.iload_n 2, 1) := by decide +kernel
theorem dX3_serveLine_26 : decode cX3_serveLine 26 = .ok (.aaload, 1) := by decide +kernel
theorem dX3_serveLine_27 : decode cX3_serveLine 27 = .ok (.invokevirtual 227, 3) := by decide +kernel
theorem dX3_serveLine_30 : decode cX3_serveLine 30 = .ok (.iinc 2 1, 3) := by decide +kernel
theorem dX3_serveLine_33 : decode cX3_serveLine 33 = .ok (.goto (-31), 3) := by decide +kernel
theorem dX3_serveLine_36 : decode cX3_serveLine 36 = .ok (.return_, 1) := by decide +kernel
set_option maxRecDepth 20000 in
theorem ggX3_serveStation_X0_slotAt : GoodIn wsX3_serveStation wsX0_slotAt := goodIn_r _ [9, 10, 11, 12, 13, 8, 14, 15, 187, 188, 189, 190, 191, 192, 193, 194, 195, 196] (by decide +kernel) (by decide +kernel)
set_option maxRecDepth 20000 in
theorem gX3_serveStation_X0_slotAt : GoodIn wsX3_serveStation (wsV RX3 234 RX0 yX0_slotAt wsX0_slotAt) := goodIn_app (goodIn_of _ (by decide +kernel)) ggX3_serveStation_X0_slotAt
set_option maxRecDepth 20000 in
theorem ggX3_serveStation_X0_riderIn : GoodIn wsX3_serveStation wsX0_riderIn := goodIn_r _ [19, 20, 21, 22, 23, 187, 188, 189, 190, 191, 192, 193, 194, 195, 196] (by decide +kernel) (by decide +kernel)
set_option maxRecDepth 20000 in
theorem gX3_serveStation_X0_riderIn : GoodIn wsX3_serveStation (wsV RX3 178 RX0 yX0_riderIn wsX0_riderIn) := goodIn_app (goodIn_of _ (by decide +kernel)) ggX3_serveStation_X0_riderIn
set_option maxRecDepth 20000 in
theorem ggX3_serveStation_X3_ticketOf : GoodIn wsX3_serveStation wsX3_ticketOf := goodIn_r _ [28, 29, 30, 21, 22, 23, 197, 198, 199, 200, 201, 202, 203, 204, 205, 206, 207, 208, 209, 210] (by decide +kernel) (by decide +kernel)
set_option maxRecDepth 20000 in
theorem gX3_serveStation_X3_ticketOf : GoodIn wsX3_serveStation (wsV RX3 182 RX3 yX3_ticketOf wsX3_ticketOf) := goodIn_app (goodIn_of _ (by decide +kernel)) ggX3_serveStation_X3_ticketOf
set_option maxRecDepth 20000 in
theorem ggX3_serveStation_X3_getsOff : GoodIn wsX3_serveStation wsX3_getsOff := goodIn_r _ [34, 35, 36, 37, 38, 39, 40, 3, 41, 42, 43, 44, 45, 46, 47, 27, 48, 49, 50, 51, 52, 53, 54, 55, 56, 57, 58, 59, 60, 61, 62, 63, 64, 65, 66, 67, 68, 69, 70, 71, 72, 73, 74, 75, 76, 77, 78, 79, 80, 81, 82, 83, 84, 85, 86, 87, 88, 89, 90, 91, 92, 93, 94, 95, 96, 97, 98, 99, 100, 101, 102, 103, 104, 105, 106, 107, 108, 109, 110, 111, 29, 30, 112, 113, 114, 115, 116, 117, 118, 119, 173, 174, 175, 176, 177, 178, 179, 180, 181, 182, 183, 184, 185, 186, 211, 212, 213, 214, 215, 163, 164, 165, 166, 167, 168, 169, 170, 171, 172, 197, 198, 199, 200, 201, 202, 203, 204, 205, 206, 207, 208, 209, 210, 216, 217, 218, 187, 188, 189, 190, 191, 192, 193, 194, 195, 196] (by decide +kernel) (by decide +kernel)
set_option maxRecDepth 20000 in
theorem gX3_serveStation_X3_getsOff : GoodIn wsX3_serveStation (wsV RX3 237 RX3 yX3_getsOff wsX3_getsOff) := goodIn_app (goodIn_of _ (by decide +kernel)) ggX3_serveStation_X3_getsOff
set_option maxRecDepth 20000 in
theorem ggX3_serveStation_X0_setRider : GoodIn wsX3_serveStation wsX0_setRider := goodIn_r _ [123, 20, 21, 22, 23, 187, 188, 189, 190, 191, 192, 193, 194, 195, 196] (by decide +kernel) (by decide +kernel)
set_option maxRecDepth 20000 in
theorem gX3_serveStation_X0_setRider : GoodIn wsX3_serveStation (wsV RX3 167 RX0 yX0_setRider wsX0_setRider) := goodIn_app (goodIn_of _ (by decide +kernel)) ggX3_serveStation_X0_setRider
set_option maxRecDepth 20000 in
theorem ggX3_serveStation_X3_nextToBoard : GoodIn wsX3_serveStation wsX3_nextToBoard := goodIn_r _ [127, 95, 41, 37, 102, 103, 104, 27, 105, 106, 107, 128, 129, 130, 8, 131, 132, 133, 134, 135, 136, 29, 30, 35, 137, 138, 139, 140, 64, 141, 66, 142, 143, 67, 163, 164, 165, 166, 167, 168, 169, 170, 171, 172, 197, 198, 199, 200, 201, 202, 203, 204, 205, 206, 207, 208, 209, 210, 187, 188, 189, 190, 191, 192, 193, 194, 195, 196, 173, 174, 175, 176, 177, 178, 179, 180, 181, 182, 183, 184, 185, 186, 211, 212, 213, 214, 215] (by decide +kernel) (by decide +kernel)
set_option maxRecDepth 20000 in
theorem gX3_serveStation_X3_nextToBoard : GoodIn wsX3_serveStation (wsV RX3 241 RX3 yX3_nextToBoard wsX3_nextToBoard) := goodIn_app (goodIn_of _ (by decide +kernel)) ggX3_serveStation_X3_nextToBoard
set_option maxRecDepth 20000 in
theorem ggX3_serveStation_X3_shoves : GoodIn wsX3_serveStation wsX3_shoves := goodIn_r _ [147, 35, 137, 42, 148, 149, 173, 174, 175, 176, 177, 178, 179, 180, 181, 182, 183, 184, 185, 186, 211, 212, 213, 214, 215, 197, 198, 199, 200, 201, 202, 203, 204, 205, 206, 207, 208, 209, 210] (by decide +kernel) (by decide +kernel)
set_option maxRecDepth 20000 in
theorem gX3_serveStation_X3_shoves : GoodIn wsX3_serveStation (wsV RX3 245 RX3 yX3_shoves wsX3_shoves) := goodIn_app (goodIn_of _ (by decide +kernel)) ggX3_serveStation_X3_shoves
set_option maxRecDepth 20000 in
theorem ggX3_serveStation_X3_putOut : GoodIn wsX3_serveStation wsX3_putOut := goodIn_r _ [89, 40, 3, 41, 37, 42, 90, 52, 53, 54, 55, 56, 57, 58, 59, 60, 61, 62, 63, 64, 65, 66, 67, 68, 69, 70, 197, 198, 199, 200, 201, 202, 203, 204, 205, 206, 207, 208, 209, 210, 173, 174, 175, 176, 177, 178, 179, 180, 181, 182, 183, 184, 185, 186, 163, 164, 165, 166, 167, 168, 169, 170, 171, 172, 216, 217, 218] (by decide +kernel) (by decide +kernel)
set_option maxRecDepth 20000 in
theorem gX3_serveStation_X3_putOut : GoodIn wsX3_serveStation (wsV RX3 255 RX3 yX3_putOut wsX3_putOut) := goodIn_app (goodIn_of _ (by decide +kernel)) ggX3_serveStation_X3_putOut
set_option maxRecDepth 20000 in
theorem ggX3_serveStation_X3_board : GoodIn wsX3_serveStation wsX3_board := goodIn_r _ [153, 40, 3, 114, 37, 42, 154, 53, 54, 55, 56, 57, 58, 59, 60, 155, 156, 157, 64, 158, 66, 159, 67, 68, 160, 161, 162, 120, 121, 122, 8, 123, 20, 21, 22, 23, 197, 198, 199, 200, 201, 202, 203, 204, 205, 206, 207, 208, 209, 210, 173, 174, 175, 176, 177, 178, 179, 180, 181, 182, 183, 184, 185, 186, 187, 188, 189, 190, 191, 192, 193, 194, 195, 196, 163, 164, 165, 166, 167, 168, 169, 170, 171, 172, 216, 217, 218] (by decide +kernel) (by decide +kernel)
set_option maxRecDepth 20000 in
theorem gX3_serveStation_X3_board : GoodIn wsX3_serveStation (wsV RX3 259 RX3 yX3_board wsX3_board) := goodIn_app (goodIn_of _ (by decide +kernel)) ggX3_serveStation_X3_board
theorem dX3_serveStation_0 : decode cX3_serveStation 0 = .ok (.aload_n 1, 1) := by decide +kernel
theorem dX3_serveStation_1 : decode cX3_serveStation 1 = .ok (.aload_n 2, 1) := by decide +kernel
theorem dX3_serveStation_2 : decode cX3_serveStation 2 = .ok (.getfield 231, 3) := by decide +kernel
theorem dX3_serveStation_5 : decode cX3_serveStation 5 = .ok (.invokevirtual 234, 3) := by decide +kernel
theorem dX3_serveStation_8 : decode cX3_serveStation 8 = .ok (.istore_n 3, 1) := by decide +kernel
theorem dX3_serveStation_9 : decode cX3_serveStation 9 = .ok (.aload_n 0, 1) := by decide +kernel
theorem dX3_serveStation_10 : decode cX3_serveStation 10 = .ok (.aload_n 1, 1) := by decide +kernel
theorem dX3_serveStation_11 : decode cX3_serveStation 11 = .ok (.iload_n 3, 1) := by decide +kernel
theorem dX3_serveStation_12 : decode cX3_serveStation 12 = .ok (.invokevirtual 178, 3) := by decide +kernel
theorem dX3_serveStation_15 : decode cX3_serveStation 15 = .ok (.invokevirtual 182, 3) := by decide +kernel
theorem dX3_serveStation_18 : decode cX3_serveStation 18 = .ok (.astore 4, 2) := by decide +kernel
theorem dX3_serveStation_20 : decode cX3_serveStation 20 = .ok (.aload 4, 2) := by decide +kernel
theorem dX3_serveStation_22 : decode cX3_serveStation 22 = .ok (.ifnull 23, 3) := by decide +kernel
theorem dX3_serveStation_25 : decode cX3_serveStation 25 = .ok (.aload_n 0, 1) := by decide +kernel
theorem dX3_serveStation_26 : decode cX3_serveStation 26 = .ok (.aload 4, 2) := by decide +kernel
theorem dX3_serveStation_28 : decode cX3_serveStation 28 = .ok (.aload_n 2, 1) := by decide +kernel
theorem dX3_serveStation_29 : decode cX3_serveStation 29 = .ok (.invokevirtual 237, 3) := by decide +kernel
theorem dX3_serveStation_32 : decode cX3_serveStation 32 = .ok (.ifCond .eq 13, 3) := by decide +kernel
theorem dX3_serveStation_35 : decode cX3_serveStation 35 = .ok (.aload_n 1, 1) := by decide +kernel
theorem dX3_serveStation_36 : decode cX3_serveStation 36 = .ok (.iload_n 3, 1) := by decide +kernel
theorem dX3_serveStation_37 : decode cX3_serveStation 37 = .ok (.bipush (-5), 2) := by decide +kernel
theorem dX3_serveStation_39 : decode cX3_serveStation 39 = .ok (.invokevirtual 167, 3) := by decide +kernel
theorem dX3_serveStation_42 : decode cX3_serveStation 42 = .ok (.aconst_null, 1) := by decide +kernel
theorem dX3_serveStation_43 : decode cX3_serveStation 43 = .ok (.astore 4, 2) := by decide +kernel
theorem dX3_serveStation_45 : decode cX3_serveStation 45 = .ok (.aload_n 0, 1) := by decide +kernel
theorem dX3_serveStation_46 : decode cX3_serveStation 46 = .ok (.aload_n 2, 1) := by decide +kernel
theorem dX3_serveStation_47 : decode cX3_serveStation 47 = .ok (.invokevirtual 241, 3) := by decide +kernel
theorem dX3_serveStation_50 : decode cX3_serveStation 50 = .ok (.astore 5, 2) := by decide +kernel
theorem dX3_serveStation_52 : decode cX3_serveStation 52 = .ok (.aload 5, 2) := by decide +kernel
theorem dX3_serveStation_54 : decode cX3_serveStation 54 = .ok (.ifnull 19, 3) := by decide +kernel
theorem dX3_serveStation_57 : decode cX3_serveStation 57 = .ok (.aload 4, 2) := by decide +kernel
theorem dX3_serveStation_59 : decode cX3_serveStation 59 = .ok (.ifnull 15, 3) := by decide +kernel
theorem dX3_serveStation_62 : decode cX3_serveStation 62 = .ok (.aload_n 0, 1) := by decide +kernel
theorem dX3_serveStation_63 : decode cX3_serveStation 63 = .ok (.aload 5, 2) := by decide +kernel
theorem dX3_serveStation_65 : decode cX3_serveStation 65 = .ok (.aload 4, 2) := by decide +kernel
theorem dX3_serveStation_67 : decode cX3_serveStation 67 = .ok (.invokevirtual 245, 3) := by decide +kernel
theorem dX3_serveStation_70 : decode cX3_serveStation 70 = .ok (.ifCond .ne 4, 3) := by decide +kernel
theorem dX3_serveStation_73 : decode cX3_serveStation 73 = .ok (.return_, 1) := by decide +kernel
theorem dX3_serveStation_74 : decode cX3_serveStation 74 = .ok (.aload 4, 2) := by decide +kernel
theorem dX3_serveStation_76 : decode cX3_serveStation 76 = .ok (.ifnull 32, 3) := by decide +kernel
theorem dX3_serveStation_79 : decode cX3_serveStation 79 = .ok (.aload_n 2, 1) := by decide +kernel
theorem dX3_serveStation_80 : decode cX3_serveStation 80 = .ok (.dup, 1) := by decide +kernel
theorem dX3_serveStation_81 : decode cX3_serveStation 81 = .ok (.getfield 249, 3) := by decide +kernel
theorem dX3_serveStation_84 : decode cX3_serveStation 84 = .ok (.iconst 1, 1) := by decide +kernel
theorem dX3_serveStation_85 : decode cX3_serveStation 85 = .ok (.iadd, 1) := by decide +kernel
theorem dX3_serveStation_86 : decode cX3_serveStation 86 = .ok (.putfield 249, 3) := by decide +kernel
theorem dX3_serveStation_89 : decode cX3_serveStation 89 = .ok (.aload 4, 2) := by decide +kernel
theorem dX3_serveStation_91 : decode cX3_serveStation 91 = .ok (.aload 5, 2) := by decide +kernel
theorem dX3_serveStation_93 : decode cX3_serveStation 93 = .ok (.getfield 185, 3) := by decide +kernel
theorem dX3_serveStation_96 : decode cX3_serveStation 96 = .ok (.putfield 252, 3) := by decide +kernel
theorem dX3_serveStation_99 : decode cX3_serveStation 99 = .ok (.aload_n 0, 1) := by decide +kernel
theorem dX3_serveStation_100 : decode cX3_serveStation 100 = .ok (.aload 4, 2) := by decide +kernel
theorem dX3_serveStation_102 : decode cX3_serveStation 102 = .ok (.aload_n 2, 1) := by decide +kernel
theorem dX3_serveStation_103 : decode cX3_serveStation 103 = .ok (.iconst 5, 1) := by decide +kernel
theorem dX3_serveStation_104 : decode cX3_serveStation 104 = .ok (.iconst 5, 1) := by decide +kernel
theorem dX3_serveStation_105 : decode cX3_serveStation 105 = .ok (.invokevirtual 255, 3) := by decide +kernel
theorem dX3_serveStation_108 : decode cX3_serveStation 108 = .ok (.aload_n 0, 1) := by decide +kernel
theorem dX3_serveStation_109 : decode cX3_serveStation 109 = .ok (.aload 5, 2) := by decide +kernel
theorem dX3_serveStation_111 : decode cX3_serveStation 111 = .ok (.aload_n 1, 1) := by decide +kernel
theorem dX3_serveStation_112 : decode cX3_serveStation 112 = .ok (.aload_n 2, 1) := by decide +kernel
theorem dX3_serveStation_113 : decode cX3_serveStation 113 = .ok (.iload_n 3, 1) := by decide +kernel
theorem dX3_serveStation_114 : decode cX3_serveStation 114 = .ok (.invokevirtual 259, 3) := by decide +kernel
theorem dX3_serveStation_117 : decode cX3_serveStation 117 = .ok (.return_, 1) := by decide +kernel
set_option maxRecDepth 20000 in
theorem ggX3_getsOff_X3_arrive : GoodIn wsX3_getsOff wsX3_arrive := goodIn_r _ [16, 6, 7, 8, 3, 9, 17, 18, 1, 4, 19, 20, 21, 22, 23, 24, 25, 26, 27, 28, 29, 30, 31, 32, 33, 34, 35, 36, 37, 38, 119, 120, 121, 122, 123, 124, 125, 126, 127, 128, 129, 130, 131, 132, 90, 91, 92, 93, 94, 95, 96, 97, 98, 99, 100, 101, 102, 103, 109, 110, 111, 112, 113, 114, 115, 116, 117, 118, 104, 105, 106, 107, 108, 133, 134, 135] (by decide +kernel) (by decide +kernel)
set_option maxRecDepth 20000 in
theorem gX3_getsOff_X3_arrive : GoodIn wsX3_getsOff (wsV RX3 263 RX3 yX3_arrive wsX3_arrive) := goodIn_app (goodIn_of _ (by decide +kernel)) ggX3_getsOff_X3_arrive
set_option maxRecDepth 20000 in
theorem ggX3_getsOff_X4_takeCall : GoodIn wsX3_getsOff wsX4_takeCall := goodIn_r _ [43, 44, 45, 46, 47, 42, 48, 49, 50, 51, 52, 53, 109, 110, 111, 112, 113, 114, 115, 116, 117, 118] (by decide +kernel) (by decide +kernel)
set_option maxRecDepth 20000 in
theorem gX3_getsOff_X4_takeCall : GoodIn wsX3_getsOff (wsV RX3 270 RX4 yX4_takeCall wsX4_takeCall) := goodIn_app (goodIn_of _ (by decide +kernel)) ggX3_getsOff_X4_takeCall
set_option maxRecDepth 20000 in
theorem ggX3_getsOff_X3_putOut : GoodIn wsX3_getsOff wsX3_putOut := goodIn_r _ [57, 6, 7, 8, 3, 9, 58, 20, 21, 22, 23, 24, 25, 26, 27, 28, 29, 30, 31, 32, 33, 34, 35, 36, 37, 38, 119, 120, 121, 122, 123, 124, 125, 126, 127, 128, 129, 130, 131, 132, 90, 91, 92, 93, 94, 95, 96, 97, 98, 99, 100, 101, 102, 103, 109, 110, 111, 112, 113, 114, 115, 116, 117, 118, 133, 134, 135] (by decide +kernel) (by decide +kernel)
set_option maxRecDepth 20000 in
theorem gX3_getsOff_X3_putOut : GoodIn wsX3_getsOff (wsV RX3 255 RX3 yX3_putOut wsX3_putOut) := goodIn_app (goodIn_of _ (by decide +kernel)) ggX3_getsOff_X3_putOut
set_option maxRecDepth 20000 in
theorem ggX3_getsOff_X3_changesLines : GoodIn wsX3_getsOff wsX3_changesLines := goodIn_r _ [62, 1, 63, 8, 64, 65, 66, 67, 68, 69, 70, 71, 72, 15, 73, 74, 75, 76, 77, 78, 79, 80, 81, 82, 83, 84, 90, 91, 92, 93, 94, 95, 96, 97, 98, 99, 100, 101, 102, 103, 109, 110, 111, 112, 113, 114, 115, 116, 117, 118, 104, 105, 106, 107, 108, 119, 120, 121, 122, 123, 124, 125, 126, 127, 128, 129, 130, 131, 132, 136, 137, 138, 139, 140, 141, 142, 143, 144, 145] (by decide +kernel) (by decide +kernel)
set_option maxRecDepth 20000 in
theorem gX3_getsOff_X3_changesLines : GoodIn wsX3_getsOff (wsV RX3 276 RX3 yX3_changesLines wsX3_changesLines) := goodIn_app (goodIn_of _ (by decide +kernel)) ggX3_getsOff_X3_changesLines
set_option maxRecDepth 20000 in
theorem ggX3_getsOff_X1_write : GoodIn wsX3_getsOff wsX1_write := goodIn_r _ [25, 26, 27, 28, 133, 134, 135] (by decide +kernel) (by decide +kernel)
set_option maxRecDepth 20000 in
theorem gX3_getsOff_X1_write : GoodIn wsX3_getsOff (wsV RX3 186 RX1 yX1_write wsX1_write) := goodIn_app (goodIn_of _ (by decide +kernel)) ggX3_getsOff_X1_write
set_option maxRecDepth 20000 in
theorem ggX3_getsOff_X7_lineTo : GoodIn wsX3_getsOff wsX7_lineTo := goodIn_r _ [68, 69, 104, 105, 106, 107, 108] (by decide +kernel) (by decide +kernel)
set_option maxRecDepth 20000 in
theorem gX3_getsOff_X7_lineTo : GoodIn wsX3_getsOff (wsV RX3 279 RX7 yX7_lineTo wsX7_lineTo) := goodIn_app (goodIn_of _ (by decide +kernel)) ggX3_getsOff_X7_lineTo
set_option maxRecDepth 20000 in
theorem ggX3_getsOff_X5_enterHall : GoodIn wsX3_getsOff wsX5_enterHall := goodIn_r _ [88, 34, 35, 36, 89, 90, 91, 92, 93, 94, 95, 96, 97, 98, 99, 100, 101, 102, 103] (by decide +kernel) (by decide +kernel)
set_option maxRecDepth 20000 in
theorem gX3_getsOff_X5_enterHall : GoodIn wsX3_getsOff (wsV RX3 282 RX5 yX5_enterHall wsX5_enterHall) := goodIn_app (goodIn_of _ (by decide +kernel)) ggX3_getsOff_X5_enterHall
theorem dX3_getsOff_0 : decode cX3_getsOff 0 = .ok (.aload_n 1, 1) := by decide +kernel
theorem dX3_getsOff_1 : decode cX3_getsOff 1 = .ok (.getfield 125, 3) := by decide +kernel
theorem dX3_getsOff_4 : decode cX3_getsOff 4 = .ok (.getfield 105, 3) := by decide +kernel
theorem dX3_getsOff_7 : decode cX3_getsOff 7 = .ok (.aload_n 2, 1) := by decide +kernel
theorem dX3_getsOff_8 : decode cX3_getsOff 8 = .ok (.getfield 146, 3) := by decide +kernel
theorem dX3_getsOff_11 : decode cX3_getsOff 11 = .ok (.if_icmp .ne 11, 3) := by decide +kernel
theorem dX3_getsOff_14 : decode cX3_getsOff 14 = .ok (.aload_n 0, 1) := by decide +kernel
theorem dX3_getsOff_15 : decode cX3_getsOff 15 = .ok (.aload_n 1, 1) := by decide +kernel
theorem dX3_getsOff_16 : decode cX3_getsOff 16 = .ok (.aload_n 2, 1) := by decide +kernel
theorem dX3_getsOff_17 : decode cX3_getsOff 17 = .ok (.invokevirtual 263, 3) := by decide +kernel
theorem dX3_getsOff_20 : decode cX3_getsOff 20 = .ok (.iconst 1, 1) := by decide +kernel
theorem dX3_getsOff_21 : decode cX3_getsOff 21 = .ok (.ireturn, 1) := by decide +kernel
theorem dX3_getsOff_22 : decode cX3_getsOff 22 = .ok (.aload_n 2, 1) := by decide +kernel
theorem dX3_getsOff_23 : decode cX3_getsOff 23 = .ok (.aload_n 1, 1) := by decide +kernel
theorem dX3_getsOff_24 : decode cX3_getsOff 24 = .ok (.getfield 125, 3) := by decide +kernel
theorem dX3_getsOff_27 : decode cX3_getsOff 27 = .ok (.getfield 267, 3) := by decide +kernel
theorem dX3_getsOff_30 : decode cX3_getsOff 30 = .ok (.invokevirtual 270, 3) := by decide +kernel
theorem dX3_getsOff_33 : decode cX3_getsOff 33 = .ok (.ifCond .eq 23, 3) := by decide +kernel
theorem dX3_getsOff_36 : decode cX3_getsOff 36 = .ok (.aload_n 2, 1) := by decide +kernel
theorem dX3_getsOff_37 : decode cX3_getsOff 37 = .ok (.dup, 1) := by decide +kernel
theorem dX3_getsOff_38 : decode cX3_getsOff 38 = .ok (.getfield 273, 3) := by decide +kernel
theorem dX3_getsOff_41 : decode cX3_getsOff 41 = .ok (.iconst 1, 1) := by decide +kernel
theorem dX3_getsOff_42 : decode cX3_getsOff 42 = .ok (.iadd, 1) := by decide +kernel
theorem dX3_getsOff_43 : decode cX3_getsOff 43 = .ok (.putfield 273, 3) := by decide +kernel
theorem dX3_getsOff_46 : decode cX3_getsOff 46 = .ok (.aload_n 0, 1) := by decide +kernel
theorem dX3_getsOff_47 : decode cX3_getsOff 47 = .ok (.aload_n 1, 1) := by decide +kernel
theorem dX3_getsOff_48 : decode cX3_getsOff 48 = .ok (.aload_n 2, 1) := by decide +kernel
theorem dX3_getsOff_49 : decode cX3_getsOff 49 = .ok (.iconst 4, 1) := by decide +kernel
theorem dX3_getsOff_50 : decode cX3_getsOff 50 = .ok (.iconst 2, 1) := by decide +kernel
theorem dX3_getsOff_51 : decode cX3_getsOff 51 = .ok (.invokevirtual 255, 3) := by decide +kernel
theorem dX3_getsOff_54 : decode cX3_getsOff 54 = .ok (.iconst 1, 1) := by decide +kernel
theorem dX3_getsOff_55 : decode cX3_getsOff 55 = .ok (.ireturn, 1) := by decide +kernel
theorem dX3_getsOff_56 : decode cX3_getsOff 56 = .ok (.aload_n 0, 1) := by decide +kernel
theorem dX3_getsOff_57 : decode cX3_getsOff 57 = .ok (.aload_n 1, 1) := by decide +kernel
theorem dX3_getsOff_58 : decode cX3_getsOff 58 = .ok (.aload_n 2, 1) := by decide +kernel
theorem dX3_getsOff_59 : decode cX3_getsOff 59 = .ok (.invokevirtual 276, 3) := by decide +kernel
theorem dX3_getsOff_62 : decode cX3_getsOff 62 = .ok (.ifCond .eq 44, 3) := by decide +kernel
theorem dX3_getsOff_65 : decode cX3_getsOff 65 = .ok (.aload_n 0, 1) := by decide +kernel
theorem dX3_getsOff_66 : decode cX3_getsOff 66 = .ok (.getfield 38, 3) := by decide +kernel
theorem dX3_getsOff_69 : decode cX3_getsOff 69 = .ok (.iconst 3, 1) := by decide +kernel
theorem dX3_getsOff_70 : decode cX3_getsOff 70 = .ok (.aload_n 1, 1) := by decide +kernel
theorem dX3_getsOff_71 : decode cX3_getsOff 71 = .ok (.getfield 185, 3) := by decide +kernel
theorem dX3_getsOff_74 : decode cX3_getsOff 74 = .ok (.aload_n 2, 1) := by decide +kernel
theorem dX3_getsOff_75 : decode cX3_getsOff 75 = .ok (.getfield 138, 3) := by decide +kernel
theorem dX3_getsOff_78 : decode cX3_getsOff 78 = .ok (.aload_n 2, 1) := by decide +kernel
theorem dX3_getsOff_79 : decode cX3_getsOff 79 = .ok (.getfield 146, 3) := by decide +kernel
theorem dX3_getsOff_82 : decode cX3_getsOff 82 = .ok (.aload_n 0, 1) := by decide +kernel
theorem dX3_getsOff_83 : decode cX3_getsOff 83 = .ok (.getfield 70, 3) := by decide +kernel
theorem dX3_getsOff_86 : decode cX3_getsOff 86 = .ok (.invokevirtual 186, 3) := by decide +kernel
theorem dX3_getsOff_89 : decode cX3_getsOff 89 = .ok (.aload_n 1, 1) := by decide +kernel
theorem dX3_getsOff_90 : decode cX3_getsOff 90 = .ok (.aload_n 1, 1) := by decide +kernel
theorem dX3_getsOff_91 : decode cX3_getsOff 91 = .ok (.getfield 125, 3) := by decide +kernel
theorem dX3_getsOff_94 : decode cX3_getsOff 94 = .ok (.invokevirtual 279, 3) := by decide +kernel
theorem dX3_getsOff_97 : decode cX3_getsOff 97 = .ok (.aload_n 0, 1) := by decide +kernel
theorem dX3_getsOff_98 : decode cX3_getsOff 98 = .ok (.getfield 70, 3) := by decide +kernel
theorem dX3_getsOff_101 : decode cX3_getsOff 101 = .ok (.invokevirtual 282, 3) := by decide +kernel
theorem dX3_getsOff_104 : decode cX3_getsOff 104 = .ok (.iconst 1, 1) := by decide +kernel
theorem dX3_getsOff_105 : decode cX3_getsOff 105 = .ok (.ireturn, 1) := by decide +kernel
theorem dX3_getsOff_106 : decode cX3_getsOff 106 = .ok (.aload_n 1, 1) := by decide +kernel
theorem dX3_getsOff_107 : decode cX3_getsOff 107 = .ok (.getfield 285, 3) := by decide +kernel
theorem dX3_getsOff_110 : decode cX3_getsOff 110 = .ok (.aload_n 2, 1) := by decide +kernel
theorem dX3_getsOff_111 : decode cX3_getsOff 111 = .ok (.getfield 146, 3) := by decide +kernel
theorem dX3_getsOff_114 : decode cX3_getsOff 114 = .ok (.if_icmp .eq 5, 3) := by decide +kernel
theorem dX3_getsOff_117 : decode cX3_getsOff 117 = .ok (.iconst 0, 1) := by decide +kernel
theorem dX3_getsOff_118 : decode cX3_getsOff 118 = .ok (.ireturn, 1) := by decide +kernel
theorem dX3_getsOff_119 : decode cX3_getsOff 119 = .ok (.aload_n 1, 1) := by decide +kernel
theorem dX3_getsOff_120 : decode cX3_getsOff 120 = .ok (.dup, 1) := by decide +kernel
theorem dX3_getsOff_121 : decode cX3_getsOff 121 = .ok (.getfield 288, 3) := by decide +kernel
theorem dX3_getsOff_124 : decode cX3_getsOff 124 = .ok (.iconst 1, 1) := by decide +kernel
theorem dX3_getsOff_125 : decode cX3_getsOff 125 = .ok (.isub, 1) := by decide +kernel
theorem dX3_getsOff_126 : decode cX3_getsOff 126 = .ok (.putfield 288, 3) := by decide +kernel
theorem dX3_getsOff_129 : decode cX3_getsOff 129 = .ok (.aload_n 1, 1) := by decide +kernel
theorem dX3_getsOff_130 : decode cX3_getsOff 130 = .ok (.getfield 288, 3) := by decide +kernel
theorem dX3_getsOff_133 : decode cX3_getsOff 133 = .ok (.ifCond .le 5, 3) := by decide +kernel
theorem dX3_getsOff_136 : decode cX3_getsOff 136 = .ok (.iconst 0, 1) := by decide +kernel
theorem dX3_getsOff_137 : decode cX3_getsOff 137 = .ok (.ireturn, 1) := by decide +kernel
theorem dX3_getsOff_138 : decode cX3_getsOff 138 = .ok (.aload_n 0, 1) := by decide +kernel
theorem dX3_getsOff_139 : decode cX3_getsOff 139 = .ok (.aload_n 1, 1) := by decide +kernel
theorem dX3_getsOff_140 : decode cX3_getsOff 140 = .ok (.aload_n 2, 1) := by decide +kernel
theorem dX3_getsOff_141 : decode cX3_getsOff 141 = .ok (.bipush 6, 2) := by decide +kernel
theorem dX3_getsOff_143 : decode cX3_getsOff 143 = .ok (.iconst 4, 1) := by decide +kernel
theorem dX3_getsOff_144 : decode cX3_getsOff 144 = .ok (.invokevirtual 255, 3) := by decide +kernel
theorem dX3_getsOff_147 : decode cX3_getsOff 147 = .ok (.iconst 1, 1) := by decide +kernel
theorem dX3_getsOff_148 : decode cX3_getsOff 148 = .ok (.ireturn, 1) := by decide +kernel
set_option maxRecDepth 20000 in
theorem ggX3_arrive_X1_write : GoodIn wsX3_arrive wsX1_write := goodIn_r _ [16, 17, 18, 19, 73, 74, 75] (by decide +kernel) (by decide +kernel)
set_option maxRecDepth 20000 in
theorem gX3_arrive_X1_write : GoodIn wsX3_arrive (wsV RX3 186 RX1 yX1_write wsX1_write) := goodIn_app (goodIn_of _ (by decide +kernel)) ggX3_arrive_X1_write
set_option maxRecDepth 20000 in
theorem ggX3_arrive_X5_finish : GoodIn wsX3_arrive wsX5_finish := goodIn_r _ [24, 25, 26, 27, 28, 29, 44, 45, 46, 47, 48, 49, 50, 51, 52, 53, 54, 55, 56, 57] (by decide +kernel) (by decide +kernel)
set_option maxRecDepth 20000 in
theorem gX3_arrive_X5_finish : GoodIn wsX3_arrive (wsV RX3 171 RX5 yX5_finish wsX5_finish) := goodIn_app (goodIn_of _ (by decide +kernel)) ggX3_arrive_X5_finish
theorem dX3_arrive_0 : decode cX3_arrive 0 = .ok (.aload_n 0, 1) := by decide +kernel
theorem dX3_arrive_1 : decode cX3_arrive 1 = .ok (.getfield 38, 3) := by decide +kernel
theorem dX3_arrive_4 : decode cX3_arrive 4 = .ok (.iconst 1, 1) := by decide +kernel
theorem dX3_arrive_5 : decode cX3_arrive 5 = .ok (.aload_n 1, 1) := by decide +kernel
theorem dX3_arrive_6 : decode cX3_arrive 6 = .ok (.getfield 185, 3) := by decide +kernel
theorem dX3_arrive_9 : decode cX3_arrive 9 = .ok (.aload_n 2, 1) := by decide +kernel
theorem dX3_arrive_10 : decode cX3_arrive 10 = .ok (.getfield 138, 3) := by decide +kernel
theorem dX3_arrive_13 : decode cX3_arrive 13 = .ok (.aload_n 2, 1) := by decide +kernel
theorem dX3_arrive_14 : decode cX3_arrive 14 = .ok (.getfield 146, 3) := by decide +kernel
theorem dX3_arrive_17 : decode cX3_arrive 17 = .ok (.aload_n 0, 1) := by decide +kernel
theorem dX3_arrive_18 : decode cX3_arrive 18 = .ok (.getfield 70, 3) := by decide +kernel
theorem dX3_arrive_21 : decode cX3_arrive 21 = .ok (.invokevirtual 186, 3) := by decide +kernel
theorem dX3_arrive_24 : decode cX3_arrive 24 = .ok (.aload_n 2, 1) := by decide +kernel
theorem dX3_arrive_25 : decode cX3_arrive 25 = .ok (.dup, 1) := by decide +kernel
theorem dX3_arrive_26 : decode cX3_arrive 26 = .ok (.getfield 291, 3) := by decide +kernel
theorem dX3_arrive_29 : decode cX3_arrive 29 = .ok (.iconst 1, 1) := by decide +kernel
theorem dX3_arrive_30 : decode cX3_arrive 30 = .ok (.iadd, 1) := by decide +kernel
theorem dX3_arrive_31 : decode cX3_arrive 31 = .ok (.putfield 291, 3) := by decide +kernel
theorem dX3_arrive_34 : decode cX3_arrive 34 = .ok (.aload_n 0, 1) := by decide +kernel
theorem dX3_arrive_35 : decode cX3_arrive 35 = .ok (.dup, 1) := by decide +kernel
theorem dX3_arrive_36 : decode cX3_arrive 36 = .ok (.getfield 82, 3) := by decide +kernel
theorem dX3_arrive_39 : decode cX3_arrive 39 = .ok (.aload_n 1, 1) := by decide +kernel
theorem dX3_arrive_40 : decode cX3_arrive 40 = .ok (.getfield 125, 3) := by decide +kernel
theorem dX3_arrive_43 : decode cX3_arrive 43 = .ok (.getfield 267, 3) := by decide +kernel
theorem dX3_arrive_46 : decode cX3_arrive 46 = .ok (.ixor, 1) := by decide +kernel
theorem dX3_arrive_47 : decode cX3_arrive 47 = .ok (.putfield 82, 3) := by decide +kernel
theorem dX3_arrive_50 : decode cX3_arrive 50 = .ok (.aload_n 0, 1) := by decide +kernel
theorem dX3_arrive_51 : decode cX3_arrive 51 = .ok (.dup, 1) := by decide +kernel
theorem dX3_arrive_52 : decode cX3_arrive 52 = .ok (.getfield 76, 3) := by decide +kernel
theorem dX3_arrive_55 : decode cX3_arrive 55 = .ok (.aload_n 1, 1) := by decide +kernel
theorem dX3_arrive_56 : decode cX3_arrive 56 = .ok (.getfield 163, 3) := by decide +kernel
theorem dX3_arrive_59 : decode cX3_arrive 59 = .ok (.iadd, 1) := by decide +kernel
theorem dX3_arrive_60 : decode cX3_arrive 60 = .ok (.putfield 76, 3) := by decide +kernel
theorem dX3_arrive_63 : decode cX3_arrive 63 = .ok (.aload_n 1, 1) := by decide +kernel
theorem dX3_arrive_64 : decode cX3_arrive 64 = .ok (.iconst 3, 1) := by decide +kernel
theorem dX3_arrive_65 : decode cX3_arrive 65 = .ok (.aload_n 2, 1) := by decide +kernel
theorem dX3_arrive_66 : decode cX3_arrive 66 = .ok (.getfield 146, 3) := by decide +kernel
theorem dX3_arrive_69 : decode cX3_arrive 69 = .ok (.aload_n 0, 1) := by decide +kernel
theorem dX3_arrive_70 : decode cX3_arrive 70 = .ok (.getfield 70, 3) := by decide +kernel
theorem dX3_arrive_73 : decode cX3_arrive 73 = .ok (.invokevirtual 171, 3) := by decide +kernel
theorem dX3_arrive_76 : decode cX3_arrive 76 = .ok (.return_, 1) := by decide +kernel
set_option maxRecDepth 20000 in
theorem ggX3_changesLines_X7_lineTo : GoodIn wsX3_changesLines wsX7_lineTo := goodIn_r _ [8, 9, 50, 51, 52, 53, 54] (by decide +kernel) (by decide +kernel)
set_option maxRecDepth 20000 in
theorem gX3_changesLines_X7_lineTo : GoodIn wsX3_changesLines (wsV RX3 279 RX7 yX7_lineTo wsX7_lineTo) := goodIn_app (goodIn_of _ (by decide +kernel)) ggX3_changesLines_X7_lineTo
set_option maxRecDepth 20000 in
theorem ggX3_changesLines_X3_lineOf : GoodIn wsX3_changesLines wsX3_lineOf := goodIn_r _ [14, 15, 16, 55, 56, 57, 58, 59, 60, 61, 62, 63, 64, 65, 66, 67, 68] (by decide +kernel) (by decide +kernel)
set_option maxRecDepth 20000 in
theorem gX3_changesLines_X3_lineOf : GoodIn wsX3_changesLines (wsV RX3 89 RX3 yX3_lineOf wsX3_lineOf) := goodIn_app (goodIn_of _ (by decide +kernel)) ggX3_changesLines_X3_lineOf
set_option maxRecDepth 20000 in
theorem ggX3_changesLines_X3_hallLength : GoodIn wsX3_changesLines wsX3_hallLength := goodIn_r _ [20, 21, 22, 23, 24, 25, 55, 56, 57, 58, 59, 60, 61, 62, 63, 64, 65, 66, 67, 68, 26, 27, 28, 29, 30, 31, 32, 33, 34, 35, 36, 37, 38, 39, 69, 70, 71, 72, 73, 74, 75, 76, 77, 78] (by decide +kernel) (by decide +kernel)
set_option maxRecDepth 20000 in
theorem gX3_changesLines_X3_hallLength : GoodIn wsX3_changesLines (wsV RX3 294 RX3 yX3_hallLength wsX3_hallLength) := goodIn_app (goodIn_of _ (by decide +kernel)) ggX3_changesLines_X3_hallLength
theorem dX3_changesLines_0 : decode cX3_changesLines 0 = .ok (.aload_n 1, 1) := by decide +kernel
theorem dX3_changesLines_1 : decode cX3_changesLines 1 = .ok (.getfield 125, 3) := by decide +kernel
theorem dX3_changesLines_4 : decode cX3_changesLines 4 = .ok (.invokevirtual 279, 3) := by decide +kernel
theorem dX3_changesLines_7 : decode cX3_changesLines 7 = .ok (.istore_n 3, 1) := by decide +kernel
theorem dX3_changesLines_8 : decode cX3_changesLines 8 = .ok (.aload_n 2, 1) := by decide +kernel
theorem dX3_changesLines_9 : decode cX3_changesLines 9 = .ok (.getfield 132, 3) := by decide +kernel
theorem dX3_changesLines_12 : decode cX3_changesLines 12 = .ok (.ifCond .eq 28, 3) := by decide +kernel
theorem dX3_changesLines_15 : decode cX3_changesLines 15 = .ok (.iload_n 3, 1) := by decide +kernel
theorem dX3_changesLines_16 : decode cX3_changesLines 16 = .ok (.aload_n 2, 1) := by decide +kernel
theorem dX3_changesLines_17 : decode cX3_changesLines 17 = .ok (.getfield 138, 3) := by decide +kernel
theorem dX3_changesLines_20 : decode cX3_changesLines 20 = .ok (.if_icmp .eq 20, 3) := by decide +kernel
theorem dX3_changesLines_23 : decode cX3_changesLines 23 = .ok (.aload_n 0, 1) := by decide +kernel
theorem dX3_changesLines_24 : decode cX3_changesLines 24 = .ok (.aload_n 0, 1) := by decide +kernel
theorem dX3_changesLines_25 : decode cX3_changesLines 25 = .ok (.iload_n 3, 1) := by decide +kernel
theorem dX3_changesLines_26 : decode cX3_changesLines 26 = .ok (.invokevirtual 89, 3) := by decide +kernel
theorem dX3_changesLines_29 : decode cX3_changesLines 29 = .ok (.invokevirtual 294, 3) := by decide +kernel
theorem dX3_changesLines_32 : decode cX3_changesLines 32 = .ok (.iconst 3, 1) := by decide +kernel
theorem dX3_changesLines_33 : decode cX3_changesLines 33 = .ok (.if_icmp .ge 7, 3) := by decide +kernel
theorem dX3_changesLines_36 : decode cX3_changesLines 36 = .ok (.iconst 1, 1) := by decide +kernel
theorem dX3_changesLines_37 : decode cX3_changesLines 37 = .ok (.goto 4, 3) := by decide +kernel
theorem dX3_changesLines_40 : decode cX3_changesLines 40 = .ok (.iconst 0, 1) := by decide +kernel
theorem dX3_changesLines_41 : decode cX3_changesLines 41 = .ok (.ireturn, 1) := by decide +kernel
theorem dX3_shoves_0 : decode cX3_shoves 0 = .ok (.aload_n 1, 1) := by decide +kernel
theorem dX3_shoves_1 : decode cX3_shoves 1 = .ok (.getfield 125, 3) := by decide +kernel
theorem dX3_shoves_4 : decode cX3_shoves 4 = .ok (.getfield 129, 3) := by decide +kernel
theorem dX3_shoves_7 : decode cX3_shoves 7 = .ok (.aload_n 2, 1) := by decide +kernel
theorem dX3_shoves_8 : decode cX3_shoves 8 = .ok (.getfield 125, 3) := by decide +kernel
theorem dX3_shoves_11 : decode cX3_shoves 11 = .ok (.getfield 129, 3) := by decide +kernel
theorem dX3_shoves_14 : decode cX3_shoves 14 = .ok (.if_icmp .le 23, 3) := by decide +kernel
theorem dX3_shoves_17 : decode cX3_shoves 17 = .ok (.aload_n 0, 1) := by decide +kernel
theorem dX3_shoves_18 : decode cX3_shoves 18 = .ok (.getfield 70, 3) := by decide +kernel
theorem dX3_shoves_21 : decode cX3_shoves 21 = .ok (.aload_n 1, 1) := by decide +kernel
theorem dX3_shoves_22 : decode cX3_shoves 22 = .ok (.getfield 298, 3) := by decide +kernel
theorem dX3_shoves_25 : decode cX3_shoves 25 = .ok (.isub, 1) := by decide +kernel
theorem dX3_shoves_26 : decode cX3_shoves 26 = .ok (.aload_n 0, 1) := by decide +kernel
theorem dX3_shoves_27 : decode cX3_shoves 27 = .ok (.getfield 46, 3) := by decide +kernel
theorem dX3_shoves_30 : decode cX3_shoves 30 = .ok (.if_icmp .lt 7, 3) := by decide +kernel
theorem dX3_shoves_33 : decode cX3_shoves 33 = .ok (.iconst 1, 1) := by decide +kernel
theorem dX3_shoves_34 : decode cX3_shoves 34 = .ok (.goto 4, 3) := by decide +kernel
theorem dX3_shoves_37 : decode cX3_shoves 37 = .ok (.iconst 0, 1) := by decide +kernel
theorem dX3_shoves_38 : decode cX3_shoves 38 = .ok (.ireturn, 1) := by decide +kernel
set_option maxRecDepth 20000 in
theorem ggX3_putOut_X1_write : GoodIn wsX3_putOut wsX1_write := goodIn_r _ [12, 13, 14, 15, 64, 65, 66] (by decide +kernel) (by decide +kernel)
set_option maxRecDepth 20000 in
theorem gX3_putOut_X1_write : GoodIn wsX3_putOut (wsV RX3 186 RX1 yX1_write wsX1_write) := goodIn_app (goodIn_of _ (by decide +kernel)) ggX3_putOut_X1_write
set_option maxRecDepth 20000 in
theorem ggX3_putOut_X5_finish : GoodIn wsX3_putOut wsX5_finish := goodIn_r _ [20, 21, 22, 23, 24, 25, 40, 41, 42, 43, 44, 45, 46, 47, 48, 49, 50, 51, 52, 53] (by decide +kernel) (by decide +kernel)
set_option maxRecDepth 20000 in
theorem gX3_putOut_X5_finish : GoodIn wsX3_putOut (wsV RX3 171 RX5 yX5_finish wsX5_finish) := goodIn_app (goodIn_of _ (by decide +kernel)) ggX3_putOut_X5_finish
theorem dX3_putOut_0 : decode cX3_putOut 0 = .ok (.aload_n 0, 1) := by decide +kernel
theorem dX3_putOut_1 : decode cX3_putOut 1 = .ok (.getfield 38, 3) := by decide +kernel
theorem dX3_putOut_4 : decode cX3_putOut 4 = .ok (.iload 4, 2) := by decide +kernel
theorem dX3_putOut_6 : decode cX3_putOut 6 = .ok (.aload_n 1, 1) := by decide +kernel
theorem dX3_putOut_7 : decode cX3_putOut 7 = .ok (.getfield 185, 3) := by decide +kernel
theorem dX3_putOut_10 : decode cX3_putOut 10 = .ok (.aload_n 2, 1) := by decide +kernel
theorem dX3_putOut_11 : decode cX3_putOut 11 = .ok (.getfield 138, 3) := by decide +kernel
theorem dX3_putOut_14 : decode cX3_putOut 14 = .ok (.aload_n 2, 1) := by decide +kernel
theorem dX3_putOut_15 : decode cX3_putOut 15 = .ok (.getfield 146, 3) := by decide +kernel
theorem dX3_putOut_18 : decode cX3_putOut 18 = .ok (.aload_n 0, 1) := by decide +kernel
theorem dX3_putOut_19 : decode cX3_putOut 19 = .ok (.getfield 70, 3) := by decide +kernel
theorem dX3_putOut_22 : decode cX3_putOut 22 = .ok (.invokevirtual 186, 3) := by decide +kernel
theorem dX3_putOut_25 : decode cX3_putOut 25 = .ok (.aload_n 0, 1) := by decide +kernel
theorem dX3_putOut_26 : decode cX3_putOut 26 = .ok (.dup, 1) := by decide +kernel
theorem dX3_putOut_27 : decode cX3_putOut 27 = .ok (.getfield 79, 3) := by decide +kernel
theorem dX3_putOut_30 : decode cX3_putOut 30 = .ok (.aload_n 1, 1) := by decide +kernel
theorem dX3_putOut_31 : decode cX3_putOut 31 = .ok (.getfield 163, 3) := by decide +kernel
theorem dX3_putOut_34 : decode cX3_putOut 34 = .ok (.iadd, 1) := by decide +kernel
theorem dX3_putOut_35 : decode cX3_putOut 35 = .ok (.putfield 79, 3) := by decide +kernel
theorem dX3_putOut_38 : decode cX3_putOut 38 = .ok (.aload_n 1, 1) := by decide +kernel
theorem dX3_putOut_39 : decode cX3_putOut 39 = .ok (.iload_n 3, 1) := by decide +kernel
theorem dX3_putOut_40 : decode cX3_putOut 40 = .ok (.aload_n 2, 1) := by decide +kernel
theorem dX3_putOut_41 : decode cX3_putOut 41 = .ok (.getfield 146, 3) := by decide +kernel
theorem dX3_putOut_44 : decode cX3_putOut 44 = .ok (.aload_n 0, 1) := by decide +kernel
theorem dX3_putOut_45 : decode cX3_putOut 45 = .ok (.getfield 70, 3) := by decide +kernel
theorem dX3_putOut_48 : decode cX3_putOut 48 = .ok (.invokevirtual 171, 3) := by decide +kernel
theorem dX3_putOut_51 : decode cX3_putOut 51 = .ok (.return_, 1) := by decide +kernel
set_option maxRecDepth 20000 in
theorem ggX3_board_X1_write : GoodIn wsX3_board wsX1_write := goodIn_r _ [11, 12, 13, 14, 84, 85, 86] (by decide +kernel) (by decide +kernel)
set_option maxRecDepth 20000 in
theorem gX3_board_X1_write : GoodIn wsX3_board (wsV RX3 186 RX1 yX1_write wsX1_write) := goodIn_app (goodIn_of _ (by decide +kernel)) ggX3_board_X1_write
set_option maxRecDepth 20000 in
theorem ggX3_board_X5_ride : GoodIn wsX3_board wsX5_ride := goodIn_r _ [19, 20, 21, 22, 23, 24, 25, 26, 50, 51, 52, 53, 54, 55, 56, 57, 58, 59, 60, 61, 62, 63, 74, 75, 76, 77, 78, 79, 80, 81, 82, 83] (by decide +kernel) (by decide +kernel)
set_option maxRecDepth 20000 in
theorem gX3_board_X5_ride : GoodIn wsX3_board (wsV RX3 304 RX5 yX5_ride wsX5_ride) := goodIn_app (goodIn_of _ (by decide +kernel)) ggX3_board_X5_ride
set_option maxRecDepth 20000 in
theorem ggX3_board_X0_setRider : GoodIn wsX3_board wsX0_setRider := goodIn_r _ [31, 32, 33, 34, 35, 64, 65, 66, 67, 68, 69, 70, 71, 72, 73] (by decide +kernel) (by decide +kernel)
set_option maxRecDepth 20000 in
theorem gX3_board_X0_setRider : GoodIn wsX3_board (wsV RX3 167 RX0 yX0_setRider wsX0_setRider) := goodIn_app (goodIn_of _ (by decide +kernel)) ggX3_board_X0_setRider
theorem dX3_board_0 : decode cX3_board 0 = .ok (.aload_n 0, 1) := by decide +kernel
theorem dX3_board_1 : decode cX3_board 1 = .ok (.getfield 38, 3) := by decide +kernel
theorem dX3_board_4 : decode cX3_board 4 = .ok (.iconst 0, 1) := by decide +kernel
theorem dX3_board_5 : decode cX3_board 5 = .ok (.aload_n 1, 1) := by decide +kernel
theorem dX3_board_6 : decode cX3_board 6 = .ok (.getfield 185, 3) := by decide +kernel
theorem dX3_board_9 : decode cX3_board 9 = .ok (.aload_n 2, 1) := by decide +kernel
theorem dX3_board_10 : decode cX3_board 10 = .ok (.getfield 122, 3) := by decide +kernel
theorem dX3_board_13 : decode cX3_board 13 = .ok (.aload_n 3, 1) := by decide +kernel
theorem dX3_board_14 : decode cX3_board 14 = .ok (.getfield 146, 3) := by decide +kernel
theorem dX3_board_17 : decode cX3_board 17 = .ok (.aload_n 0, 1) := by decide +kernel
theorem dX3_board_18 : decode cX3_board 18 = .ok (.getfield 70, 3) := by decide +kernel
theorem dX3_board_21 : decode cX3_board 21 = .ok (.invokevirtual 186, 3) := by decide +kernel
theorem dX3_board_24 : decode cX3_board 24 = .ok (.aload_n 3, 1) := by decide +kernel
theorem dX3_board_25 : decode cX3_board 25 = .ok (.dup, 1) := by decide +kernel
theorem dX3_board_26 : decode cX3_board 26 = .ok (.getfield 301, 3) := by decide +kernel
theorem dX3_board_29 : decode cX3_board 29 = .ok (.iconst 1, 1) := by decide +kernel
theorem dX3_board_30 : decode cX3_board 30 = .ok (.iadd, 1) := by decide +kernel
theorem dX3_board_31 : decode cX3_board 31 = .ok (.putfield 301, 3) := by decide +kernel
theorem dX3_board_34 : decode cX3_board 34 = .ok (.aload_n 1, 1) := by decide +kernel
theorem dX3_board_35 : decode cX3_board 35 = .ok (.aload_n 3, 1) := by decide +kernel
theorem dX3_board_36 : decode cX3_board 36 = .ok (.iload 4, 2) := by decide +kernel
theorem dX3_board_38 : decode cX3_board 38 = .ok (.aload_n 0, 1) := by decide +kernel
theorem dX3_board_39 : decode cX3_board 39 = .ok (.getfield 70, 3) := by decide +kernel
theorem dX3_board_42 : decode cX3_board 42 = .ok (.invokevirtual 304, 3) := by decide +kernel
theorem dX3_board_45 : decode cX3_board 45 = .ok (.aload_n 2, 1) := by decide +kernel
theorem dX3_board_46 : decode cX3_board 46 = .ok (.iload 4, 2) := by decide +kernel
theorem dX3_board_48 : decode cX3_board 48 = .ok (.aload_n 1, 1) := by decide +kernel
theorem dX3_board_49 : decode cX3_board 49 = .ok (.getfield 185, 3) := by decide +kernel
theorem dX3_board_52 : decode cX3_board 52 = .ok (.invokevirtual 167, 3) := by decide +kernel
theorem dX3_board_55 : decode cX3_board 55 = .ok (.return_, 1) := by decide +kernel
set_option maxRecDepth 20000 in
theorem ggX3_moveLine_X0_advance : GoodIn wsX3_moveLine wsX0_advance := goodIn_r _ [8, 9, 10, 11, 12, 13, 14, 15, 16, 7, 17, 18, 41, 42, 43, 44, 45, 46, 47, 48, 49, 50] (by decide +kernel) (by decide +kernel)
set_option maxRecDepth 20000 in
theorem gX3_moveLine_X0_advance : GoodIn wsX3_moveLine (wsV RX3 308 RX0 yX0_advance wsX0_advance) := goodIn_app (goodIn_of _ (by decide +kernel)) ggX3_moveLine_X0_advance
set_option maxRecDepth 20000 in
theorem ggX3_moveLine_X1_write : GoodIn wsX3_moveLine wsX1_write := goodIn_r _ [23, 24, 25, 26, 51, 52, 53] (by decide +kernel) (by decide +kernel)
set_option maxRecDepth 20000 in
theorem gX3_moveLine_X1_write : GoodIn wsX3_moveLine (wsV RX3 186 RX1 yX1_write wsX1_write) := goodIn_app (goodIn_of _ (by decide +kernel)) ggX3_moveLine_X1_write
theorem dX3_moveLine_0 : decode cX3_moveLine 0 = .ok (.aload_n 1, 1) := by decide +kernel
theorem dX3_moveLine_1 : decode cX3_moveLine 1 = .ok (.invokevirtual 308, 3) := by decide +kernel
theorem dX3_moveLine_4 : decode cX3_moveLine 4 = .ok (.istore_n 2, 1) := by decide +kernel
theorem dX3_moveLine_5 : decode cX3_moveLine 5 = .ok (.iload_n 2, 1) := by decide +kernel
theorem dX3_moveLine_6 : decode cX3_moveLine 6 = .ok (.bipush (-5), 2) := by decide +kernel
theorem dX3_moveLine_8 : decode cX3_moveLine 8 = .ok (.if_icmp .eq 23, 3) := by decide +kernel
theorem dX3_moveLine_11 : decode cX3_moveLine 11 = .ok (.aload_n 0, 1) := by decide +kernel
theorem dX3_moveLine_12 : decode cX3_moveLine 12 = .ok (.getfield 38, 3) := by decide +kernel
theorem dX3_moveLine_15 : decode cX3_moveLine 15 = .ok (.iload_n 2, 1) := by decide +kernel
theorem dX3_moveLine_16 : decode cX3_moveLine 16 = .ok (.bipush (-5), 2) := by decide +kernel
theorem dX3_moveLine_18 : decode cX3_moveLine 18 = .ok (.aload_n 1, 1) := by decide +kernel
theorem dX3_moveLine_19 : decode cX3_moveLine 19 = .ok (.getfield 122, 3) := by decide +kernel
theorem dX3_moveLine_22 : decode cX3_moveLine 22 = .ok (.bipush (-5), 2) := by decide +kernel
theorem dX3_moveLine_24 : decode cX3_moveLine 24 = .ok (.aload_n 0, 1) := by decide +kernel
theorem dX3_moveLine_25 : decode cX3_moveLine 25 = .ok (.getfield 70, 3) := by decide +kernel
theorem dX3_moveLine_28 : decode cX3_moveLine 28 = .ok (.invokevirtual 186, 3) := by decide +kernel
theorem dX3_moveLine_31 : decode cX3_moveLine 31 = .ok (.return_, 1) := by decide +kernel
