theorem dJ9_floorMod_7cf53_0 : decode cJ9_floorMod_7cf53 0 = .ok (.iload_n 0, 1) := by decide +kernel
theorem dJ9_floorMod_7cf53_1 : decode cJ9_floorMod_7cf53 1 = .ok (.iload_n 1, 1) := by decide +kernel
theorem dJ9_floorMod_7cf53_2 : decode cJ9_floorMod_7cf53 2 = .ok (.irem, 1) := by decide +kernel
theorem dJ9_floorMod_7cf53_3 : decode cJ9_floorMod_7cf53 3 = .ok (.istore_n 2, 1) := by decide +kernel
theorem dJ9_floorMod_7cf53_4 : decode cJ9_floorMod_7cf53 4 = .ok (.iload_n 0, 1) := by decide +kernel
theorem dJ9_floorMod_7cf53_5 : decode cJ9_floorMod_7cf53 5 = .ok (.iload_n 1, 1) := by decide +kernel
theorem dJ9_floorMod_7cf53_6 : decode cJ9_floorMod_7cf53 6 = .ok (.ixor, 1) := by decide +kernel
theorem dJ9_floorMod_7cf53_7 : decode cJ9_floorMod_7cf53 7 = .ok (.ifCond .ge 11, 3) := by decide +kernel
theorem dJ9_floorMod_7cf53_10 : decode cJ9_floorMod_7cf53 10 = .ok (.iload_n 2, 1) := by decide +kernel
theorem dJ9_floorMod_7cf53_11 : decode cJ9_floorMod_7cf53 11 = .ok (.ifCond .eq 7, 3) := by decide +kernel
theorem dJ9_floorMod_7cf53_14 : decode cJ9_floorMod_7cf53 14 = .ok (.iload_n 2, 1) := by decide +kernel
theorem dJ9_floorMod_7cf53_15 : decode cJ9_floorMod_7cf53 15 = .ok (.iload_n 1, 1) := by decide +kernel
theorem dJ9_floorMod_7cf53_16 : decode cJ9_floorMod_7cf53 16 = .ok (.iadd, 1) := by decide +kernel
theorem dJ9_floorMod_7cf53_17 : decode cJ9_floorMod_7cf53 17 = .ok (.ireturn, 1) := by decide +kernel
theorem dJ9_floorMod_7cf53_18 : decode cJ9_floorMod_7cf53 18 = .ok (.iload_n 2, 1) := by decide +kernel
theorem dJ9_floorMod_7cf53_19 : decode cJ9_floorMod_7cf53 19 = .ok (.ireturn, 1) := by decide +kernel
theorem dJ9_abs_0f7a4_0 : decode cJ9_abs_0f7a4 0 = .ok (.iload_n 0, 1) := by decide +kernel
theorem dJ9_abs_0f7a4_1 : decode cJ9_abs_0f7a4 1 = .ok (.ifCond .ge 8, 3) := by decide +kernel
theorem dJ9_abs_0f7a4_4 : decode cJ9_abs_0f7a4 4 = .ok (.iload_n 0, 1) := by decide +kernel
theorem dJ9_abs_0f7a4_5 : decode cJ9_abs_0f7a4 5 = .ok (.ineg, 1) := by decide +kernel
theorem dJ9_abs_0f7a4_6 : decode cJ9_abs_0f7a4 6 = .ok (.goto 4, 3) := by decide +kernel
theorem dJ9_abs_0f7a4_9 : decode cJ9_abs_0f7a4 9 = .ok (.iload_n 0, 1) := by decide +kernel
theorem dJ9_abs_0f7a4_10 : decode cJ9_abs_0f7a4 10 = .ok (.ireturn, 1) := by decide +kernel
theorem dX7_init_0 : decode cX7_init 0 = .ok (.aload_n 0, 1) := by decide +kernel
theorem dX7_init_1 : decode cX7_init 1 = .ok (.invokespecial 1, 3) := by decide +kernel
theorem dX7_init_4 : decode cX7_init 4 = .ok (.return_, 1) := by decide +kernel
theorem dX7_copyFrom_0 : decode cX7_copyFrom 0 = .ok (.aload_n 0, 1) := by decide +kernel
theorem dX7_copyFrom_1 : decode cX7_copyFrom 1 = .ok (.aload_n 1, 1) := by decide +kernel
theorem dX7_copyFrom_2 : decode cX7_copyFrom 2 = .ok (.getfield 7, 3) := by decide +kernel
theorem dX7_copyFrom_5 : decode cX7_copyFrom 5 = .ok (.putfield 7, 3) := by decide +kernel
theorem dX7_copyFrom_8 : decode cX7_copyFrom 8 = .ok (.aload_n 0, 1) := by decide +kernel
theorem dX7_copyFrom_9 : decode cX7_copyFrom 9 = .ok (.aload_n 1, 1) := by decide +kernel
theorem dX7_copyFrom_10 : decode cX7_copyFrom 10 = .ok (.getfield 13, 3) := by decide +kernel
theorem dX7_copyFrom_13 : decode cX7_copyFrom 13 = .ok (.putfield 13, 3) := by decide +kernel
theorem dX7_copyFrom_16 : decode cX7_copyFrom 16 = .ok (.aload_n 0, 1) := by decide +kernel
theorem dX7_copyFrom_17 : decode cX7_copyFrom 17 = .ok (.aload_n 1, 1) := by decide +kernel
theorem dX7_copyFrom_18 : decode cX7_copyFrom 18 = .ok (.getfield 16, 3) := by decide +kernel
theorem dX7_copyFrom_21 : decode cX7_copyFrom 21 = .ok (.putfield 16, 3) := by decide +kernel
theorem dX7_copyFrom_24 : decode cX7_copyFrom 24 = .ok (.aload_n 0, 1) := by decide +kernel
theorem dX7_copyFrom_25 : decode cX7_copyFrom 25 = .ok (.aload_n 1, 1) := by decide +kernel
theorem dX7_copyFrom_26 : decode cX7_copyFrom 26 = .ok (.getfield 19, 3) := by decide +kernel
theorem dX7_copyFrom_29 : decode cX7_copyFrom 29 = .ok (.putfield 19, 3) := by decide +kernel
theorem dX7_copyFrom_32 : decode cX7_copyFrom 32 = .ok (.aload_n 0, 1) := by decide +kernel
theorem dX7_copyFrom_33 : decode cX7_copyFrom 33 = .ok (.aload_n 1, 1) := by decide +kernel
theorem dX7_copyFrom_34 : decode cX7_copyFrom 34 = .ok (.getfield 22, 3) := by decide +kernel
theorem dX7_copyFrom_37 : decode cX7_copyFrom 37 = .ok (.putfield 22, 3) := by decide +kernel
theorem dX7_copyFrom_40 : decode cX7_copyFrom 40 = .ok (.return_, 1) := by decide +kernel
set_option maxRecDepth 20000 in
theorem ggX7_isGood_X8_within : GoodIn wsX7_isGood wsX8_within := goodIn_r _ [9] (by decide +kernel) (by decide +kernel)
set_option maxRecDepth 20000 in
theorem gX7_isGood_X8_within_n26 : GoodIn wsX7_isGood (wsX8_within) := ggX7_isGood_X8_within
theorem dX7_isGood_0 : decode cX7_isGood 0 = .ok (.aload_n 0, 1) := by decide +kernel
theorem dX7_isGood_1 : decode cX7_isGood 1 = .ok (.getfield 7, 3) := by decide +kernel
theorem dX7_isGood_4 : decode cX7_isGood 4 = .ok (.iconst 0, 1) := by decide +kernel
theorem dX7_isGood_5 : decode cX7_isGood 5 = .ok (.ldc 25, 2) := by decide +kernel
theorem dX7_isGood_7 : decode cX7_isGood 7 = .ok (.invokestatic 26, 3) := by decide +kernel
theorem dX7_isGood_10 : decode cX7_isGood 10 = .ok (.ifCond .eq 43, 3) := by decide +kernel
theorem dX7_isGood_13 : decode cX7_isGood 13 = .ok (.aload_n 0, 1) := by decide +kernel
theorem dX7_isGood_14 : decode cX7_isGood 14 = .ok (.getfield 13, 3) := by decide +kernel
theorem dX7_isGood_17 : decode cX7_isGood 17 = .ok (.iconst 1, 1) := by decide +kernel
theorem dX7_isGood_18 : decode cX7_isGood 18 = .ok (.iconst 3, 1) := by decide +kernel
theorem dX7_isGood_19 : decode cX7_isGood 19 = .ok (.invokestatic 26, 3) := by decide +kernel
theorem dX7_isGood_22 : decode cX7_isGood 22 = .ok (.ifCond .eq 31, 3) := by decide +kernel
theorem dX7_isGood_25 : decode cX7_isGood 25 = .ok (.aload_n 0, 1) := by decide +kernel
theorem dX7_isGood_26 : decode cX7_isGood 26 = .ok (.getfield 22, 3) := by decide +kernel
theorem dX7_isGood_29 : decode cX7_isGood 29 = .ok (.iconst 1, 1) := by decide +kernel
theorem dX7_isGood_30 : decode cX7_isGood 30 = .ok (.bipush 9, 2) := by decide +kernel
theorem dX7_isGood_32 : decode cX7_isGood 32 = .ok (.invokestatic 26, 3) := by decide +kernel
theorem dX7_isGood_35 : decode cX7_isGood 35 = .ok (.ifCond .eq 18, 3) := by decide +kernel
theorem dX7_isGood_38 : decode cX7_isGood 38 = .ok (.aload_n 0, 1) := by decide +kernel
theorem dX7_isGood_39 : decode cX7_isGood 39 = .ok (.getfield 16, 3) := by decide +kernel
theorem dX7_isGood_42 : decode cX7_isGood 42 = .ok (.aload_n 0, 1) := by decide +kernel
theorem dX7_isGood_43 : decode cX7_isGood 43 = .ok (.getfield 19, 3) := by decide +kernel
theorem dX7_isGood_46 : decode cX7_isGood 46 = .ok (.if_icmp .eq 7, 3) := by decide +kernel
theorem dX7_isGood_49 : decode cX7_isGood 49 = .ok (.iconst 1, 1) := by decide +kernel
theorem dX7_isGood_50 : decode cX7_isGood 50 = .ok (.goto 4, 3) := by decide +kernel
theorem dX7_isGood_53 : decode cX7_isGood 53 = .ok (.iconst 0, 1) := by decide +kernel
theorem dX7_isGood_54 : decode cX7_isGood 54 = .ok (.ireturn, 1) := by decide +kernel
theorem dX7_lineTo_0 : decode cX7_lineTo 0 = .ok (.aload_n 0, 1) := by decide +kernel
theorem dX7_lineTo_1 : decode cX7_lineTo 1 = .ok (.getfield 19, 3) := by decide +kernel
theorem dX7_lineTo_4 : decode cX7_lineTo 4 = .ok (.bipush 10, 2) := by decide +kernel
theorem dX7_lineTo_6 : decode cX7_lineTo 6 = .ok (.idiv, 1) := by decide +kernel
theorem dX7_lineTo_7 : decode cX7_lineTo 7 = .ok (.ireturn, 1) := by decide +kernel
set_option maxRecDepth 20000 in
theorem ggX5_init_X7_init : GoodIn wsX5_init wsX7_init := goodIn_r _ [10, 11, 2, 3] (by decide +kernel) (by decide +kernel)
set_option maxRecDepth 20000 in
theorem gX5_init_X7_init_n11 : GoodIn wsX5_init (wsX7_init) := ggX5_init_X7_init
theorem dX5_init_0 : decode cX5_init 0 = .ok (.aload_n 0, 1) := by decide +kernel
theorem dX5_init_1 : decode cX5_init 1 = .ok (.invokespecial 3, 3) := by decide +kernel
theorem dX5_init_4 : decode cX5_init 4 = .ok (.aload_n 0, 1) := by decide +kernel
theorem dX5_init_5 : decode cX5_init 5 = .ok (.new 9, 3) := by decide +kernel
theorem dX5_init_8 : decode cX5_init 8 = .ok (.dup, 1) := by decide +kernel
theorem dX5_init_9 : decode cX5_init 9 = .ok (.invokespecial 11, 3) := by decide +kernel
theorem dX5_init_12 : decode cX5_init 12 = .ok (.putfield 12, 3) := by decide +kernel
theorem dX5_init_15 : decode cX5_init 15 = .ok (.aload_n 0, 1) := by decide +kernel
theorem dX5_init_16 : decode cX5_init 16 = .ok (.iload_n 1, 1) := by decide +kernel
theorem dX5_init_17 : decode cX5_init 17 = .ok (.putfield 18, 3) := by decide +kernel
theorem dX5_init_20 : decode cX5_init 20 = .ok (.return_, 1) := by decide +kernel
set_option maxRecDepth 20000 in
theorem ggX5_copyFrom_X7_copyFrom : GoodIn wsX5_copyFrom wsX7_copyFrom := goodIn_r _ [18, 19, 20, 21, 22, 23, 38, 39, 40, 41, 42] (by decide +kernel) (by decide +kernel)
set_option maxRecDepth 20000 in
theorem gX5_copyFrom_X7_copyFrom : GoodIn wsX5_copyFrom (wsV RX5 22 RX7 yX7_copyFrom wsX7_copyFrom) := goodIn_app (goodIn_of _ (by decide +kernel)) ggX5_copyFrom_X7_copyFrom
theorem dX5_copyFrom_0 : decode cX5_copyFrom 0 = .ok (.aload_n 0, 1) := by decide +kernel
theorem dX5_copyFrom_1 : decode cX5_copyFrom 1 = .ok (.getfield 12, 3) := by decide +kernel
theorem dX5_copyFrom_4 : decode cX5_copyFrom 4 = .ok (.aload_n 1, 1) := by decide +kernel
theorem dX5_copyFrom_5 : decode cX5_copyFrom 5 = .ok (.getfield 12, 3) := by decide +kernel
theorem dX5_copyFrom_8 : decode cX5_copyFrom 8 = .ok (.invokevirtual 22, 3) := by decide +kernel
theorem dX5_copyFrom_11 : decode cX5_copyFrom 11 = .ok (.aload_n 0, 1) := by decide +kernel
theorem dX5_copyFrom_12 : decode cX5_copyFrom 12 = .ok (.aload_n 1, 1) := by decide +kernel
theorem dX5_copyFrom_13 : decode cX5_copyFrom 13 = .ok (.getfield 26, 3) := by decide +kernel
theorem dX5_copyFrom_16 : decode cX5_copyFrom 16 = .ok (.putfield 26, 3) := by decide +kernel
theorem dX5_copyFrom_19 : decode cX5_copyFrom 19 = .ok (.aload_n 0, 1) := by decide +kernel
theorem dX5_copyFrom_20 : decode cX5_copyFrom 20 = .ok (.aload_n 1, 1) := by decide +kernel
theorem dX5_copyFrom_21 : decode cX5_copyFrom 21 = .ok (.getfield 29, 3) := by decide +kernel
theorem dX5_copyFrom_24 : decode cX5_copyFrom 24 = .ok (.putfield 29, 3) := by decide +kernel
theorem dX5_copyFrom_27 : decode cX5_copyFrom 27 = .ok (.aload_n 0, 1) := by decide +kernel
theorem dX5_copyFrom_28 : decode cX5_copyFrom 28 = .ok (.aload_n 1, 1) := by decide +kernel
theorem dX5_copyFrom_29 : decode cX5_copyFrom 29 = .ok (.getfield 32, 3) := by decide +kernel
theorem dX5_copyFrom_32 : decode cX5_copyFrom 32 = .ok (.putfield 32, 3) := by decide +kernel
theorem dX5_copyFrom_35 : decode cX5_copyFrom 35 = .ok (.aload_n 0, 1) := by decide +kernel
theorem dX5_copyFrom_36 : decode cX5_copyFrom 36 = .ok (.aload_n 1, 1) := by decide +kernel
theorem dX5_copyFrom_37 : decode cX5_copyFrom 37 = .ok (.getfield 35, 3) := by decide +kernel
theorem dX5_copyFrom_40 : decode cX5_copyFrom 40 = .ok (.putfield 35, 3) := by decide +kernel
theorem dX5_copyFrom_43 : decode cX5_copyFrom 43 = .ok (.aload_n 0, 1) := by decide +kernel
theorem dX5_copyFrom_44 : decode cX5_copyFrom 44 = .ok (.aload_n 1, 1) := by decide +kernel
theorem dX5_copyFrom_45 : decode cX5_copyFrom 45 = .ok (.getfield 38, 3) := by decide +kernel
theorem dX5_copyFrom_48 : decode cX5_copyFrom 48 = .ok (.putfield 38, 3) := by decide +kernel
theorem dX5_copyFrom_51 : decode cX5_copyFrom 51 = .ok (.aload_n 0, 1) := by decide +kernel
theorem dX5_copyFrom_52 : decode cX5_copyFrom 52 = .ok (.aload_n 1, 1) := by decide +kernel
theorem dX5_copyFrom_53 : decode cX5_copyFrom 53 = .ok (.getfield 41, 3) := by decide +kernel
theorem dX5_copyFrom_56 : decode cX5_copyFrom 56 = .ok (.putfield 41, 3) := by decide +kernel
theorem dX5_copyFrom_59 : decode cX5_copyFrom 59 = .ok (.aload_n 0, 1) := by decide +kernel
theorem dX5_copyFrom_60 : decode cX5_copyFrom 60 = .ok (.aload_n 1, 1) := by decide +kernel
theorem dX5_copyFrom_61 : decode cX5_copyFrom 61 = .ok (.getfield 44, 3) := by decide +kernel
theorem dX5_copyFrom_64 : decode cX5_copyFrom 64 = .ok (.putfield 44, 3) := by decide +kernel
theorem dX5_copyFrom_67 : decode cX5_copyFrom 67 = .ok (.aload_n 0, 1) := by decide +kernel
theorem dX5_copyFrom_68 : decode cX5_copyFrom 68 = .ok (.aload_n 1, 1) := by decide +kernel
theorem dX5_copyFrom_69 : decode cX5_copyFrom 69 = .ok (.getfield 47, 3) := by decide +kernel
theorem dX5_copyFrom_72 : decode cX5_copyFrom 72 = .ok (.putfield 47, 3) := by decide +kernel
theorem dX5_copyFrom_75 : decode cX5_copyFrom 75 = .ok (.aload_n 0, 1) := by decide +kernel
theorem dX5_copyFrom_76 : decode cX5_copyFrom 76 = .ok (.aload_n 1, 1) := by decide +kernel
theorem dX5_copyFrom_77 : decode cX5_copyFrom 77 = .ok (.getfield 50, 3) := by decide +kernel
theorem dX5_copyFrom_80 : decode cX5_copyFrom 80 = .ok (.putfield 50, 3) := by decide +kernel
theorem dX5_copyFrom_83 : decode cX5_copyFrom 83 = .ok (.aload_n 0, 1) := by decide +kernel
theorem dX5_copyFrom_84 : decode cX5_copyFrom 84 = .ok (.aload_n 1, 1) := by decide +kernel
theorem dX5_copyFrom_85 : decode cX5_copyFrom 85 = .ok (.getfield 53, 3) := by decide +kernel
theorem dX5_copyFrom_88 : decode cX5_copyFrom 88 = .ok (.putfield 53, 3) := by decide +kernel
theorem dX5_copyFrom_91 : decode cX5_copyFrom 91 = .ok (.aload_n 0, 1) := by decide +kernel
theorem dX5_copyFrom_92 : decode cX5_copyFrom 92 = .ok (.aload_n 1, 1) := by decide +kernel
theorem dX5_copyFrom_93 : decode cX5_copyFrom 93 = .ok (.getfield 56, 3) := by decide +kernel
theorem dX5_copyFrom_96 : decode cX5_copyFrom 96 = .ok (.putfield 56, 3) := by decide +kernel
theorem dX5_copyFrom_99 : decode cX5_copyFrom 99 = .ok (.aload_n 0, 1) := by decide +kernel
theorem dX5_copyFrom_100 : decode cX5_copyFrom 100 = .ok (.aload_n 1, 1) := by decide +kernel
theorem dX5_copyFrom_101 : decode cX5_copyFrom 101 = .ok (.getfield 59, 3) := by decide +kernel
theorem dX5_copyFrom_104 : decode cX5_copyFrom 104 = .ok (.putfield 59, 3) := by decide +kernel
theorem dX5_copyFrom_107 : decode cX5_copyFrom 107 = .ok (.return_, 1) := by decide +kernel
set_option maxRecDepth 20000 in
theorem ggX5_issue_X7_copyFrom : GoodIn wsX5_issue wsX7_copyFrom := goodIn_r _ [19, 20, 21, 22, 23, 24, 39, 40, 41, 42, 43] (by decide +kernel) (by decide +kernel)
set_option maxRecDepth 20000 in
theorem gX5_issue_X7_copyFrom : GoodIn wsX5_issue (wsV RX5 22 RX7 yX7_copyFrom wsX7_copyFrom) := goodIn_app (goodIn_of _ (by decide +kernel)) ggX5_issue_X7_copyFrom
theorem dX5_issue_0 : decode cX5_issue 0 = .ok (.aload_n 0, 1) := by decide +kernel
theorem dX5_issue_1 : decode cX5_issue 1 = .ok (.getfield 12, 3) := by decide +kernel
theorem dX5_issue_4 : decode cX5_issue 4 = .ok (.aload_n 1, 1) := by decide +kernel
theorem dX5_issue_5 : decode cX5_issue 5 = .ok (.invokevirtual 22, 3) := by decide +kernel
theorem dX5_issue_8 : decode cX5_issue 8 = .ok (.aload_n 0, 1) := by decide +kernel
theorem dX5_issue_9 : decode cX5_issue 9 = .ok (.aload_n 1, 1) := by decide +kernel
theorem dX5_issue_10 : decode cX5_issue 10 = .ok (.getfield 62, 3) := by decide +kernel
theorem dX5_issue_13 : decode cX5_issue 13 = .ok (.putfield 26, 3) := by decide +kernel
theorem dX5_issue_16 : decode cX5_issue 16 = .ok (.aload_n 0, 1) := by decide +kernel
theorem dX5_issue_17 : decode cX5_issue 17 = .ok (.iload_n 2, 1) := by decide +kernel
theorem dX5_issue_18 : decode cX5_issue 18 = .ok (.putfield 29, 3) := by decide +kernel
theorem dX5_issue_21 : decode cX5_issue 21 = .ok (.aload_n 0, 1) := by decide +kernel
theorem dX5_issue_22 : decode cX5_issue 22 = .ok (.iconst 0, 1) := by decide +kernel
theorem dX5_issue_23 : decode cX5_issue 23 = .ok (.putfield 32, 3) := by decide +kernel
theorem dX5_issue_26 : decode cX5_issue 26 = .ok (.aload_n 0, 1) := by decide +kernel
theorem dX5_issue_27 : decode cX5_issue 27 = .ok (.bipush (-5), 2) := by decide +kernel
theorem dX5_issue_29 : decode cX5_issue 29 = .ok (.putfield 35, 3) := by decide +kernel
theorem dX5_issue_32 : decode cX5_issue 32 = .ok (.aload_n 0, 1) := by decide +kernel
theorem dX5_issue_33 : decode cX5_issue 33 = .ok (.bipush (-5), 2) := by decide +kernel
theorem dX5_issue_35 : decode cX5_issue 35 = .ok (.putfield 38, 3) := by decide +kernel
theorem dX5_issue_38 : decode cX5_issue 38 = .ok (.aload_n 0, 1) := by decide +kernel
theorem dX5_issue_39 : decode cX5_issue 39 = .ok (.iload_n 3, 1) := by decide +kernel
theorem dX5_issue_40 : decode cX5_issue 40 = .ok (.putfield 41, 3) := by decide +kernel
theorem dX5_issue_43 : decode cX5_issue 43 = .ok (.aload_n 0, 1) := by decide +kernel
theorem dX5_issue_44 : decode cX5_issue 44 = .ok (.bipush (-5), 2) := by decide +kernel
theorem dX5_issue_46 : decode cX5_issue 46 = .ok (.putfield 44, 3) := by decide +kernel
theorem dX5_issue_49 : decode cX5_issue 49 = .ok (.aload_n 0, 1) := by decide +kernel
theorem dX5_issue_50 : decode cX5_issue 50 = .ok (.bipush (-5), 2) := by decide +kernel
theorem dX5_issue_52 : decode cX5_issue 52 = .ok (.putfield 47, 3) := by decide +kernel
theorem dX5_issue_55 : decode cX5_issue 55 = .ok (.aload_n 0, 1) := by decide +kernel
theorem dX5_issue_56 : decode cX5_issue 56 = .ok (.bipush (-5), 2) := by decide +kernel
theorem dX5_issue_58 : decode cX5_issue 58 = .ok (.putfield 50, 3) := by decide +kernel
theorem dX5_issue_61 : decode cX5_issue 61 = .ok (.aload_n 0, 1) := by decide +kernel
theorem dX5_issue_62 : decode cX5_issue 62 = .ok (.bipush (-5), 2) := by decide +kernel
theorem dX5_issue_64 : decode cX5_issue 64 = .ok (.putfield 53, 3) := by decide +kernel
theorem dX5_issue_67 : decode cX5_issue 67 = .ok (.aload_n 0, 1) := by decide +kernel
theorem dX5_issue_68 : decode cX5_issue 68 = .ok (.iload_n 3, 1) := by decide +kernel
theorem dX5_issue_69 : decode cX5_issue 69 = .ok (.putfield 56, 3) := by decide +kernel
theorem dX5_issue_72 : decode cX5_issue 72 = .ok (.aload_n 0, 1) := by decide +kernel
theorem dX5_issue_73 : decode cX5_issue 73 = .ok (.bipush (-5), 2) := by decide +kernel
theorem dX5_issue_75 : decode cX5_issue 75 = .ok (.putfield 59, 3) := by decide +kernel
theorem dX5_issue_78 : decode cX5_issue 78 = .ok (.return_, 1) := by decide +kernel
theorem dX5_hasEnded_0 : decode cX5_hasEnded 0 = .ok (.aload_n 0, 1) := by decide +kernel
theorem dX5_hasEnded_1 : decode cX5_hasEnded 1 = .ok (.getfield 32, 3) := by decide +kernel
theorem dX5_hasEnded_4 : decode cX5_hasEnded 4 = .ok (.iconst 3, 1) := by decide +kernel
theorem dX5_hasEnded_5 : decode cX5_hasEnded 5 = .ok (.if_icmp .lt 7, 3) := by decide +kernel
theorem dX5_hasEnded_8 : decode cX5_hasEnded 8 = .ok (.iconst 1, 1) := by decide +kernel
theorem dX5_hasEnded_9 : decode cX5_hasEnded 9 = .ok (.goto 4, 3) := by decide +kernel
theorem dX5_hasEnded_12 : decode cX5_hasEnded 12 = .ok (.iconst 0, 1) := by decide +kernel
theorem dX5_hasEnded_13 : decode cX5_hasEnded 13 = .ok (.ireturn, 1) := by decide +kernel
theorem dX5_queue_0 : decode cX5_queue 0 = .ok (.aload_n 0, 1) := by decide +kernel
theorem dX5_queue_1 : decode cX5_queue 1 = .ok (.getfield 32, 3) := by decide +kernel
theorem dX5_queue_4 : decode cX5_queue 4 = .ok (.ifCond .ne 11, 3) := by decide +kernel
theorem dX5_queue_7 : decode cX5_queue 7 = .ok (.aload_n 0, 1) := by decide +kernel
theorem dX5_queue_8 : decode cX5_queue 8 = .ok (.getfield 12, 3) := by decide +kernel
theorem dX5_queue_11 : decode cX5_queue 11 = .ok (.getfield 65, 3) := by decide +kernel
theorem dX5_queue_14 : decode cX5_queue 14 = .ok (.ireturn, 1) := by decide +kernel
theorem dX5_queue_15 : decode cX5_queue 15 = .ok (.aload_n 0, 1) := by decide +kernel
theorem dX5_queue_16 : decode cX5_queue 16 = .ok (.getfield 32, 3) := by decide +kernel
theorem dX5_queue_19 : decode cX5_queue 19 = .ok (.iconst 2, 1) := by decide +kernel
theorem dX5_queue_20 : decode cX5_queue 20 = .ok (.if_icmp .ne 13, 3) := by decide +kernel
theorem dX5_queue_23 : decode cX5_queue 23 = .ok (.bipush 20, 2) := by decide +kernel
theorem dX5_queue_25 : decode cX5_queue 25 = .ok (.aload_n 0, 1) := by decide +kernel
theorem dX5_queue_26 : decode cX5_queue 26 = .ok (.getfield 35, 3) := by decide +kernel
theorem dX5_queue_29 : decode cX5_queue 29 = .ok (.iadd, 1) := by decide +kernel
theorem dX5_queue_30 : decode cX5_queue 30 = .ok (.goto 5, 3) := by decide +kernel
theorem dX5_queue_33 : decode cX5_queue 33 = .ok (.bipush (-5), 2) := by decide +kernel
theorem dX5_queue_35 : decode cX5_queue 35 = .ok (.ireturn, 1) := by decide +kernel
theorem dX5_ride_0 : decode cX5_ride 0 = .ok (.aload_n 0, 1) := by decide +kernel
theorem dX5_ride_1 : decode cX5_ride 1 = .ok (.iconst 1, 1) := by decide +kernel
theorem dX5_ride_2 : decode cX5_ride 2 = .ok (.putfield 32, 3) := by decide +kernel
theorem dX5_ride_5 : decode cX5_ride 5 = .ok (.aload_n 0, 1) := by decide +kernel
theorem dX5_ride_6 : decode cX5_ride 6 = .ok (.aload_n 1, 1) := by decide +kernel
theorem dX5_ride_7 : decode cX5_ride 7 = .ok (.getfield 70, 3) := by decide +kernel
theorem dX5_ride_10 : decode cX5_ride 10 = .ok (.putfield 35, 3) := by decide +kernel
theorem dX5_ride_13 : decode cX5_ride 13 = .ok (.aload_n 0, 1) := by decide +kernel
theorem dX5_ride_14 : decode cX5_ride 14 = .ok (.iload_n 2, 1) := by decide +kernel
theorem dX5_ride_15 : decode cX5_ride 15 = .ok (.putfield 38, 3) := by decide +kernel
theorem dX5_ride_18 : decode cX5_ride 18 = .ok (.aload_n 0, 1) := by decide +kernel
theorem dX5_ride_19 : decode cX5_ride 19 = .ok (.aload_n 1, 1) := by decide +kernel
theorem dX5_ride_20 : decode cX5_ride 20 = .ok (.getfield 73, 3) := by decide +kernel
theorem dX5_ride_23 : decode cX5_ride 23 = .ok (.putfield 59, 3) := by decide +kernel
theorem dX5_ride_26 : decode cX5_ride 26 = .ok (.aload_n 0, 1) := by decide +kernel
theorem dX5_ride_27 : decode cX5_ride 27 = .ok (.getfield 44, 3) := by decide +kernel
theorem dX5_ride_30 : decode cX5_ride 30 = .ok (.bipush (-5), 2) := by decide +kernel
theorem dX5_ride_32 : decode cX5_ride 32 = .ok (.if_icmp .ne 8, 3) := by decide +kernel
theorem dX5_ride_35 : decode cX5_ride 35 = .ok (.aload_n 0, 1) := by decide +kernel
theorem dX5_ride_36 : decode cX5_ride 36 = .ok (.iload_n 3, 1) := by decide +kernel
theorem dX5_ride_37 : decode cX5_ride 37 = .ok (.putfield 44, 3) := by decide +kernel
theorem dX5_ride_40 : decode cX5_ride 40 = .ok (.return_, 1) := by decide +kernel
theorem dX5_enterHall_0 : decode cX5_enterHall 0 = .ok (.aload_n 0, 1) := by decide +kernel
theorem dX5_enterHall_1 : decode cX5_enterHall 1 = .ok (.iconst 2, 1) := by decide +kernel
theorem dX5_enterHall_2 : decode cX5_enterHall 2 = .ok (.putfield 32, 3) := by decide +kernel
theorem dX5_enterHall_5 : decode cX5_enterHall 5 = .ok (.aload_n 0, 1) := by decide +kernel
theorem dX5_enterHall_6 : decode cX5_enterHall 6 = .ok (.iload_n 1, 1) := by decide +kernel
theorem dX5_enterHall_7 : decode cX5_enterHall 7 = .ok (.putfield 35, 3) := by decide +kernel
theorem dX5_enterHall_10 : decode cX5_enterHall 10 = .ok (.aload_n 0, 1) := by decide +kernel
theorem dX5_enterHall_11 : decode cX5_enterHall 11 = .ok (.bipush (-5), 2) := by decide +kernel
theorem dX5_enterHall_13 : decode cX5_enterHall 13 = .ok (.putfield 38, 3) := by decide +kernel
theorem dX5_enterHall_16 : decode cX5_enterHall 16 = .ok (.aload_n 0, 1) := by decide +kernel
theorem dX5_enterHall_17 : decode cX5_enterHall 17 = .ok (.iload_n 2, 1) := by decide +kernel
theorem dX5_enterHall_18 : decode cX5_enterHall 18 = .ok (.putfield 56, 3) := by decide +kernel
theorem dX5_enterHall_21 : decode cX5_enterHall 21 = .ok (.return_, 1) := by decide +kernel
theorem dX5_finish_0 : decode cX5_finish 0 = .ok (.aload_n 0, 1) := by decide +kernel
theorem dX5_finish_1 : decode cX5_finish 1 = .ok (.iload_n 1, 1) := by decide +kernel
theorem dX5_finish_2 : decode cX5_finish 2 = .ok (.putfield 32, 3) := by decide +kernel
theorem dX5_finish_5 : decode cX5_finish 5 = .ok (.aload_n 0, 1) := by decide +kernel
theorem dX5_finish_6 : decode cX5_finish 6 = .ok (.bipush (-5), 2) := by decide +kernel
theorem dX5_finish_8 : decode cX5_finish 8 = .ok (.putfield 35, 3) := by decide +kernel
theorem dX5_finish_11 : decode cX5_finish 11 = .ok (.aload_n 0, 1) := by decide +kernel
theorem dX5_finish_12 : decode cX5_finish 12 = .ok (.bipush (-5), 2) := by decide +kernel
theorem dX5_finish_14 : decode cX5_finish 14 = .ok (.putfield 38, 3) := by decide +kernel
theorem dX5_finish_17 : decode cX5_finish 17 = .ok (.aload_n 0, 1) := by decide +kernel
theorem dX5_finish_18 : decode cX5_finish 18 = .ok (.iload_n 3, 1) := by decide +kernel
theorem dX5_finish_19 : decode cX5_finish 19 = .ok (.putfield 47, 3) := by decide +kernel
theorem dX5_finish_22 : decode cX5_finish 22 = .ok (.aload_n 0, 1) := by decide +kernel
theorem dX5_finish_23 : decode cX5_finish 23 = .ok (.iload_n 2, 1) := by decide +kernel
theorem dX5_finish_24 : decode cX5_finish 24 = .ok (.putfield 50, 3) := by decide +kernel
theorem dX5_finish_27 : decode cX5_finish 27 = .ok (.return_, 1) := by decide +kernel
set_option maxRecDepth 20000 in
theorem ggX2_init_X7_init : GoodIn wsX2_init wsX7_init := goodIn_r _ [9, 10, 2, 3] (by decide +kernel) (by decide +kernel)
set_option maxRecDepth 20000 in
theorem gX2_init_X7_init_n9 : GoodIn wsX2_init (wsX7_init) := ggX2_init_X7_init
theorem dX2_init_0 : decode cX2_init 0 = .ok (.aload_n 0, 1) := by decide +kernel
theorem dX2_init_1 : decode cX2_init 1 = .ok (.invokespecial 1, 3) := by decide +kernel
theorem dX2_init_4 : decode cX2_init 4 = .ok (.aload_n 0, 1) := by decide +kernel
theorem dX2_init_5 : decode cX2_init 5 = .ok (.new 7, 3) := by decide +kernel
theorem dX2_init_8 : decode cX2_init 8 = .ok (.dup, 1) := by decide +kernel
theorem dX2_init_9 : decode cX2_init 9 = .ok (.invokespecial 9, 3) := by decide +kernel
theorem dX2_init_12 : decode cX2_init 12 = .ok (.putfield 10, 3) := by decide +kernel
theorem dX2_init_15 : decode cX2_init 15 = .ok (.return_, 1) := by decide +kernel
set_option maxRecDepth 20000 in
theorem ggX2_copyFrom_X7_copyFrom : GoodIn wsX2_copyFrom wsX7_copyFrom := goodIn_r _ [11, 12, 13, 14, 15, 16, 23, 24, 25, 26, 27] (by decide +kernel) (by decide +kernel)
set_option maxRecDepth 20000 in
theorem gX2_copyFrom_X7_copyFrom : GoodIn wsX2_copyFrom (wsV RX2 16 RX7 yX7_copyFrom wsX7_copyFrom) := goodIn_app (goodIn_of _ (by decide +kernel)) ggX2_copyFrom_X7_copyFrom
theorem dX2_copyFrom_0 : decode cX2_copyFrom 0 = .ok (.aload_n 0, 1) := by decide +kernel
theorem dX2_copyFrom_1 : decode cX2_copyFrom 1 = .ok (.getfield 10, 3) := by decide +kernel
theorem dX2_copyFrom_4 : decode cX2_copyFrom 4 = .ok (.aload_n 1, 1) := by decide +kernel
theorem dX2_copyFrom_5 : decode cX2_copyFrom 5 = .ok (.getfield 10, 3) := by decide +kernel
theorem dX2_copyFrom_8 : decode cX2_copyFrom 8 = .ok (.invokevirtual 16, 3) := by decide +kernel
theorem dX2_copyFrom_11 : decode cX2_copyFrom 11 = .ok (.aload_n 0, 1) := by decide +kernel
theorem dX2_copyFrom_12 : decode cX2_copyFrom 12 = .ok (.aload_n 1, 1) := by decide +kernel
theorem dX2_copyFrom_13 : decode cX2_copyFrom 13 = .ok (.getfield 20, 3) := by decide +kernel
theorem dX2_copyFrom_16 : decode cX2_copyFrom 16 = .ok (.putfield 20, 3) := by decide +kernel
theorem dX2_copyFrom_19 : decode cX2_copyFrom 19 = .ok (.aload_n 0, 1) := by decide +kernel
theorem dX2_copyFrom_20 : decode cX2_copyFrom 20 = .ok (.aload_n 1, 1) := by decide +kernel
theorem dX2_copyFrom_21 : decode cX2_copyFrom 21 = .ok (.getfield 24, 3) := by decide +kernel
theorem dX2_copyFrom_24 : decode cX2_copyFrom 24 = .ok (.putfield 24, 3) := by decide +kernel
theorem dX2_copyFrom_27 : decode cX2_copyFrom 27 = .ok (.aload_n 0, 1) := by decide +kernel
theorem dX2_copyFrom_28 : decode cX2_copyFrom 28 = .ok (.aload_n 1, 1) := by decide +kernel
theorem dX2_copyFrom_29 : decode cX2_copyFrom 29 = .ok (.getfield 27, 3) := by decide +kernel
theorem dX2_copyFrom_32 : decode cX2_copyFrom 32 = .ok (.putfield 27, 3) := by decide +kernel
theorem dX2_copyFrom_35 : decode cX2_copyFrom 35 = .ok (.aload_n 0, 1) := by decide +kernel
theorem dX2_copyFrom_36 : decode cX2_copyFrom 36 = .ok (.aload_n 1, 1) := by decide +kernel
theorem dX2_copyFrom_37 : decode cX2_copyFrom 37 = .ok (.getfield 30, 3) := by decide +kernel
theorem dX2_copyFrom_40 : decode cX2_copyFrom 40 = .ok (.putfield 30, 3) := by decide +kernel
theorem dX2_copyFrom_43 : decode cX2_copyFrom 43 = .ok (.aload_n 0, 1) := by decide +kernel
theorem dX2_copyFrom_44 : decode cX2_copyFrom 44 = .ok (.aload_n 1, 1) := by decide +kernel
theorem dX2_copyFrom_45 : decode cX2_copyFrom 45 = .ok (.getfield 33, 3) := by decide +kernel
theorem dX2_copyFrom_48 : decode cX2_copyFrom 48 = .ok (.putfield 33, 3) := by decide +kernel
theorem dX2_copyFrom_51 : decode cX2_copyFrom 51 = .ok (.return_, 1) := by decide +kernel
set_option maxRecDepth 20000 in
theorem ggX2_give_X7_copyFrom : GoodIn wsX2_give wsX7_copyFrom := goodIn_r _ [11, 12, 13, 14, 15, 16, 23, 24, 25, 26, 27] (by decide +kernel) (by decide +kernel)
set_option maxRecDepth 20000 in
theorem gX2_give_X7_copyFrom : GoodIn wsX2_give (wsV RX2 16 RX7 yX7_copyFrom wsX7_copyFrom) := goodIn_app (goodIn_of _ (by decide +kernel)) ggX2_give_X7_copyFrom
theorem dX2_give_0 : decode cX2_give 0 = .ok (.aload_n 0, 1) := by decide +kernel
theorem dX2_give_1 : decode cX2_give 1 = .ok (.getfield 10, 3) := by decide +kernel
theorem dX2_give_4 : decode cX2_give 4 = .ok (.aload_n 1, 1) := by decide +kernel
theorem dX2_give_5 : decode cX2_give 5 = .ok (.invokevirtual 16, 3) := by decide +kernel
theorem dX2_give_8 : decode cX2_give 8 = .ok (.aload_n 0, 1) := by decide +kernel
theorem dX2_give_9 : decode cX2_give 9 = .ok (.iload_n 2, 1) := by decide +kernel
theorem dX2_give_10 : decode cX2_give 10 = .ok (.putfield 20, 3) := by decide +kernel
theorem dX2_give_13 : decode cX2_give 13 = .ok (.aload_n 0, 1) := by decide +kernel
theorem dX2_give_14 : decode cX2_give 14 = .ok (.iload_n 3, 1) := by decide +kernel
theorem dX2_give_15 : decode cX2_give 15 = .ok (.putfield 24, 3) := by decide +kernel
theorem dX2_give_18 : decode cX2_give 18 = .ok (.aload_n 0, 1) := by decide +kernel
theorem dX2_give_19 : decode cX2_give 19 = .ok (.iconst 0, 1) := by decide +kernel
theorem dX2_give_20 : decode cX2_give 20 = .ok (.putfield 27, 3) := by decide +kernel
theorem dX2_give_23 : decode cX2_give 23 = .ok (.aload_n 0, 1) := by decide +kernel
theorem dX2_give_24 : decode cX2_give 24 = .ok (.iconst 0, 1) := by decide +kernel
theorem dX2_give_25 : decode cX2_give 25 = .ok (.putfield 30, 3) := by decide +kernel
theorem dX2_give_28 : decode cX2_give 28 = .ok (.aload_n 0, 1) := by decide +kernel
theorem dX2_give_29 : decode cX2_give 29 = .ok (.iconst 0, 1) := by decide +kernel
theorem dX2_give_30 : decode cX2_give 30 = .ok (.putfield 33, 3) := by decide +kernel
theorem dX2_give_33 : decode cX2_give 33 = .ok (.return_, 1) := by decide +kernel
theorem dX2_isDue_0 : decode cX2_isDue 0 = .ok (.aload_n 0, 1) := by decide +kernel
theorem dX2_isDue_1 : decode cX2_isDue 1 = .ok (.getfield 33, 3) := by decide +kernel
theorem dX2_isDue_4 : decode cX2_isDue 4 = .ok (.ifCond .ne 28, 3) := by decide +kernel
theorem dX2_isDue_7 : decode cX2_isDue 7 = .ok (.aload_n 0, 1) := by decide +kernel
theorem dX2_isDue_8 : decode cX2_isDue 8 = .ok (.getfield 20, 3) := by decide +kernel
theorem dX2_isDue_11 : decode cX2_isDue 11 = .ok (.ifCond .le 21, 3) := by decide +kernel
theorem dX2_isDue_14 : decode cX2_isDue 14 = .ok (.iload_n 1, 1) := by decide +kernel
theorem dX2_isDue_15 : decode cX2_isDue 15 = .ok (.aload_n 0, 1) := by decide +kernel
theorem dX2_isDue_16 : decode cX2_isDue 16 = .ok (.getfield 24, 3) := by decide +kernel
theorem dX2_isDue_19 : decode cX2_isDue 19 = .ok (.isub, 1) := by decide +kernel
theorem dX2_isDue_20 : decode cX2_isDue 20 = .ok (.aload_n 0, 1) := by decide +kernel
theorem dX2_isDue_21 : decode cX2_isDue 21 = .ok (.getfield 20, 3) := by decide +kernel
theorem dX2_isDue_24 : decode cX2_isDue 24 = .ok (.irem, 1) := by decide +kernel
theorem dX2_isDue_25 : decode cX2_isDue 25 = .ok (.ifCond .ne 7, 3) := by decide +kernel
theorem dX2_isDue_28 : decode cX2_isDue 28 = .ok (.iconst 1, 1) := by decide +kernel
theorem dX2_isDue_29 : decode cX2_isDue 29 = .ok (.goto 4, 3) := by decide +kernel
theorem dX2_isDue_32 : decode cX2_isDue 32 = .ok (.iconst 0, 1) := by decide +kernel
theorem dX2_isDue_33 : decode cX2_isDue 33 = .ok (.ireturn, 1) := by decide +kernel
theorem dX4_init_0 : decode cX4_init 0 = .ok (.aload_n 0, 1) := by decide +kernel
theorem dX4_init_1 : decode cX4_init 1 = .ok (.invokespecial 3, 3) := by decide +kernel
theorem dX4_init_4 : decode cX4_init 4 = .ok (.aload_n 0, 1) := by decide +kernel
theorem dX4_init_5 : decode cX4_init 5 = .ok (.iconst 3, 1) := by decide +kernel
theorem dX4_init_6 : decode cX4_init 6 = .ok (.newarray .int, 2) := by decide +kernel
theorem dX4_init_8 : decode cX4_init 8 = .ok (.putfield 11, 3) := by decide +kernel
theorem dX4_init_11 : decode cX4_init 11 = .ok (.aload_n 0, 1) := by decide +kernel
theorem dX4_init_12 : decode cX4_init 12 = .ok (.iload_n 1, 1) := by decide +kernel
theorem dX4_init_13 : decode cX4_init 13 = .ok (.putfield 15, 3) := by decide +kernel
theorem dX4_init_16 : decode cX4_init 16 = .ok (.aload_n 0, 1) := by decide +kernel
theorem dX4_init_17 : decode cX4_init 17 = .ok (.bipush 10, 2) := by decide +kernel
theorem dX4_init_19 : decode cX4_init 19 = .ok (.iload_n 1, 1) := by decide +kernel
theorem dX4_init_20 : decode cX4_init 20 = .ok (.imul, 1) := by decide +kernel
theorem dX4_init_21 : decode cX4_init 21 = .ok (.iload_n 2, 1) := by decide +kernel
theorem dX4_init_22 : decode cX4_init 22 = .ok (.iadd, 1) := by decide +kernel
theorem dX4_init_23 : decode cX4_init 23 = .ok (.putfield 19, 3) := by decide +kernel
theorem dX4_init_26 : decode cX4_init 26 = .ok (.aload_n 0, 1) := by decide +kernel
theorem dX4_init_27 : decode cX4_init 27 = .ok (.iload_n 2, 1) := by decide +kernel
theorem dX4_init_28 : decode cX4_init 28 = .ok (.ifCond .ne 7, 3) := by decide +kernel
theorem dX4_init_31 : decode cX4_init 31 = .ok (.iconst 1, 1) := by decide +kernel
theorem dX4_init_32 : decode cX4_init 32 = .ok (.goto 4, 3) := by decide +kernel
theorem dX4_init_35 : decode cX4_init 35 = .ok (.iconst 0, 1) := by decide +kernel
theorem dX4_init_36 : decode cX4_init 36 = .ok (.putfield 22, 3) := by decide +kernel
theorem dX4_init_39 : decode cX4_init 39 = .ok (.return_, 1) := by decide +kernel
theorem dX4_copyFrom_0 : decode cX4_copyFrom 0 = .ok (.aload_n 1, 1) := by decide +kernel
theorem dX4_copyFrom_1 : decode cX4_copyFrom 1 = .ok (.getfield 11, 3) := by decide +kernel
theorem dX4_copyFrom_4 : decode cX4_copyFrom 4 = .ok (.iconst 0, 1) := by decide +kernel
theorem dX4_copyFrom_5 : decode cX4_copyFrom 5 = .ok (.aload_n 0, 1) := by decide +kernel
theorem dX4_copyFrom_6 : decode cX4_copyFrom 6 = .ok (.getfield 11, 3) := by decide +kernel
theorem dX4_copyFrom_9 : decode cX4_copyFrom 9 = .ok (.iconst 0, 1) := by decide +kernel
theorem dX4_copyFrom_10 : decode cX4_copyFrom 10 = .ok (.iconst 3, 1) := by decide +kernel
theorem dX4_copyFrom_11 : decode cX4_copyFrom 11 = .ok (.invokestatic 26, 3) := by decide +kernel
theorem dX4_copyFrom_14 : decode cX4_copyFrom 14 = .ok (.aload_n 0, 1) := by decide +kernel
theorem dX4_copyFrom_15 : decode cX4_copyFrom 15 = .ok (.aload_n 1, 1) := by decide +kernel
theorem dX4_copyFrom_16 : decode cX4_copyFrom 16 = .ok (.getfield 32, 3) := by decide +kernel
theorem dX4_copyFrom_19 : decode cX4_copyFrom 19 = .ok (.putfield 32, 3) := by decide +kernel
theorem dX4_copyFrom_22 : decode cX4_copyFrom 22 = .ok (.aload_n 0, 1) := by decide +kernel
theorem dX4_copyFrom_23 : decode cX4_copyFrom 23 = .ok (.aload_n 1, 1) := by decide +kernel
theorem dX4_copyFrom_24 : decode cX4_copyFrom 24 = .ok (.getfield 35, 3) := by decide +kernel
theorem dX4_copyFrom_27 : decode cX4_copyFrom 27 = .ok (.putfield 35, 3) := by decide +kernel
theorem dX4_copyFrom_30 : decode cX4_copyFrom 30 = .ok (.aload_n 0, 1) := by decide +kernel
theorem dX4_copyFrom_31 : decode cX4_copyFrom 31 = .ok (.aload_n 1, 1) := by decide +kernel
theorem dX4_copyFrom_32 : decode cX4_copyFrom 32 = .ok (.getfield 38, 3) := by decide +kernel
theorem dX4_copyFrom_35 : decode cX4_copyFrom 35 = .ok (.putfield 38, 3) := by decide +kernel
theorem dX4_copyFrom_38 : decode cX4_copyFrom 38 = .ok (.aload_n 0, 1) := by decide +kernel
theorem dX4_copyFrom_39 : decode cX4_copyFrom 39 = .ok (.aload_n 1, 1) := by decide +kernel
theorem dX4_copyFrom_40 : decode cX4_copyFrom 40 = .ok (.getfield 41, 3) := by decide +kernel
theorem dX4_copyFrom_43 : decode cX4_copyFrom 43 = .ok (.putfield 41, 3) := by decide +kernel
theorem dX4_copyFrom_46 : decode cX4_copyFrom 46 = .ok (.aload_n 0, 1) := by decide +kernel
theorem dX4_copyFrom_47 : decode cX4_copyFrom 47 = .ok (.aload_n 1, 1) := by decide +kernel
theorem dX4_copyFrom_48 : decode cX4_copyFrom 48 = .ok (.getfield 44, 3) := by decide +kernel
theorem dX4_copyFrom_51 : decode cX4_copyFrom 51 = .ok (.putfield 44, 3) := by decide +kernel
theorem dX4_copyFrom_54 : decode cX4_copyFrom 54 = .ok (.aload_n 0, 1) := by decide +kernel
theorem dX4_copyFrom_55 : decode cX4_copyFrom 55 = .ok (.aload_n 1, 1) := by decide +kernel
theorem dX4_copyFrom_56 : decode cX4_copyFrom 56 = .ok (.getfield 47, 3) := by decide +kernel
theorem dX4_copyFrom_59 : decode cX4_copyFrom 59 = .ok (.putfield 47, 3) := by decide +kernel
theorem dX4_copyFrom_62 : decode cX4_copyFrom 62 = .ok (.return_, 1) := by decide +kernel
theorem dX4_open_0 : decode cX4_open 0 = .ok (.aload_n 0, 1) := by decide +kernel
theorem dX4_open_1 : decode cX4_open 1 = .ok (.iload_n 1, 1) := by decide +kernel
theorem dX4_open_2 : decode cX4_open 2 = .ok (.putfield 35, 3) := by decide +kernel
theorem dX4_open_5 : decode cX4_open 5 = .ok (.aload_n 0, 1) := by decide +kernel
theorem dX4_open_6 : decode cX4_open 6 = .ok (.iconst 0, 1) := by decide +kernel
theorem dX4_open_7 : decode cX4_open 7 = .ok (.putfield 32, 3) := by decide +kernel
theorem dX4_open_10 : decode cX4_open 10 = .ok (.aload_n 0, 1) := by decide +kernel
theorem dX4_open_11 : decode cX4_open 11 = .ok (.iconst 0, 1) := by decide +kernel
theorem dX4_open_12 : decode cX4_open 12 = .ok (.putfield 38, 3) := by decide +kernel
theorem dX4_open_15 : decode cX4_open 15 = .ok (.aload_n 0, 1) := by decide +kernel
theorem dX4_open_16 : decode cX4_open 16 = .ok (.iconst 0, 1) := by decide +kernel
theorem dX4_open_17 : decode cX4_open 17 = .ok (.putfield 41, 3) := by decide +kernel
theorem dX4_open_20 : decode cX4_open 20 = .ok (.aload_n 0, 1) := by decide +kernel
theorem dX4_open_21 : decode cX4_open 21 = .ok (.iconst 0, 1) := by decide +kernel
theorem dX4_open_22 : decode cX4_open 22 = .ok (.putfield 44, 3) := by decide +kernel
theorem dX4_open_25 : decode cX4_open 25 = .ok (.aload_n 0, 1) := by decide +kernel
theorem dX4_open_26 : decode cX4_open 26 = .ok (.iconst 0, 1) := by decide +kernel
theorem dX4_open_27 : decode cX4_open 27 = .ok (.putfield 47, 3) := by decide +kernel
theorem dX4_open_30 : decode cX4_open 30 = .ok (.return_, 1) := by decide +kernel
theorem dX4_callAt_0 : decode cX4_callAt 0 = .ok (.iload_n 1, 1) := by decide +kernel
theorem dX4_callAt_1 : decode cX4_callAt 1 = .ok (.ifCond .lt 24, 3) := by decide +kernel
theorem dX4_callAt_4 : decode cX4_callAt 4 = .ok (.iload_n 1, 1) := by decide +kernel
theorem dX4_callAt_5 : decode cX4_callAt 5 = .ok (.aload_n 0, 1) := by decide +kernel
theorem dX4_callAt_6 : decode cX4_callAt 6 = .ok (.getfield 32, 3) := by decide +kernel
theorem dX4_callAt_9 : decode cX4_callAt 9 = .ok (.if_icmp .ge 16, 3) := by decide +kernel
theorem dX4_callAt_12 : decode cX4_callAt 12 = .ok (.iload_n 1, 1) := by decide +kernel
theorem dX4_callAt_13 : decode cX4_callAt 13 = .ok (.aload_n 0, 1) := by decide +kernel
theorem dX4_callAt_14 : decode cX4_callAt 14 = .ok (.getfield 11, 3) := by decide +kernel
theorem dX4_callAt_17 : decode cX4_callAt 17 = .ok (.arraylength, 1) := by decide +kernel
theorem dX4_callAt_18 : decode cX4_callAt 18 = .ok (.if_icmp .ge 7, 3) := by decide +kernel
theorem dX4_callAt_21 : decode cX4_callAt 21 = .ok (.iconst 1, 1) := by decide +kernel
theorem dX4_callAt_22 : decode cX4_callAt 22 = .ok (.goto 4, 3) := by decide +kernel
theorem dX4_callAt_25 : decode cX4_callAt 25 = .ok (.iconst 0, 1) := by decide +kernel
theorem dX4_callAt_26 : decode cX4_callAt 26 = .ok (.istore_n 2, 1) := by decide +kernel
theorem dX4_callAt_27 : decode cX4_callAt 27 = .ok (.iload_n 2, 1) := by decide +kernel
theorem dX4_callAt_28 : decode cX4_callAt 28 = .ok (.ifCond .eq 12, 3) := by decide +kernel
theorem dX4_callAt_31 : decode cX4_callAt 31 = .ok (.aload_n 0, 1) := by decide +kernel
theorem dX4_callAt_32 : decode cX4_callAt 32 = .ok (.getfield 11, 3) := by decide +kernel
theorem dX4_callAt_35 : decode cX4_callAt 35 = .ok (.iload_n 1, 1) := by decide +kernel
theorem dX4_callAt_36 : decode cX4_callAt 36 = .ok (.iaload, 1) := by decide +kernel
theorem dX4_callAt_37 : decode cX4_callAt 37 = .ok (.goto 5, 3) := by decide +kernel
theorem dX4_callAt_40 : decode cX4_callAt 40 = .ok (.bipush (-5), 2) := by decide +kernel
theorem dX4_callAt_42 : decode cX4_callAt 42 = .ok (.ireturn, 1) := by decide +kernel
set_option maxRecDepth 20000 in
theorem ggX4_addCall_X8_within : GoodIn wsX4_addCall wsX8_within := goodIn_r _ [5] (by decide +kernel) (by decide +kernel)
set_option maxRecDepth 20000 in
theorem gX4_addCall_X8_within_n50 : GoodIn wsX4_addCall (wsX8_within) := ggX4_addCall_X8_within
theorem dX4_addCall_0 : decode cX4_addCall 0 = .ok (.aload_n 0, 1) := by decide +kernel
theorem dX4_addCall_1 : decode cX4_addCall 1 = .ok (.getfield 32, 3) := by decide +kernel
theorem dX4_addCall_4 : decode cX4_addCall 4 = .ok (.iconst 0, 1) := by decide +kernel
theorem dX4_addCall_5 : decode cX4_addCall 5 = .ok (.aload_n 0, 1) := by decide +kernel
theorem dX4_addCall_6 : decode cX4_addCall 6 = .ok (.getfield 11, 3) := by decide +kernel
theorem dX4_addCall_9 : decode cX4_addCall 9 = .ok (.arraylength, 1) := by decide +kernel
theorem dX4_addCall_10 : decode cX4_addCall 10 = .ok (.iconst 1, 1) := by decide +kernel
theorem dX4_addCall_11 : decode cX4_addCall 11 = .ok (.isub, 1) := by decide +kernel
theorem dX4_addCall_12 : decode cX4_addCall 12 = .ok (.invokestatic 50, 3) := by decide +kernel
theorem dX4_addCall_15 : decode cX4_addCall 15 = .ok (.ifCond .eq 23, 3) := by decide +kernel
theorem dX4_addCall_18 : decode cX4_addCall 18 = .ok (.aload_n 0, 1) := by decide +kernel
theorem dX4_addCall_19 : decode cX4_addCall 19 = .ok (.getfield 11, 3) := by decide +kernel
theorem dX4_addCall_22 : decode cX4_addCall 22 = .ok (.aload_n 0, 1) := by decide +kernel
theorem dX4_addCall_23 : decode cX4_addCall 23 = .ok (.getfield 32, 3) := by decide +kernel
theorem dX4_addCall_26 : decode cX4_addCall 26 = .ok (.iload_n 1, 1) := by decide +kernel
theorem dX4_addCall_27 : decode cX4_addCall 27 = .ok (.iastore, 1) := by decide +kernel
theorem dX4_addCall_28 : decode cX4_addCall 28 = .ok (.aload_n 0, 1) := by decide +kernel
theorem dX4_addCall_29 : decode cX4_addCall 29 = .ok (.dup, 1) := by decide +kernel
theorem dX4_addCall_30 : decode cX4_addCall 30 = .ok (.getfield 32, 3) := by decide +kernel
theorem dX4_addCall_33 : decode cX4_addCall 33 = .ok (.iconst 1, 1) := by decide +kernel
theorem dX4_addCall_34 : decode cX4_addCall 34 = .ok (.iadd, 1) := by decide +kernel
theorem dX4_addCall_35 : decode cX4_addCall 35 = .ok (.putfield 32, 3) := by decide +kernel
theorem dX4_addCall_38 : decode cX4_addCall 38 = .ok (.aload_n 0, 1) := by decide +kernel
theorem dX4_addCall_39 : decode cX4_addCall 39 = .ok (.getfield 32, 3) := by decide +kernel
theorem dX4_addCall_42 : decode cX4_addCall 42 = .ok (.ireturn, 1) := by decide +kernel
theorem dX4_removeCall_0 : decode cX4_removeCall 0 = .ok (.iload_n 1, 1) := by decide +kernel
theorem dX4_removeCall_1 : decode cX4_removeCall 1 = .ok (.ifCond .lt 11, 3) := by decide +kernel
theorem dX4_removeCall_4 : decode cX4_removeCall 4 = .ok (.iload_n 1, 1) := by decide +kernel
theorem dX4_removeCall_5 : decode cX4_removeCall 5 = .ok (.aload_n 0, 1) := by decide +kernel
theorem dX4_removeCall_6 : decode cX4_removeCall 6 = .ok (.getfield 32, 3) := by decide +kernel
theorem dX4_removeCall_9 : decode cX4_removeCall 9 = .ok (.if_icmp .lt 4, 3) := by decide +kernel
theorem dX4_removeCall_12 : decode cX4_removeCall 12 = .ok (.return_, 1) := by decide +kernel
theorem dX4_removeCall_13 : decode cX4_removeCall 13 = .ok (.iload_n 1, 1) := by decide +kernel
theorem dX4_removeCall_14 : decode cX4_removeCall 14 = .ok (.istore_n 2, 1) := by decide +kernel
theorem dX4_removeCall_15 : decode cX4_removeCall 15 = .ok (.iload_n 2, 1) := by decide +kernel
theorem dX4_removeCall_16 : decode cX4_removeCall 16 = .ok (.iconst 1, 1) := by decide +kernel
theorem dX4_removeCall_17 : decode cX4_removeCall 17 = .ok (.iadd, 1) := by decide +kernel
theorem dX4_removeCall_18 : decode cX4_removeCall 18 = .ok (.aload_n 0, 1) := by decide +kernel
theorem dX4_removeCall_19 : decode cX4_removeCall 19 = .ok (.getfield 32, 3) := by decide +kernel
theorem dX4_removeCall_22 : decode cX4_removeCall 22 = .ok (.if_icmp .ge 34, 3) := by decide +kernel
theorem dX4_removeCall_25 : decode cX4_removeCall 25 = .ok (.iload_n 2, 1) := by decide +kernel
theorem dX4_removeCall_26 : decode cX4_removeCall 26 = .ok (.iconst 1, 1) := by decide +kernel
theorem dX4_removeCall_27 : decode cX4_removeCall 27 = .ok (.iadd, 1) := by decide +kernel
theorem dX4_removeCall_28 : decode cX4_removeCall 28 = .ok (.aload_n 0, 1) := by decide +kernel
theorem dX4_removeCall_29 : decode cX4_removeCall 29 = .ok (.getfield 11, 3) := by decide +kernel
theorem dX4_removeCall_32 : decode cX4_removeCall 32 = .ok (.arraylength, 1) := by decide +kernel
theorem dX4_removeCall_33 : decode cX4_removeCall 33 = .ok (.if_icmp .ge 23, 3) := by decide +kernel
theorem dX4_removeCall_36 : decode cX4_removeCall 36 = .ok (.aload_n 0, 1) := by decide +kernel
theorem dX4_removeCall_37 : decode cX4_removeCall 37 = .ok (.getfield 11, 3) := by decide +kernel
theorem dX4_removeCall_40 : decode cX4_removeCall 40 = .ok (.iload_n 2, 1) := by decide +kernel
theorem dX4_removeCall_41 : decode cX4_removeCall 41 = .ok (.aload_n 0, 1) := by decide +kernel
theorem dX4_removeCall_42 : decode cX4_removeCall 42 = .ok (.getfield 11, 3) := by decide +kernel
theorem dX4_removeCall_45 : decode cX4_removeCall 45 = .ok (.iload_n 2, 1) := by decide +kernel
theorem dX4_removeCall_46 : decode cX4_removeCall 46 = .ok (.iconst 1, 1) := by decide +kernel
theorem dX4_removeCall_47 : decode cX4_removeCall 47 = .ok (.iadd, 1) := by decide +kernel
theorem dX4_removeCall_48 : decode cX4_removeCall 48 = .ok (.iaload, 1) := by decide +kernel
theorem dX4_removeCall_49 : decode cX4_removeCall 49 = .ok (.iastore, 1) := by decide +kernel
theorem dX4_removeCall_50 : decode cX4_removeCall 50 = .ok (.iinc 2 1, 3) := by decide +kernel
theorem dX4_removeCall_53 : decode cX4_removeCall 53 = .ok (.goto (-38), 3) := by decide +kernel
theorem dX4_removeCall_56 : decode cX4_removeCall 56 = .ok (.aload_n 0, 1) := by decide +kernel
theorem dX4_removeCall_57 : decode cX4_removeCall 57 = .ok (.dup, 1) := by decide +kernel
theorem dX4_removeCall_58 : decode cX4_removeCall 58 = .ok (.getfield 32, 3) := by decide +kernel
theorem dX4_removeCall_61 : decode cX4_removeCall 61 = .ok (.iconst 1, 1) := by decide +kernel
theorem dX4_removeCall_62 : decode cX4_removeCall 62 = .ok (.isub, 1) := by decide +kernel
theorem dX4_removeCall_63 : decode cX4_removeCall 63 = .ok (.putfield 32, 3) := by decide +kernel
theorem dX4_removeCall_66 : decode cX4_removeCall 66 = .ok (.return_, 1) := by decide +kernel
set_option maxRecDepth 20000 in
theorem ggX4_takeCall_X4_callAt : GoodIn wsX4_takeCall wsX4_callAt := goodIn_r _ [6, 1, 7, 12, 13, 14, 15, 16, 17, 18, 19, 20, 21] (by decide +kernel) (by decide +kernel)
set_option maxRecDepth 20000 in
theorem gX4_takeCall_X4_callAt : GoodIn wsX4_takeCall (wsV RX4 54 RX4 yX4_callAt wsX4_callAt) := goodIn_app (goodIn_of _ (by decide +kernel)) ggX4_takeCall_X4_callAt
set_option maxRecDepth 20000 in
theorem ggX4_takeCall_X4_removeCall : GoodIn wsX4_takeCall wsX4_removeCall := goodIn_r _ [11, 1, 7, 12, 13, 14, 15, 16, 17, 18, 19, 20, 21] (by decide +kernel) (by decide +kernel)
set_option maxRecDepth 20000 in
theorem gX4_takeCall_X4_removeCall : GoodIn wsX4_takeCall (wsV RX4 58 RX4 yX4_removeCall wsX4_removeCall) := goodIn_app (goodIn_of _ (by decide +kernel)) ggX4_takeCall_X4_removeCall
theorem dX4_takeCall_0 : decode cX4_takeCall 0 = .ok (.iconst 0, 1) := by decide +kernel
theorem dX4_takeCall_1 : decode cX4_takeCall 1 = .ok (.istore_n 2, 1) := by decide +kernel
theorem dX4_takeCall_2 : decode cX4_takeCall 2 = .ok (.iload_n 2, 1) := by decide +kernel
theorem dX4_takeCall_3 : decode cX4_takeCall 3 = .ok (.aload_n 0, 1) := by decide +kernel
theorem dX4_takeCall_4 : decode cX4_takeCall 4 = .ok (.getfield 32, 3) := by decide +kernel
theorem dX4_takeCall_7 : decode cX4_takeCall 7 = .ok (.if_icmp .ge 25, 3) := by decide +kernel
theorem dX4_takeCall_10 : decode cX4_takeCall 10 = .ok (.aload_n 0, 1) := by decide +kernel
theorem dX4_takeCall_11 : decode cX4_takeCall 11 = .ok (.iload_n 2, 1) := by decide +kernel
theorem dX4_takeCall_12 : decode cX4_takeCall 12 = .ok (.invokevirtual 54, 3) := by decide +kernel
theorem dX4_takeCall_15 : decode cX4_takeCall 15 = .ok (.iload_n 1, 1) := by decide +kernel
theorem dX4_takeCall_16 : decode cX4_takeCall 16 = .ok (.if_icmp .ne 10, 3) := by decide +kernel
theorem dX4_takeCall_19 : decode cX4_takeCall 19 = .ok (.aload_n 0, 1) := by decide +kernel
theorem dX4_takeCall_20 : decode cX4_takeCall 20 = .ok (.iload_n 2, 1) := by decide +kernel
theorem dX4_takeCall_21 : decode cX4_takeCall 21 = .ok (.invokevirtual 58, 3) := by decide +kernel
theorem dX4_takeCall_24 : decode cX4_takeCall 24 = .ok (.iconst 1, 1) := by decide +kernel
theorem dX4_takeCall_25 : decode cX4_takeCall 25 = .ok (.ireturn, 1) := by decide +kernel
theorem dX4_takeCall_26 : decode cX4_takeCall 26 = .ok (.iinc 2 1, 3) := by decide +kernel
theorem dX4_takeCall_29 : decode cX4_takeCall 29 = .ok (.goto (-27), 3) := by decide +kernel
theorem dX4_takeCall_32 : decode cX4_takeCall 32 = .ok (.iconst 0, 1) := by decide +kernel
theorem dX4_takeCall_33 : decode cX4_takeCall 33 = .ok (.ireturn, 1) := by decide +kernel
theorem dX1_init_0 : decode cX1_init 0 = .ok (.aload_n 0, 1) := by decide +kernel
theorem dX1_init_1 : decode cX1_init 1 = .ok (.invokespecial 3, 3) := by decide +kernel
theorem dX1_init_4 : decode cX1_init 4 = .ok (.aload_n 0, 1) := by decide +kernel
theorem dX1_init_5 : decode cX1_init 5 = .ok (.bipush 60, 2) := by decide +kernel
theorem dX1_init_7 : decode cX1_init 7 = .ok (.newarray .int, 2) := by decide +kernel
theorem dX1_init_9 : decode cX1_init 9 = .ok (.putfield 11, 3) := by decide +kernel
theorem dX1_init_12 : decode cX1_init 12 = .ok (.return_, 1) := by decide +kernel
theorem dX1_copyFrom_0 : decode cX1_copyFrom 0 = .ok (.aload_n 1, 1) := by decide +kernel
theorem dX1_copyFrom_1 : decode cX1_copyFrom 1 = .ok (.getfield 11, 3) := by decide +kernel
theorem dX1_copyFrom_4 : decode cX1_copyFrom 4 = .ok (.iconst 0, 1) := by decide +kernel
theorem dX1_copyFrom_5 : decode cX1_copyFrom 5 = .ok (.aload_n 0, 1) := by decide +kernel
theorem dX1_copyFrom_6 : decode cX1_copyFrom 6 = .ok (.getfield 11, 3) := by decide +kernel
theorem dX1_copyFrom_9 : decode cX1_copyFrom 9 = .ok (.iconst 0, 1) := by decide +kernel
theorem dX1_copyFrom_10 : decode cX1_copyFrom 10 = .ok (.bipush 60, 2) := by decide +kernel
theorem dX1_copyFrom_12 : decode cX1_copyFrom 12 = .ok (.invokestatic 15, 3) := by decide +kernel
theorem dX1_copyFrom_15 : decode cX1_copyFrom 15 = .ok (.aload_n 0, 1) := by decide +kernel
theorem dX1_copyFrom_16 : decode cX1_copyFrom 16 = .ok (.aload_n 1, 1) := by decide +kernel
theorem dX1_copyFrom_17 : decode cX1_copyFrom 17 = .ok (.getfield 21, 3) := by decide +kernel
theorem dX1_copyFrom_20 : decode cX1_copyFrom 20 = .ok (.putfield 21, 3) := by decide +kernel
theorem dX1_copyFrom_23 : decode cX1_copyFrom 23 = .ok (.aload_n 0, 1) := by decide +kernel
theorem dX1_copyFrom_24 : decode cX1_copyFrom 24 = .ok (.aload_n 1, 1) := by decide +kernel
theorem dX1_copyFrom_25 : decode cX1_copyFrom 25 = .ok (.getfield 25, 3) := by decide +kernel
theorem dX1_copyFrom_28 : decode cX1_copyFrom 28 = .ok (.putfield 25, 3) := by decide +kernel
theorem dX1_copyFrom_31 : decode cX1_copyFrom 31 = .ok (.return_, 1) := by decide +kernel
theorem dX1_write_0 : decode cX1_write 0 = .ok (.aload_n 0, 1) := by decide +kernel
theorem dX1_write_1 : decode cX1_write 1 = .ok (.getfield 25, 3) := by decide +kernel
theorem dX1_write_4 : decode cX1_write 4 = .ok (.ifCond .lt 12, 3) := by decide +kernel
theorem dX1_write_7 : decode cX1_write 7 = .ok (.aload_n 0, 1) := by decide +kernel
theorem dX1_write_8 : decode cX1_write 8 = .ok (.getfield 25, 3) := by decide +kernel
theorem dX1_write_11 : decode cX1_write 11 = .ok (.bipush 12, 2) := by decide +kernel
theorem dX1_write_13 : decode cX1_write 13 = .ok (.if_icmp .lt 4, 3) := by decide +kernel
theorem dX1_write_16 : decode cX1_write 16 = .ok (.return_, 1) := by decide +kernel
theorem dX1_write_17 : decode cX1_write 17 = .ok (.aload_n 0, 1) := by decide +kernel
theorem dX1_write_18 : decode cX1_write 18 = .ok (.getfield 25, 3) := by decide +kernel
theorem dX1_write_21 : decode cX1_write 21 = .ok (.iconst 5, 1) := by decide +kernel
theorem dX1_write_22 : decode cX1_write 22 = .ok (.imul, 1) := by decide +kernel
theorem dX1_write_23 : decode cX1_write 23 = .ok (.istore 6, 2) := by decide +kernel
theorem dX1_write_25 : decode cX1_write 25 = .ok (.aload_n 0, 1) := by decide +kernel
theorem dX1_write_26 : decode cX1_write 26 = .ok (.getfield 11, 3) := by decide +kernel
theorem dX1_write_29 : decode cX1_write 29 = .ok (.iload 6, 2) := by decide +kernel
theorem dX1_write_31 : decode cX1_write 31 = .ok (.iload_n 1, 1) := by decide +kernel
theorem dX1_write_32 : decode cX1_write 32 = .ok (.iastore, 1) := by decide +kernel
theorem dX1_write_33 : decode cX1_write 33 = .ok (.aload_n 0, 1) := by decide +kernel
theorem dX1_write_34 : decode cX1_write 34 = .ok (.getfield 11, 3) := by decide +kernel
theorem dX1_write_37 : decode cX1_write 37 = .ok (.iload 6, 2) := by decide +kernel
theorem dX1_write_39 : decode cX1_write 39 = .ok (.iconst 1, 1) := by decide +kernel
theorem dX1_write_40 : decode cX1_write 40 = .ok (.iadd, 1) := by decide +kernel
theorem dX1_write_41 : decode cX1_write 41 = .ok (.iload_n 2, 1) := by decide +kernel
theorem dX1_write_42 : decode cX1_write 42 = .ok (.iastore, 1) := by decide +kernel
theorem dX1_write_43 : decode cX1_write 43 = .ok (.aload_n 0, 1) := by decide +kernel
theorem dX1_write_44 : decode cX1_write 44 = .ok (.getfield 11, 3) := by decide +kernel
theorem dX1_write_47 : decode cX1_write 47 = .ok (.iload 6, 2) := by decide +kernel
theorem dX1_write_49 : decode cX1_write 49 = .ok (.iconst 2, 1) := by decide +kernel
theorem dX1_write_50 : decode cX1_write 50 = .ok (.iadd, 1) := by decide +kernel
theorem dX1_write_51 : decode cX1_write 51 = .ok (.iload_n 3, 1) := by decide +kernel
theorem dX1_write_52 : decode cX1_write 52 = .ok (.iastore, 1) := by decide +kernel
theorem dX1_write_53 : decode cX1_write 53 = .ok (.aload_n 0, 1) := by decide +kernel
theorem dX1_write_54 : decode cX1_write 54 = .ok (.getfield 11, 3) := by decide +kernel
theorem dX1_write_57 : decode cX1_write 57 = .ok (.iload 6, 2) := by decide +kernel
theorem dX1_write_59 : decode cX1_write 59 = .ok (.iconst 3, 1) := by decide +kernel
theorem dX1_write_60 : decode cX1_write 60 = .ok (.iadd, 1) := by decide +kernel
theorem dX1_write_61 : decode cX1_write 61 = .ok (.iload 4, 2) := by decide +kernel
theorem dX1_write_63 : decode cX1_write 63 = .ok (.iastore, 1) := by decide +kernel
theorem dX1_write_64 : decode cX1_write 64 = .ok (.aload_n 0, 1) := by decide +kernel
theorem dX1_write_65 : decode cX1_write 65 = .ok (.getfield 11, 3) := by decide +kernel
theorem dX1_write_68 : decode cX1_write 68 = .ok (.iload 6, 2) := by decide +kernel
theorem dX1_write_70 : decode cX1_write 70 = .ok (.iconst 4, 1) := by decide +kernel
theorem dX1_write_71 : decode cX1_write 71 = .ok (.iadd, 1) := by decide +kernel
theorem dX1_write_72 : decode cX1_write 72 = .ok (.iload 5, 2) := by decide +kernel
theorem dX1_write_74 : decode cX1_write 74 = .ok (.iastore, 1) := by decide +kernel
theorem dX1_write_75 : decode cX1_write 75 = .ok (.aload_n 0, 1) := by decide +kernel
theorem dX1_write_76 : decode cX1_write 76 = .ok (.aload_n 0, 1) := by decide +kernel
theorem dX1_write_77 : decode cX1_write 77 = .ok (.getfield 25, 3) := by decide +kernel
theorem dX1_write_80 : decode cX1_write 80 = .ok (.iconst 1, 1) := by decide +kernel
theorem dX1_write_81 : decode cX1_write 81 = .ok (.iadd, 1) := by decide +kernel
theorem dX1_write_82 : decode cX1_write 82 = .ok (.bipush 12, 2) := by decide +kernel
theorem dX1_write_84 : decode cX1_write 84 = .ok (.irem, 1) := by decide +kernel
theorem dX1_write_85 : decode cX1_write 85 = .ok (.putfield 25, 3) := by decide +kernel
theorem dX1_write_88 : decode cX1_write 88 = .ok (.aload_n 0, 1) := by decide +kernel
theorem dX1_write_89 : decode cX1_write 89 = .ok (.aload_n 0, 1) := by decide +kernel
theorem dX1_write_90 : decode cX1_write 90 = .ok (.getfield 21, 3) := by decide +kernel
theorem dX1_write_93 : decode cX1_write 93 = .ok (.bipush 12, 2) := by decide +kernel
theorem dX1_write_95 : decode cX1_write 95 = .ok (.if_icmp .ge 12, 3) := by decide +kernel
theorem dX1_write_98 : decode cX1_write 98 = .ok (.aload_n 0, 1) := by decide +kernel
theorem dX1_write_99 : decode cX1_write 99 = .ok (.getfield 21, 3) := by decide +kernel
theorem dX1_write_102 : decode cX1_write 102 = .ok (.iconst 1, 1) := by decide +kernel
theorem dX1_write_103 : decode cX1_write 103 = .ok (.iadd, 1) := by decide +kernel
theorem dX1_write_104 : decode cX1_write 104 = .ok (.goto 5, 3) := by decide +kernel
theorem dX1_write_107 : decode cX1_write 107 = .ok (.bipush 12, 2) := by decide +kernel
theorem dX1_write_109 : decode cX1_write 109 = .ok (.putfield 21, 3) := by decide +kernel
theorem dX1_write_112 : decode cX1_write 112 = .ok (.return_, 1) := by decide +kernel
set_option maxRecDepth 20000 in
theorem ggX1_told_X8_within : GoodIn wsX1_told wsX8_within := goodIn_r _ [6] (by decide +kernel) (by decide +kernel)
set_option maxRecDepth 20000 in
theorem gX1_told_X8_within_n28 : GoodIn wsX1_told (wsX8_within) := ggX1_told_X8_within
set_option maxRecDepth 20000 in
theorem ggX1_told_J9_floorMod_7cf53 : GoodIn wsX1_told wsJ9_floorMod_7cf53 := goodIn_r _ [10] (by decide +kernel) (by decide +kernel)
set_option maxRecDepth 20000 in
theorem gX1_told_J9_floorMod_7cf53 : GoodIn wsX1_told (va_wsS RX1 32 yJ9_floorMod_7cf53 wsJ9_floorMod_7cf53) := goodIn_app (goodIn_of _ (by decide +kernel)) ggX1_told_J9_floorMod_7cf53
theorem dX1_told_0 : decode cX1_told 0 = .ok (.iload_n 1, 1) := by decide +kernel
theorem dX1_told_1 : decode cX1_told 1 = .ok (.iconst 0, 1) := by decide +kernel
theorem dX1_told_2 : decode cX1_told 2 = .ok (.aload_n 0, 1) := by decide +kernel
theorem dX1_told_3 : decode cX1_told 3 = .ok (.getfield 21, 3) := by decide +kernel
theorem dX1_told_6 : decode cX1_told 6 = .ok (.iconst 1, 1) := by decide +kernel
theorem dX1_told_7 : decode cX1_told 7 = .ok (.isub, 1) := by decide +kernel
theorem dX1_told_8 : decode cX1_told 8 = .ok (.invokestatic 28, 3) := by decide +kernel
theorem dX1_told_11 : decode cX1_told 11 = .ok (.ifCond .ne 6, 3) := by decide +kernel
theorem dX1_told_14 : decode cX1_told 14 = .ok (.bipush (-5), 2) := by decide +kernel
theorem dX1_told_16 : decode cX1_told 16 = .ok (.ireturn, 1) := by decide +kernel
theorem dX1_told_17 : decode cX1_told 17 = .ok (.aload_n 0, 1) := by decide +kernel
theorem dX1_told_18 : decode cX1_told 18 = .ok (.getfield 25, 3) := by decide +kernel
theorem dX1_told_21 : decode cX1_told 21 = .ok (.iconst 1, 1) := by decide +kernel
theorem dX1_told_22 : decode cX1_told 22 = .ok (.isub, 1) := by decide +kernel
theorem dX1_told_23 : decode cX1_told 23 = .ok (.iload_n 1, 1) := by decide +kernel
theorem dX1_told_24 : decode cX1_told 24 = .ok (.isub, 1) := by decide +kernel
theorem dX1_told_25 : decode cX1_told 25 = .ok (.bipush 12, 2) := by decide +kernel
theorem dX1_told_27 : decode cX1_told 27 = .ok (.invokestatic 32, 3) := by decide +kernel
theorem dX1_told_30 : decode cX1_told 30 = .ok (.iconst 5, 1) := by decide +kernel
theorem dX1_told_31 : decode cX1_told 31 = .ok (.imul, 1) := by decide +kernel
theorem dX1_told_32 : decode cX1_told 32 = .ok (.iload_n 2, 1) := by decide +kernel
theorem dX1_told_33 : decode cX1_told 33 = .ok (.iadd, 1) := by decide +kernel
theorem dX1_told_34 : decode cX1_told 34 = .ok (.istore_n 3, 1) := by decide +kernel
theorem dX1_told_35 : decode cX1_told 35 = .ok (.iload_n 3, 1) := by decide +kernel
theorem dX1_told_36 : decode cX1_told 36 = .ok (.iconst 0, 1) := by decide +kernel
theorem dX1_told_37 : decode cX1_told 37 = .ok (.aload_n 0, 1) := by decide +kernel
theorem dX1_told_38 : decode cX1_told 38 = .ok (.getfield 11, 3) := by decide +kernel
theorem dX1_told_41 : decode cX1_told 41 = .ok (.arraylength, 1) := by decide +kernel
theorem dX1_told_42 : decode cX1_told 42 = .ok (.iconst 1, 1) := by decide +kernel
theorem dX1_told_43 : decode cX1_told 43 = .ok (.isub, 1) := by decide +kernel
theorem dX1_told_44 : decode cX1_told 44 = .ok (.invokestatic 28, 3) := by decide +kernel
theorem dX1_told_47 : decode cX1_told 47 = .ok (.ifCond .eq 12, 3) := by decide +kernel
theorem dX1_told_50 : decode cX1_told 50 = .ok (.aload_n 0, 1) := by decide +kernel
theorem dX1_told_51 : decode cX1_told 51 = .ok (.getfield 11, 3) := by decide +kernel
theorem dX1_told_54 : decode cX1_told 54 = .ok (.iload_n 3, 1) := by decide +kernel
theorem dX1_told_55 : decode cX1_told 55 = .ok (.iaload, 1) := by decide +kernel
theorem dX1_told_56 : decode cX1_told 56 = .ok (.goto 5, 3) := by decide +kernel
theorem dX1_told_59 : decode cX1_told 59 = .ok (.bipush (-5), 2) := by decide +kernel
theorem dX1_told_61 : decode cX1_told 61 = .ok (.ireturn, 1) := by decide +kernel
set_option maxRecDepth 20000 in
theorem ggX0_init_X4_init : GoodIn wsX0_init wsX4_init := goodIn_r _ [14, 15, 2, 3, 4, 16, 17, 18, 19, 30, 31, 32, 33, 34, 35, 36, 37, 38, 39] (by decide +kernel) (by decide +kernel)
set_option maxRecDepth 20000 in
theorem gX0_init_X4_init : GoodIn wsX0_init (wsX4_init) := ggX0_init_X4_init
theorem dX0_init_0 : decode cX0_init 0 = .ok (.aload_n 0, 1) := by decide +kernel
theorem dX0_init_1 : decode cX0_init 1 = .ok (.invokespecial 3, 3) := by decide +kernel
theorem dX0_init_4 : decode cX0_init 4 = .ok (.aload_n 0, 1) := by decide +kernel
theorem dX0_init_5 : decode cX0_init 5 = .ok (.bipush 24, 2) := by decide +kernel
theorem dX0_init_7 : decode cX0_init 7 = .ok (.newarray .int, 2) := by decide +kernel
theorem dX0_init_9 : decode cX0_init 9 = .ok (.putfield 11, 3) := by decide +kernel
theorem dX0_init_12 : decode cX0_init 12 = .ok (.aload_n 0, 1) := by decide +kernel
theorem dX0_init_13 : decode cX0_init 13 = .ok (.bipush 6, 2) := by decide +kernel
theorem dX0_init_15 : decode cX0_init 15 = .ok (.anewarray 15, 3) := by decide +kernel
theorem dX0_init_18 : decode cX0_init 18 = .ok (.putfield 17, 3) := by decide +kernel
theorem dX0_init_21 : decode cX0_init 21 = .ok (.aload_n 0, 1) := by decide +kernel
theorem dX0_init_22 : decode cX0_init 22 = .ok (.bipush 8, 2) := by decide +kernel
theorem dX0_init_24 : decode cX0_init 24 = .ok (.putfield 21, 3) := by decide +kernel
theorem dX0_init_27 : decode cX0_init 27 = .ok (.aload_n 0, 1) := by decide +kernel
theorem dX0_init_28 : decode cX0_init 28 = .ok (.iload_n 1, 1) := by decide +kernel
theorem dX0_init_29 : decode cX0_init 29 = .ok (.putfield 25, 3) := by decide +kernel
theorem dX0_init_32 : decode cX0_init 32 = .ok (.iconst 0, 1) := by decide +kernel
theorem dX0_init_33 : decode cX0_init 33 = .ok (.istore_n 2, 1) := by decide +kernel
theorem dX0_init_34 : decode cX0_init 34 = .ok (.iload_n 2, 1) := by decide +kernel
theorem dX0_init_35 : decode cX0_init 35 = .ok (.aload_n 0, 1) := by decide +kernel
theorem dX0_init_36 : decode cX0_init 36 = .ok (.getfield 11, 3) := by decide +kernel
theorem dX0_init_39 : decode cX0_init 39 = .ok (.arraylength, 1) := by decide +kernel
theorem dX0_init_40 : decode cX0_init 40 = .ok (.if_icmp .ge 17, 3) := by decide +kernel
theorem dX0_init_43 : decode cX0_init 43 = .ok (.aload_n 0, 1) := by decide +kernel
theorem dX0_init_44 : decode cX0_init 44 = .ok (.getfield 11, 3) := by decide +kernel
theorem dX0_init_47 : decode cX0_init 47 = .ok (.iload_n 2, 1) := by decide +kernel
theorem dX0_init_48 : decode cX0_init 48 = .ok (.bipush (-5), 2) := by decide +kernel
theorem dX0_init_50 : decode cX0_init 50 = .ok (.iastore, 1) := by decide +kernel
theorem dX0_init_51 : decode cX0_init 51 = .ok (.iinc 2 1, 3) := by decide +kernel
theorem dX0_init_54 : decode cX0_init 54 = .ok (.goto (-20), 3) := by decide +kernel
theorem dX0_init_57 : decode cX0_init 57 = .ok (.iconst 0, 1) := by decide +kernel
theorem dX0_init_58 : decode cX0_init 58 = .ok (.istore_n 2, 1) := by decide +kernel
theorem dX0_init_59 : decode cX0_init 59 = .ok (.iload_n 2, 1) := by decide +kernel
theorem dX0_init_60 : decode cX0_init 60 = .ok (.aload_n 0, 1) := by decide +kernel
theorem dX0_init_61 : decode cX0_init 61 = .ok (.getfield 17, 3) := by decide +kernel
theorem dX0_init_64 : decode cX0_init 64 = .ok (.arraylength, 1) := by decide +kernel
theorem dX0_init_65 : decode cX0_init 65 = .ok (.if_icmp .ge 24, 3) := by decide +kernel
theorem dX0_init_68 : decode cX0_init 68 = .ok (.aload_n 0, 1) := by decide +kernel
theorem dX0_init_69 : decode cX0_init 69 = .ok (.getfield 17, 3) := by decide +kernel
theorem dX0_init_72 : decode cX0_init 72 = .ok (.iload_n 2, 1) := by decide +kernel
theorem dX0_init_73 : decode cX0_init 73 = .ok (.new 15, 3) := by decide +kernel
theorem dX0_init_76 : decode cX0_init 76 = .ok (.dup, 1) := by decide +kernel
theorem dX0_init_77 : decode cX0_init 77 = .ok (.iload_n 1, 1) := by decide +kernel
theorem dX0_init_78 : decode cX0_init 78 = .ok (.iload_n 2, 1) := by decide +kernel
theorem dX0_init_79 : decode cX0_init 79 = .ok (.invokespecial 28, 3) := by decide +kernel
theorem dX0_init_82 : decode cX0_init 82 = .ok (.aastore, 1) := by decide +kernel
theorem dX0_init_83 : decode cX0_init 83 = .ok (.iinc 2 1, 3) := by decide +kernel
theorem dX0_init_86 : decode cX0_init 86 = .ok (.goto (-27), 3) := by decide +kernel
theorem dX0_init_89 : decode cX0_init 89 = .ok (.return_, 1) := by decide +kernel
set_option maxRecDepth 20000 in
theorem ggX0_copyFrom_X4_copyFrom : GoodIn wsX0_copyFrom wsX4_copyFrom := goodIn_r _ [18, 19, 20, 3, 4, 5, 21, 22, 23, 24, 25, 26, 37, 38, 39, 40, 41, 42, 43, 44, 45, 46] (by decide +kernel) (by decide +kernel)
set_option maxRecDepth 20000 in
theorem gX0_copyFrom_X4_copyFrom : GoodIn wsX0_copyFrom (wsV RX0 37 RX4 yX4_copyFrom wsX4_copyFrom) := goodIn_app (goodIn_of _ (by decide +kernel)) ggX0_copyFrom_X4_copyFrom
theorem dX0_copyFrom_0 : decode cX0_copyFrom 0 = .ok (.aload_n 1, 1) := by decide +kernel
theorem dX0_copyFrom_1 : decode cX0_copyFrom 1 = .ok (.getfield 11, 3) := by decide +kernel
theorem dX0_copyFrom_4 : decode cX0_copyFrom 4 = .ok (.iconst 0, 1) := by decide +kernel
theorem dX0_copyFrom_5 : decode cX0_copyFrom 5 = .ok (.aload_n 0, 1) := by decide +kernel
theorem dX0_copyFrom_6 : decode cX0_copyFrom 6 = .ok (.getfield 11, 3) := by decide +kernel
theorem dX0_copyFrom_9 : decode cX0_copyFrom 9 = .ok (.iconst 0, 1) := by decide +kernel
theorem dX0_copyFrom_10 : decode cX0_copyFrom 10 = .ok (.bipush 24, 2) := by decide +kernel
theorem dX0_copyFrom_12 : decode cX0_copyFrom 12 = .ok (.invokestatic 31, 3) := by decide +kernel
theorem dX0_copyFrom_15 : decode cX0_copyFrom 15 = .ok (.iconst 0, 1) := by decide +kernel
theorem dX0_copyFrom_16 : decode cX0_copyFrom 16 = .ok (.istore_n 2, 1) := by decide +kernel
theorem dX0_copyFrom_17 : decode cX0_copyFrom 17 = .ok (.iload_n 2, 1) := by decide +kernel
theorem dX0_copyFrom_18 : decode cX0_copyFrom 18 = .ok (.bipush 6, 2) := by decide +kernel
theorem dX0_copyFrom_20 : decode cX0_copyFrom 20 = .ok (.if_icmp .ge 24, 3) := by decide +kernel
theorem dX0_copyFrom_23 : decode cX0_copyFrom 23 = .ok (.aload_n 0, 1) := by decide +kernel
theorem dX0_copyFrom_24 : decode cX0_copyFrom 24 = .ok (.getfield 17, 3) := by decide +kernel
theorem dX0_copyFrom_27 : decode cX0_copyFrom 27 = .ok (.iload_n 2, 1) := by decide +kernel
theorem dX0_copyFrom_28 : decode cX0_copyFrom 28 = .ok (.aaload, 1) := by decide +kernel
theorem dX0_copyFrom_29 : decode cX0_copyFrom 29 = .ok (.aload_n 1, 1) := by decide +kernel
theorem dX0_copyFrom_30 : decode cX0_copyFrom 30 = .ok (.getfield 17, 3) := by decide +kernel
theorem dX0_copyFrom_33 : decode cX0_copyFrom 33 = .ok (.iload_n 2, 1) := by decide +kernel
theorem dX0_copyFrom_34 : decode cX0_copyFrom 34 = .ok (.aaload, 1) := by decide +kernel
theorem dX0_copyFrom_35 : decode cX0_copyFrom 35 = .ok (.invokevirtual 37, 3) := by decide +kernel
theorem dX0_copyFrom_38 : decode cX0_copyFrom 38 = .ok (.iinc 2 1, 3) := by decide +kernel
theorem dX0_copyFrom_41 : decode cX0_copyFrom 41 = .ok (.goto (-24), 3) := by decide +kernel
theorem dX0_copyFrom_44 : decode cX0_copyFrom 44 = .ok (.aload_n 0, 1) := by decide +kernel
theorem dX0_copyFrom_45 : decode cX0_copyFrom 45 = .ok (.aload_n 1, 1) := by decide +kernel
theorem dX0_copyFrom_46 : decode cX0_copyFrom 46 = .ok (.getfield 41, 3) := by decide +kernel
theorem dX0_copyFrom_49 : decode cX0_copyFrom 49 = .ok (.putfield 41, 3) := by decide +kernel
theorem dX0_copyFrom_52 : decode cX0_copyFrom 52 = .ok (.aload_n 0, 1) := by decide +kernel
theorem dX0_copyFrom_53 : decode cX0_copyFrom 53 = .ok (.aload_n 1, 1) := by decide +kernel
theorem dX0_copyFrom_54 : decode cX0_copyFrom 54 = .ok (.getfield 21, 3) := by decide +kernel
theorem dX0_copyFrom_57 : decode cX0_copyFrom 57 = .ok (.putfield 21, 3) := by decide +kernel
theorem dX0_copyFrom_60 : decode cX0_copyFrom 60 = .ok (.aload_n 0, 1) := by decide +kernel
theorem dX0_copyFrom_61 : decode cX0_copyFrom 61 = .ok (.aload_n 1, 1) := by decide +kernel
theorem dX0_copyFrom_62 : decode cX0_copyFrom 62 = .ok (.getfield 44, 3) := by decide +kernel
theorem dX0_copyFrom_65 : decode cX0_copyFrom 65 = .ok (.putfield 44, 3) := by decide +kernel
theorem dX0_copyFrom_68 : decode cX0_copyFrom 68 = .ok (.aload_n 0, 1) := by decide +kernel
theorem dX0_copyFrom_69 : decode cX0_copyFrom 69 = .ok (.aload_n 1, 1) := by decide +kernel
theorem dX0_copyFrom_70 : decode cX0_copyFrom 70 = .ok (.getfield 47, 3) := by decide +kernel
theorem dX0_copyFrom_73 : decode cX0_copyFrom 73 = .ok (.putfield 47, 3) := by decide +kernel
theorem dX0_copyFrom_76 : decode cX0_copyFrom 76 = .ok (.aload_n 0, 1) := by decide +kernel
theorem dX0_copyFrom_77 : decode cX0_copyFrom 77 = .ok (.aload_n 1, 1) := by decide +kernel
theorem dX0_copyFrom_78 : decode cX0_copyFrom 78 = .ok (.getfield 50, 3) := by decide +kernel
theorem dX0_copyFrom_81 : decode cX0_copyFrom 81 = .ok (.putfield 50, 3) := by decide +kernel
theorem dX0_copyFrom_84 : decode cX0_copyFrom 84 = .ok (.aload_n 0, 1) := by decide +kernel
theorem dX0_copyFrom_85 : decode cX0_copyFrom 85 = .ok (.aload_n 1, 1) := by decide +kernel
theorem dX0_copyFrom_86 : decode cX0_copyFrom 86 = .ok (.getfield 53, 3) := by decide +kernel
theorem dX0_copyFrom_89 : decode cX0_copyFrom 89 = .ok (.putfield 53, 3) := by decide +kernel
theorem dX0_copyFrom_92 : decode cX0_copyFrom 92 = .ok (.aload_n 0, 1) := by decide +kernel
theorem dX0_copyFrom_93 : decode cX0_copyFrom 93 = .ok (.aload_n 1, 1) := by decide +kernel
theorem dX0_copyFrom_94 : decode cX0_copyFrom 94 = .ok (.getfield 56, 3) := by decide +kernel
theorem dX0_copyFrom_97 : decode cX0_copyFrom 97 = .ok (.putfield 56, 3) := by decide +kernel
theorem dX0_copyFrom_100 : decode cX0_copyFrom 100 = .ok (.return_, 1) := by decide +kernel
theorem dX0_rebuild_0 : decode cX0_rebuild 0 = .ok (.aload_n 0, 1) := by decide +kernel
theorem dX0_rebuild_1 : decode cX0_rebuild 1 = .ok (.iload_n 1, 1) := by decide +kernel
theorem dX0_rebuild_2 : decode cX0_rebuild 2 = .ok (.putfield 21, 3) := by decide +kernel
theorem dX0_rebuild_5 : decode cX0_rebuild 5 = .ok (.aload_n 0, 1) := by decide +kernel
theorem dX0_rebuild_6 : decode cX0_rebuild 6 = .ok (.iconst 0, 1) := by decide +kernel
theorem dX0_rebuild_7 : decode cX0_rebuild 7 = .ok (.putfield 44, 3) := by decide +kernel
theorem dX0_rebuild_10 : decode cX0_rebuild 10 = .ok (.aload_n 0, 1) := by decide +kernel
theorem dX0_rebuild_11 : decode cX0_rebuild 11 = .ok (.iconst 0, 1) := by decide +kernel
theorem dX0_rebuild_12 : decode cX0_rebuild 12 = .ok (.putfield 47, 3) := by decide +kernel
theorem dX0_rebuild_15 : decode cX0_rebuild 15 = .ok (.return_, 1) := by decide +kernel
set_option maxRecDepth 20000 in
theorem ggX0_openStation_X8_within : GoodIn wsX0_openStation wsX8_within := goodIn_r _ [5] (by decide +kernel) (by decide +kernel)
set_option maxRecDepth 20000 in
theorem gX0_openStation_X8_within_n59 : GoodIn wsX0_openStation (wsX8_within) := ggX0_openStation_X8_within
set_option maxRecDepth 20000 in
theorem ggX0_openStation_X4_open : GoodIn wsX0_openStation wsX4_open := goodIn_r _ [10, 11, 12, 13, 14, 15, 16, 27, 28, 29, 30, 31, 32, 33, 34, 35, 36] (by decide +kernel) (by decide +kernel)
set_option maxRecDepth 20000 in
theorem gX0_openStation_X4_open : GoodIn wsX0_openStation (wsV RX0 63 RX4 yX4_open wsX4_open) := goodIn_app (goodIn_of _ (by decide +kernel)) ggX0_openStation_X4_open
theorem dX0_openStation_0 : decode cX0_openStation 0 = .ok (.aload_n 0, 1) := by decide +kernel
theorem dX0_openStation_1 : decode cX0_openStation 1 = .ok (.getfield 41, 3) := by decide +kernel
theorem dX0_openStation_4 : decode cX0_openStation 4 = .ok (.istore_n 2, 1) := by decide +kernel
theorem dX0_openStation_5 : decode cX0_openStation 5 = .ok (.iload_n 2, 1) := by decide +kernel
theorem dX0_openStation_6 : decode cX0_openStation 6 = .ok (.iconst 0, 1) := by decide +kernel
theorem dX0_openStation_7 : decode cX0_openStation 7 = .ok (.aload_n 0, 1) := by decide +kernel
theorem dX0_openStation_8 : decode cX0_openStation 8 = .ok (.getfield 17, 3) := by decide +kernel
theorem dX0_openStation_11 : decode cX0_openStation 11 = .ok (.arraylength, 1) := by decide +kernel
theorem dX0_openStation_12 : decode cX0_openStation 12 = .ok (.iconst 1, 1) := by decide +kernel
theorem dX0_openStation_13 : decode cX0_openStation 13 = .ok (.isub, 1) := by decide +kernel
theorem dX0_openStation_14 : decode cX0_openStation 14 = .ok (.invokestatic 59, 3) := by decide +kernel
theorem dX0_openStation_17 : decode cX0_openStation 17 = .ok (.ifCond .eq 23, 3) := by decide +kernel
theorem dX0_openStation_20 : decode cX0_openStation 20 = .ok (.aload_n 0, 1) := by decide +kernel
theorem dX0_openStation_21 : decode cX0_openStation 21 = .ok (.getfield 17, 3) := by decide +kernel
theorem dX0_openStation_24 : decode cX0_openStation 24 = .ok (.iload_n 2, 1) := by decide +kernel
theorem dX0_openStation_25 : decode cX0_openStation 25 = .ok (.aaload, 1) := by decide +kernel
theorem dX0_openStation_26 : decode cX0_openStation 26 = .ok (.iload_n 1, 1) := by decide +kernel
theorem dX0_openStation_27 : decode cX0_openStation 27 = .ok (.invokevirtual 63, 3) := by decide +kernel
theorem dX0_openStation_30 : decode cX0_openStation 30 = .ok (.aload_n 0, 1) := by decide +kernel
theorem dX0_openStation_31 : decode cX0_openStation 31 = .ok (.dup, 1) := by decide +kernel
theorem dX0_openStation_32 : decode cX0_openStation 32 = .ok (.getfield 41, 3) := by decide +kernel
theorem dX0_openStation_35 : decode cX0_openStation 35 = .ok (.iconst 1, 1) := by decide +kernel
theorem dX0_openStation_36 : decode cX0_openStation 36 = .ok (.iadd, 1) := by decide +kernel
theorem dX0_openStation_37 : decode cX0_openStation 37 = .ok (.putfield 41, 3) := by decide +kernel
theorem dX0_openStation_40 : decode cX0_openStation 40 = .ok (.iload_n 2, 1) := by decide +kernel
theorem dX0_openStation_41 : decode cX0_openStation 41 = .ok (.ireturn, 1) := by decide +kernel
set_option maxRecDepth 20000 in
theorem ggX0_stationAt_X8_within : GoodIn wsX0_stationAt wsX8_within := goodIn_r _ [5] (by decide +kernel) (by decide +kernel)
set_option maxRecDepth 20000 in
theorem gX0_stationAt_X8_within_n59 : GoodIn wsX0_stationAt (wsX8_within) := ggX0_stationAt_X8_within
theorem dX0_stationAt_0 : decode cX0_stationAt 0 = .ok (.iload_n 1, 1) := by decide +kernel
theorem dX0_stationAt_1 : decode cX0_stationAt 1 = .ok (.iconst 0, 1) := by decide +kernel
theorem dX0_stationAt_2 : decode cX0_stationAt 2 = .ok (.aload_n 0, 1) := by decide +kernel
theorem dX0_stationAt_3 : decode cX0_stationAt 3 = .ok (.getfield 41, 3) := by decide +kernel
theorem dX0_stationAt_6 : decode cX0_stationAt 6 = .ok (.iconst 1, 1) := by decide +kernel
theorem dX0_stationAt_7 : decode cX0_stationAt 7 = .ok (.isub, 1) := by decide +kernel
theorem dX0_stationAt_8 : decode cX0_stationAt 8 = .ok (.invokestatic 59, 3) := by decide +kernel
theorem dX0_stationAt_11 : decode cX0_stationAt 11 = .ok (.ifCond .eq 16, 3) := by decide +kernel
theorem dX0_stationAt_14 : decode cX0_stationAt 14 = .ok (.iload_n 1, 1) := by decide +kernel
theorem dX0_stationAt_15 : decode cX0_stationAt 15 = .ok (.aload_n 0, 1) := by decide +kernel
theorem dX0_stationAt_16 : decode cX0_stationAt 16 = .ok (.getfield 17, 3) := by decide +kernel
theorem dX0_stationAt_19 : decode cX0_stationAt 19 = .ok (.arraylength, 1) := by decide +kernel
theorem dX0_stationAt_20 : decode cX0_stationAt 20 = .ok (.if_icmp .ge 7, 3) := by decide +kernel
theorem dX0_stationAt_23 : decode cX0_stationAt 23 = .ok (.iconst 1, 1) := by decide +kernel
theorem dX0_stationAt_24 : decode cX0_stationAt 24 = .ok (.goto 4, 3) := by decide +kernel
theorem dX0_stationAt_27 : decode cX0_stationAt 27 = .ok (.iconst 0, 1) := by decide +kernel
theorem dX0_stationAt_28 : decode cX0_stationAt 28 = .ok (.istore_n 2, 1) := by decide +kernel
theorem dX0_stationAt_29 : decode cX0_stationAt 29 = .ok (.iload_n 2, 1) := by decide +kernel
theorem dX0_stationAt_30 : decode cX0_stationAt 30 = .ok (.ifCond .eq 12, 3) := by decide +kernel
theorem dX0_stationAt_33 : decode cX0_stationAt 33 = .ok (.aload_n 0, 1) := by decide +kernel
theorem dX0_stationAt_34 : decode cX0_stationAt 34 = .ok (.getfield 17, 3) := by decide +kernel
theorem dX0_stationAt_37 : decode cX0_stationAt 37 = .ok (.iload_n 1, 1) := by decide +kernel
theorem dX0_stationAt_38 : decode cX0_stationAt 38 = .ok (.aaload, 1) := by decide +kernel
theorem dX0_stationAt_39 : decode cX0_stationAt 39 = .ok (.goto 4, 3) := by decide +kernel
theorem dX0_stationAt_42 : decode cX0_stationAt 42 = .ok (.aconst_null, 1) := by decide +kernel
theorem dX0_stationAt_43 : decode cX0_stationAt 43 = .ok (.areturn, 1) := by decide +kernel
theorem dX0_hasOffset_0 : decode cX0_hasOffset 0 = .ok (.iconst 0, 1) := by decide +kernel
theorem dX0_hasOffset_1 : decode cX0_hasOffset 1 = .ok (.istore_n 2, 1) := by decide +kernel
theorem dX0_hasOffset_2 : decode cX0_hasOffset 2 = .ok (.iload_n 2, 1) := by decide +kernel
theorem dX0_hasOffset_3 : decode cX0_hasOffset 3 = .ok (.aload_n 0, 1) := by decide +kernel
theorem dX0_hasOffset_4 : decode cX0_hasOffset 4 = .ok (.getfield 41, 3) := by decide +kernel
theorem dX0_hasOffset_7 : decode cX0_hasOffset 7 = .ok (.if_icmp .ge 33, 3) := by decide +kernel
theorem dX0_hasOffset_10 : decode cX0_hasOffset 10 = .ok (.iload_n 2, 1) := by decide +kernel
theorem dX0_hasOffset_11 : decode cX0_hasOffset 11 = .ok (.aload_n 0, 1) := by decide +kernel
theorem dX0_hasOffset_12 : decode cX0_hasOffset 12 = .ok (.getfield 17, 3) := by decide +kernel
theorem dX0_hasOffset_15 : decode cX0_hasOffset 15 = .ok (.arraylength, 1) := by decide +kernel
theorem dX0_hasOffset_16 : decode cX0_hasOffset 16 = .ok (.if_icmp .ge 24, 3) := by decide +kernel
theorem dX0_hasOffset_19 : decode cX0_hasOffset 19 = .ok (.aload_n 0, 1) := by decide +kernel
theorem dX0_hasOffset_20 : decode cX0_hasOffset 20 = .ok (.getfield 17, 3) := by decide +kernel
theorem dX0_hasOffset_23 : decode cX0_hasOffset 23 = .ok (.iload_n 2, 1) := by decide +kernel
theorem dX0_hasOffset_24 : decode cX0_hasOffset 24 = .ok (.aaload, 1) := by decide +kernel
theorem dX0_hasOffset_25 : decode cX0_hasOffset 25 = .ok (.getfield 67, 3) := by decide +kernel
theorem dX0_hasOffset_28 : decode cX0_hasOffset 28 = .ok (.iload_n 1, 1) := by decide +kernel
theorem dX0_hasOffset_29 : decode cX0_hasOffset 29 = .ok (.if_icmp .ne 5, 3) := by decide +kernel
theorem dX0_hasOffset_32 : decode cX0_hasOffset 32 = .ok (.iconst 1, 1) := by decide +kernel
theorem dX0_hasOffset_33 : decode cX0_hasOffset 33 = .ok (.ireturn, 1) := by decide +kernel
theorem dX0_hasOffset_34 : decode cX0_hasOffset 34 = .ok (.iinc 2 1, 3) := by decide +kernel
theorem dX0_hasOffset_37 : decode cX0_hasOffset 37 = .ok (.goto (-35), 3) := by decide +kernel
theorem dX0_hasOffset_40 : decode cX0_hasOffset 40 = .ok (.iconst 0, 1) := by decide +kernel
theorem dX0_hasOffset_41 : decode cX0_hasOffset 41 = .ok (.ireturn, 1) := by decide +kernel
theorem dX0_hasOffsetFrom_0 : decode cX0_hasOffsetFrom 0 = .ok (.iconst 0, 1) := by decide +kernel
theorem dX0_hasOffsetFrom_1 : decode cX0_hasOffsetFrom 1 = .ok (.istore_n 2, 1) := by decide +kernel
theorem dX0_hasOffsetFrom_2 : decode cX0_hasOffsetFrom 2 = .ok (.iload_n 2, 1) := by decide +kernel
theorem dX0_hasOffsetFrom_3 : decode cX0_hasOffsetFrom 3 = .ok (.aload_n 0, 1) := by decide +kernel
theorem dX0_hasOffsetFrom_4 : decode cX0_hasOffsetFrom 4 = .ok (.getfield 41, 3) := by decide +kernel
theorem dX0_hasOffsetFrom_7 : decode cX0_hasOffsetFrom 7 = .ok (.if_icmp .ge 33, 3) := by decide +kernel
theorem dX0_hasOffsetFrom_10 : decode cX0_hasOffsetFrom 10 = .ok (.iload_n 2, 1) := by decide +kernel
theorem dX0_hasOffsetFrom_11 : decode cX0_hasOffsetFrom 11 = .ok (.aload_n 0, 1) := by decide +kernel
theorem dX0_hasOffsetFrom_12 : decode cX0_hasOffsetFrom 12 = .ok (.getfield 17, 3) := by decide +kernel
theorem dX0_hasOffsetFrom_15 : decode cX0_hasOffsetFrom 15 = .ok (.arraylength, 1) := by decide +kernel
theorem dX0_hasOffsetFrom_16 : decode cX0_hasOffsetFrom 16 = .ok (.if_icmp .ge 24, 3) := by decide +kernel
theorem dX0_hasOffsetFrom_19 : decode cX0_hasOffsetFrom 19 = .ok (.aload_n 0, 1) := by decide +kernel
theorem dX0_hasOffsetFrom_20 : decode cX0_hasOffsetFrom 20 = .ok (.getfield 17, 3) := by decide +kernel
theorem dX0_hasOffsetFrom_23 : decode cX0_hasOffsetFrom 23 = .ok (.iload_n 2, 1) := by decide +kernel
theorem dX0_hasOffsetFrom_24 : decode cX0_hasOffsetFrom 24 = .ok (.aaload, 1) := by decide +kernel
theorem dX0_hasOffsetFrom_25 : decode cX0_hasOffsetFrom 25 = .ok (.getfield 67, 3) := by decide +kernel
theorem dX0_hasOffsetFrom_28 : decode cX0_hasOffsetFrom 28 = .ok (.iload_n 1, 1) := by decide +kernel
theorem dX0_hasOffsetFrom_29 : decode cX0_hasOffsetFrom 29 = .ok (.if_icmp .lt 5, 3) := by decide +kernel
theorem dX0_hasOffsetFrom_32 : decode cX0_hasOffsetFrom 32 = .ok (.iconst 1, 1) := by decide +kernel
theorem dX0_hasOffsetFrom_33 : decode cX0_hasOffsetFrom 33 = .ok (.ireturn, 1) := by decide +kernel
theorem dX0_hasOffsetFrom_34 : decode cX0_hasOffsetFrom 34 = .ok (.iinc 2 1, 3) := by decide +kernel
theorem dX0_hasOffsetFrom_37 : decode cX0_hasOffsetFrom 37 = .ok (.goto (-35), 3) := by decide +kernel
theorem dX0_hasOffsetFrom_40 : decode cX0_hasOffsetFrom 40 = .ok (.iconst 0, 1) := by decide +kernel
theorem dX0_hasOffsetFrom_41 : decode cX0_hasOffsetFrom 41 = .ok (.ireturn, 1) := by decide +kernel
theorem dX0_hall_0 : decode cX0_hall 0 = .ok (.bipush 20, 2) := by decide +kernel
theorem dX0_hall_2 : decode cX0_hall 2 = .ok (.aload_n 0, 1) := by decide +kernel
theorem dX0_hall_3 : decode cX0_hall 3 = .ok (.getfield 25, 3) := by decide +kernel
theorem dX0_hall_6 : decode cX0_hall 6 = .ok (.iadd, 1) := by decide +kernel
theorem dX0_hall_7 : decode cX0_hall 7 = .ok (.ireturn, 1) := by decide +kernel
set_option maxRecDepth 20000 in
theorem ggX0_slotAt_X0_around : GoodIn wsX0_slotAt wsX0_around := goodIn_r _ [6, 7, 8, 9, 10, 11, 12, 13, 14, 15, 16, 17] (by decide +kernel) (by decide +kernel)
set_option maxRecDepth 20000 in
theorem gX0_slotAt_X0_around : GoodIn wsX0_slotAt (wsV RX0 70 RX0 yX0_around wsX0_around) := goodIn_app (goodIn_of _ (by decide +kernel)) ggX0_slotAt_X0_around
theorem dX0_slotAt_0 : decode cX0_slotAt 0 = .ok (.aload_n 0, 1) := by decide +kernel
theorem dX0_slotAt_1 : decode cX0_slotAt 1 = .ok (.aload_n 0, 1) := by decide +kernel
theorem dX0_slotAt_2 : decode cX0_slotAt 2 = .ok (.getfield 44, 3) := by decide +kernel
theorem dX0_slotAt_5 : decode cX0_slotAt 5 = .ok (.iload_n 1, 1) := by decide +kernel
theorem dX0_slotAt_6 : decode cX0_slotAt 6 = .ok (.iadd, 1) := by decide +kernel
theorem dX0_slotAt_7 : decode cX0_slotAt 7 = .ok (.invokevirtual 70, 3) := by decide +kernel
theorem dX0_slotAt_10 : decode cX0_slotAt 10 = .ok (.ireturn, 1) := by decide +kernel
theorem dX0_around_0 : decode cX0_around 0 = .ok (.aload_n 0, 1) := by decide +kernel
theorem dX0_around_1 : decode cX0_around 1 = .ok (.getfield 21, 3) := by decide +kernel
theorem dX0_around_4 : decode cX0_around 4 = .ok (.ifCond .le 12, 3) := by decide +kernel
theorem dX0_around_7 : decode cX0_around 7 = .ok (.iload_n 1, 1) := by decide +kernel
theorem dX0_around_8 : decode cX0_around 8 = .ok (.aload_n 0, 1) := by decide +kernel
theorem dX0_around_9 : decode cX0_around 9 = .ok (.getfield 21, 3) := by decide +kernel
theorem dX0_around_12 : decode cX0_around 12 = .ok (.irem, 1) := by decide +kernel
theorem dX0_around_13 : decode cX0_around 13 = .ok (.goto 4, 3) := by decide +kernel
theorem dX0_around_16 : decode cX0_around 16 = .ok (.iconst 0, 1) := by decide +kernel
theorem dX0_around_17 : decode cX0_around 17 = .ok (.ireturn, 1) := by decide +kernel
set_option maxRecDepth 20000 in
theorem ggX0_riderIn_X8_within : GoodIn wsX0_riderIn wsX8_within := goodIn_r _ [4] (by decide +kernel) (by decide +kernel)
set_option maxRecDepth 20000 in
theorem gX0_riderIn_X8_within_n59 : GoodIn wsX0_riderIn (wsX8_within) := ggX0_riderIn_X8_within
theorem dX0_riderIn_0 : decode cX0_riderIn 0 = .ok (.iload_n 1, 1) := by decide +kernel
theorem dX0_riderIn_1 : decode cX0_riderIn 1 = .ok (.iconst 0, 1) := by decide +kernel
theorem dX0_riderIn_2 : decode cX0_riderIn 2 = .ok (.aload_n 0, 1) := by decide +kernel
theorem dX0_riderIn_3 : decode cX0_riderIn 3 = .ok (.getfield 11, 3) := by decide +kernel
theorem dX0_riderIn_6 : decode cX0_riderIn 6 = .ok (.arraylength, 1) := by decide +kernel
theorem dX0_riderIn_7 : decode cX0_riderIn 7 = .ok (.iconst 1, 1) := by decide +kernel
theorem dX0_riderIn_8 : decode cX0_riderIn 8 = .ok (.isub, 1) := by decide +kernel
theorem dX0_riderIn_9 : decode cX0_riderIn 9 = .ok (.invokestatic 59, 3) := by decide +kernel
theorem dX0_riderIn_12 : decode cX0_riderIn 12 = .ok (.ifCond .eq 12, 3) := by decide +kernel
theorem dX0_riderIn_15 : decode cX0_riderIn 15 = .ok (.aload_n 0, 1) := by decide +kernel
theorem dX0_riderIn_16 : decode cX0_riderIn 16 = .ok (.getfield 11, 3) := by decide +kernel
theorem dX0_riderIn_19 : decode cX0_riderIn 19 = .ok (.iload_n 1, 1) := by decide +kernel
theorem dX0_riderIn_20 : decode cX0_riderIn 20 = .ok (.iaload, 1) := by decide +kernel
theorem dX0_riderIn_21 : decode cX0_riderIn 21 = .ok (.goto 5, 3) := by decide +kernel
theorem dX0_riderIn_24 : decode cX0_riderIn 24 = .ok (.bipush (-5), 2) := by decide +kernel
theorem dX0_riderIn_26 : decode cX0_riderIn 26 = .ok (.ireturn, 1) := by decide +kernel
set_option maxRecDepth 20000 in
theorem ggX0_setRider_X8_within : GoodIn wsX0_setRider wsX8_within := goodIn_r _ [4] (by decide +kernel) (by decide +kernel)
set_option maxRecDepth 20000 in
theorem gX0_setRider_X8_within_n59 : GoodIn wsX0_setRider (wsX8_within) := ggX0_setRider_X8_within
theorem dX0_setRider_0 : decode cX0_setRider 0 = .ok (.iload_n 1, 1) := by decide +kernel
theorem dX0_setRider_1 : decode cX0_setRider 1 = .ok (.iconst 0, 1) := by decide +kernel
theorem dX0_setRider_2 : decode cX0_setRider 2 = .ok (.aload_n 0, 1) := by decide +kernel
theorem dX0_setRider_3 : decode cX0_setRider 3 = .ok (.getfield 11, 3) := by decide +kernel
theorem dX0_setRider_6 : decode cX0_setRider 6 = .ok (.arraylength, 1) := by decide +kernel
theorem dX0_setRider_7 : decode cX0_setRider 7 = .ok (.iconst 1, 1) := by decide +kernel
theorem dX0_setRider_8 : decode cX0_setRider 8 = .ok (.isub, 1) := by decide +kernel
theorem dX0_setRider_9 : decode cX0_setRider 9 = .ok (.invokestatic 59, 3) := by decide +kernel
theorem dX0_setRider_12 : decode cX0_setRider 12 = .ok (.ifCond .eq 10, 3) := by decide +kernel
theorem dX0_setRider_15 : decode cX0_setRider 15 = .ok (.aload_n 0, 1) := by decide +kernel
theorem dX0_setRider_16 : decode cX0_setRider 16 = .ok (.getfield 11, 3) := by decide +kernel
theorem dX0_setRider_19 : decode cX0_setRider 19 = .ok (.iload_n 1, 1) := by decide +kernel
theorem dX0_setRider_20 : decode cX0_setRider 20 = .ok (.iload_n 2, 1) := by decide +kernel
theorem dX0_setRider_21 : decode cX0_setRider 21 = .ok (.iastore, 1) := by decide +kernel
theorem dX0_setRider_22 : decode cX0_setRider 22 = .ok (.return_, 1) := by decide +kernel
theorem dX0_riderCount_0 : decode cX0_riderCount 0 = .ok (.iconst 0, 1) := by decide +kernel
theorem dX0_riderCount_1 : decode cX0_riderCount 1 = .ok (.istore_n 1, 1) := by decide +kernel
theorem dX0_riderCount_2 : decode cX0_riderCount 2 = .ok (.iconst 0, 1) := by decide +kernel
theorem dX0_riderCount_3 : decode cX0_riderCount 3 = .ok (.istore_n 2, 1) := by decide +kernel
theorem dX0_riderCount_4 : decode cX0_riderCount 4 = .ok (.iload_n 2, 1) := by decide +kernel
theorem dX0_riderCount_5 : decode cX0_riderCount 5 = .ok (.aload_n 0, 1) := by decide +kernel
theorem dX0_riderCount_6 : decode cX0_riderCount 6 = .ok (.getfield 11, 3) := by decide +kernel
theorem dX0_riderCount_9 : decode cX0_riderCount 9 = .ok (.arraylength, 1) := by decide +kernel
theorem dX0_riderCount_10 : decode cX0_riderCount 10 = .ok (.if_icmp .ge 23, 3) := by decide +kernel
theorem dX0_riderCount_13 : decode cX0_riderCount 13 = .ok (.aload_n 0, 1) := by decide +kernel
theorem dX0_riderCount_14 : decode cX0_riderCount 14 = .ok (.getfield 11, 3) := by decide +kernel
theorem dX0_riderCount_17 : decode cX0_riderCount 17 = .ok (.iload_n 2, 1) := by decide +kernel
theorem dX0_riderCount_18 : decode cX0_riderCount 18 = .ok (.iaload, 1) := by decide +kernel
theorem dX0_riderCount_19 : decode cX0_riderCount 19 = .ok (.bipush (-5), 2) := by decide +kernel
theorem dX0_riderCount_21 : decode cX0_riderCount 21 = .ok (.if_icmp .eq 6, 3) := by decide +kernel
theorem dX0_riderCount_24 : decode cX0_riderCount 24 = .ok (.iinc 1 1, 3) := by decide +kernel
theorem dX0_riderCount_27 : decode cX0_riderCount 27 = .ok (.iinc 2 1, 3) := by decide +kernel
theorem dX0_riderCount_30 : decode cX0_riderCount 30 = .ok (.goto (-26), 3) := by decide +kernel
theorem dX0_riderCount_33 : decode cX0_riderCount 33 = .ok (.iload_n 1, 1) := by decide +kernel
theorem dX0_riderCount_34 : decode cX0_riderCount 34 = .ok (.ireturn, 1) := by decide +kernel
set_option maxRecDepth 20000 in
theorem ggX0_advance_X0_around : GoodIn wsX0_advance wsX0_around := goodIn_r _ [10, 11, 12, 13, 14, 15, 16, 17, 18, 19, 20, 21] (by decide +kernel) (by decide +kernel)
set_option maxRecDepth 20000 in
theorem gX0_advance_X0_around : GoodIn wsX0_advance (wsV RX0 70 RX0 yX0_around wsX0_around) := goodIn_app (goodIn_of _ (by decide +kernel)) ggX0_advance_X0_around
theorem dX0_advance_0 : decode cX0_advance 0 = .ok (.aload_n 0, 1) := by decide +kernel
theorem dX0_advance_1 : decode cX0_advance 1 = .ok (.dup, 1) := by decide +kernel
theorem dX0_advance_2 : decode cX0_advance 2 = .ok (.getfield 47, 3) := by decide +kernel
theorem dX0_advance_5 : decode cX0_advance 5 = .ok (.aload_n 0, 1) := by decide +kernel
theorem dX0_advance_6 : decode cX0_advance 6 = .ok (.getfield 50, 3) := by decide +kernel
theorem dX0_advance_9 : decode cX0_advance 9 = .ok (.iadd, 1) := by decide +kernel
theorem dX0_advance_10 : decode cX0_advance 10 = .ok (.putfield 47, 3) := by decide +kernel
theorem dX0_advance_13 : decode cX0_advance 13 = .ok (.aload_n 0, 1) := by decide +kernel
theorem dX0_advance_14 : decode cX0_advance 14 = .ok (.getfield 47, 3) := by decide +kernel
theorem dX0_advance_17 : decode cX0_advance 17 = .ok (.bipush 10, 2) := by decide +kernel
theorem dX0_advance_19 : decode cX0_advance 19 = .ok (.if_icmp .lt 27, 3) := by decide +kernel
theorem dX0_advance_22 : decode cX0_advance 22 = .ok (.aload_n 0, 1) := by decide +kernel
theorem dX0_advance_23 : decode cX0_advance 23 = .ok (.dup, 1) := by decide +kernel
theorem dX0_advance_24 : decode cX0_advance 24 = .ok (.getfield 47, 3) := by decide +kernel
theorem dX0_advance_27 : decode cX0_advance 27 = .ok (.bipush 10, 2) := by decide +kernel
theorem dX0_advance_29 : decode cX0_advance 29 = .ok (.isub, 1) := by decide +kernel
theorem dX0_advance_30 : decode cX0_advance 30 = .ok (.putfield 47, 3) := by decide +kernel
theorem dX0_advance_33 : decode cX0_advance 33 = .ok (.aload_n 0, 1) := by decide +kernel
theorem dX0_advance_34 : decode cX0_advance 34 = .ok (.dup, 1) := by decide +kernel
theorem dX0_advance_35 : decode cX0_advance 35 = .ok (.getfield 53, 3) := by decide +kernel
theorem dX0_advance_38 : decode cX0_advance 38 = .ok (.iconst 1, 1) := by decide +kernel
theorem dX0_advance_39 : decode cX0_advance 39 = .ok (.iadd, 1) := by decide +kernel
theorem dX0_advance_40 : decode cX0_advance 40 = .ok (.putfield 53, 3) := by decide +kernel
theorem dX0_advance_43 : decode cX0_advance 43 = .ok (.bipush 6, 2) := by decide +kernel
theorem dX0_advance_45 : decode cX0_advance 45 = .ok (.ireturn, 1) := by decide +kernel
theorem dX0_advance_46 : decode cX0_advance 46 = .ok (.aload_n 0, 1) := by decide +kernel
theorem dX0_advance_47 : decode cX0_advance 47 = .ok (.getfield 47, 3) := by decide +kernel
theorem dX0_advance_50 : decode cX0_advance 50 = .ok (.bipush (-10), 2) := by decide +kernel
theorem dX0_advance_52 : decode cX0_advance 52 = .ok (.if_icmp .gt 41, 3) := by decide +kernel
theorem dX0_advance_55 : decode cX0_advance 55 = .ok (.aload_n 0, 1) := by decide +kernel
theorem dX0_advance_56 : decode cX0_advance 56 = .ok (.dup, 1) := by decide +kernel
theorem dX0_advance_57 : decode cX0_advance 57 = .ok (.getfield 47, 3) := by decide +kernel
theorem dX0_advance_60 : decode cX0_advance 60 = .ok (.bipush 10, 2) := by decide +kernel
theorem dX0_advance_62 : decode cX0_advance 62 = .ok (.iadd, 1) := by decide +kernel
theorem dX0_advance_63 : decode cX0_advance 63 = .ok (.putfield 47, 3) := by decide +kernel
theorem dX0_advance_66 : decode cX0_advance 66 = .ok (.aload_n 0, 1) := by decide +kernel
theorem dX0_advance_67 : decode cX0_advance 67 = .ok (.dup, 1) := by decide +kernel
theorem dX0_advance_68 : decode cX0_advance 68 = .ok (.getfield 56, 3) := by decide +kernel
theorem dX0_advance_71 : decode cX0_advance 71 = .ok (.iconst 1, 1) := by decide +kernel
theorem dX0_advance_72 : decode cX0_advance 72 = .ok (.iadd, 1) := by decide +kernel
theorem dX0_advance_73 : decode cX0_advance 73 = .ok (.putfield 56, 3) := by decide +kernel
theorem dX0_advance_76 : decode cX0_advance 76 = .ok (.aload_n 0, 1) := by decide +kernel
theorem dX0_advance_77 : decode cX0_advance 77 = .ok (.aload_n 0, 1) := by decide +kernel
theorem dX0_advance_78 : decode cX0_advance 78 = .ok (.aload_n 0, 1) := by decide +kernel
theorem dX0_advance_79 : decode cX0_advance 79 = .ok (.getfield 44, 3) := by decide +kernel
theorem dX0_advance_82 : decode cX0_advance 82 = .ok (.iconst 2, 1) := by decide +kernel
theorem dX0_advance_83 : decode cX0_advance 83 = .ok (.iadd, 1) := by decide +kernel
theorem dX0_advance_84 : decode cX0_advance 84 = .ok (.invokevirtual 70, 3) := by decide +kernel
theorem dX0_advance_87 : decode cX0_advance 87 = .ok (.putfield 44, 3) := by decide +kernel
theorem dX0_advance_90 : decode cX0_advance 90 = .ok (.bipush 7, 2) := by decide +kernel
theorem dX0_advance_92 : decode cX0_advance 92 = .ok (.ireturn, 1) := by decide +kernel
theorem dX0_advance_93 : decode cX0_advance 93 = .ok (.aload_n 0, 1) := by decide +kernel
theorem dX0_advance_94 : decode cX0_advance 94 = .ok (.aload_n 0, 1) := by decide +kernel
theorem dX0_advance_95 : decode cX0_advance 95 = .ok (.aload_n 0, 1) := by decide +kernel
theorem dX0_advance_96 : decode cX0_advance 96 = .ok (.getfield 44, 3) := by decide +kernel
theorem dX0_advance_99 : decode cX0_advance 99 = .ok (.iconst 1, 1) := by decide +kernel
theorem dX0_advance_100 : decode cX0_advance 100 = .ok (.iadd, 1) := by decide +kernel
theorem dX0_advance_101 : decode cX0_advance 101 = .ok (.invokevirtual 70, 3) := by decide +kernel
theorem dX0_advance_104 : decode cX0_advance 104 = .ok (.putfield 44, 3) := by decide +kernel
theorem dX0_advance_107 : decode cX0_advance 107 = .ok (.bipush (-5), 2) := by decide +kernel
theorem dX0_advance_109 : decode cX0_advance 109 = .ok (.ireturn, 1) := by decide +kernel
