set_option maxRecDepth 20000 in
theorem ggX6_init_X7_init : GoodIn wsX6_init wsX7_init := goodIn_r _ [11, 12, 2, 3] (by decide +kernel) (by decide +kernel)
set_option maxRecDepth 20000 in
theorem gX6_init_X7_init_n21 : GoodIn wsX6_init (wsX7_init) := ggX6_init_X7_init
theorem dX6_init_0 : decode cX6_init 0 = .ok (.aload_n 0, 1) := by decide +kernel
theorem dX6_init_1 : decode cX6_init 1 = .ok (.invokespecial 3, 3) := by decide +kernel
theorem dX6_init_4 : decode cX6_init 4 = .ok (.aload_n 0, 1) := by decide +kernel
theorem dX6_init_5 : decode cX6_init 5 = .ok (.bipush 60, 2) := by decide +kernel
theorem dX6_init_7 : decode cX6_init 7 = .ok (.newarray .char, 2) := by decide +kernel
theorem dX6_init_9 : decode cX6_init 9 = .ok (.putfield 11, 3) := by decide +kernel
theorem dX6_init_12 : decode cX6_init 12 = .ok (.aload_n 0, 1) := by decide +kernel
theorem dX6_init_13 : decode cX6_init 13 = .ok (.iconst 5, 1) := by decide +kernel
theorem dX6_init_14 : decode cX6_init 14 = .ok (.anewarray 15, 3) := by decide +kernel
theorem dX6_init_17 : decode cX6_init 17 = .ok (.putfield 17, 3) := by decide +kernel
theorem dX6_init_20 : decode cX6_init 20 = .ok (.iconst 0, 1) := by decide +kernel
theorem dX6_init_21 : decode cX6_init 21 = .ok (.istore_n 1, 1) := by decide +kernel
theorem dX6_init_22 : decode cX6_init 22 = .ok (.iload_n 1, 1) := by decide +kernel
theorem dX6_init_23 : decode cX6_init 23 = .ok (.aload_n 0, 1) := by decide +kernel
theorem dX6_init_24 : decode cX6_init 24 = .ok (.getfield 17, 3) := by decide +kernel
theorem dX6_init_27 : decode cX6_init 27 = .ok (.arraylength, 1) := by decide +kernel
theorem dX6_init_28 : decode cX6_init 28 = .ok (.if_icmp .ge 22, 3) := by decide +kernel
theorem dX6_init_31 : decode cX6_init 31 = .ok (.aload_n 0, 1) := by decide +kernel
theorem dX6_init_32 : decode cX6_init 32 = .ok (.getfield 17, 3) := by decide +kernel
theorem dX6_init_35 : decode cX6_init 35 = .ok (.iload_n 1, 1) := by decide +kernel
theorem dX6_init_36 : decode cX6_init 36 = .ok (.new 15, 3) := by decide +kernel
theorem dX6_init_39 : decode cX6_init 39 = .ok (.dup, 1) := by decide +kernel
theorem dX6_init_40 : decode cX6_init 40 = .ok (.invokespecial 21, 3) := by decide +kernel
theorem dX6_init_43 : decode cX6_init 43 = .ok (.aastore, 1) := by decide +kernel
theorem dX6_init_44 : decode cX6_init 44 = .ok (.iinc 1 1, 3) := by decide +kernel
theorem dX6_init_47 : decode cX6_init 47 = .ok (.goto (-25), 3) := by decide +kernel
theorem dX6_init_50 : decode cX6_init 50 = .ok (.return_, 1) := by decide +kernel
set_option maxRecDepth 20000 in
theorem ggX6_append_X8_within : GoodIn wsX6_append wsX8_within := goodIn_r _ [5] (by decide +kernel) (by decide +kernel)
set_option maxRecDepth 20000 in
theorem gX6_append_X8_within_n26 : GoodIn wsX6_append (wsX8_within) := ggX6_append_X8_within
theorem dX6_append_0 : decode cX6_append 0 = .ok (.aload_n 0, 1) := by decide +kernel
theorem dX6_append_1 : decode cX6_append 1 = .ok (.getfield 22, 3) := by decide +kernel
theorem dX6_append_4 : decode cX6_append 4 = .ok (.iconst 0, 1) := by decide +kernel
theorem dX6_append_5 : decode cX6_append 5 = .ok (.aload_n 0, 1) := by decide +kernel
theorem dX6_append_6 : decode cX6_append 6 = .ok (.getfield 11, 3) := by decide +kernel
theorem dX6_append_9 : decode cX6_append 9 = .ok (.arraylength, 1) := by decide +kernel
theorem dX6_append_10 : decode cX6_append 10 = .ok (.iconst 1, 1) := by decide +kernel
theorem dX6_append_11 : decode cX6_append 11 = .ok (.isub, 1) := by decide +kernel
theorem dX6_append_12 : decode cX6_append 12 = .ok (.invokestatic 26, 3) := by decide +kernel
theorem dX6_append_15 : decode cX6_append 15 = .ok (.ifCond .ne 6, 3) := by decide +kernel
theorem dX6_append_18 : decode cX6_append 18 = .ok (.bipush (-3), 2) := by decide +kernel
theorem dX6_append_20 : decode cX6_append 20 = .ok (.ireturn, 1) := by decide +kernel
theorem dX6_append_21 : decode cX6_append 21 = .ok (.aload_n 0, 1) := by decide +kernel
theorem dX6_append_22 : decode cX6_append 22 = .ok (.getfield 11, 3) := by decide +kernel
theorem dX6_append_25 : decode cX6_append 25 = .ok (.aload_n 0, 1) := by decide +kernel
theorem dX6_append_26 : decode cX6_append 26 = .ok (.getfield 22, 3) := by decide +kernel
theorem dX6_append_29 : decode cX6_append 29 = .ok (.iload_n 1, 1) := by decide +kernel
theorem dX6_append_30 : decode cX6_append 30 = .ok (.castore, 1) := by decide +kernel
theorem dX6_append_31 : decode cX6_append 31 = .ok (.aload_n 0, 1) := by decide +kernel
theorem dX6_append_32 : decode cX6_append 32 = .ok (.dup, 1) := by decide +kernel
theorem dX6_append_33 : decode cX6_append 33 = .ok (.getfield 22, 3) := by decide +kernel
theorem dX6_append_36 : decode cX6_append 36 = .ok (.iconst 1, 1) := by decide +kernel
theorem dX6_append_37 : decode cX6_append 37 = .ok (.iadd, 1) := by decide +kernel
theorem dX6_append_38 : decode cX6_append 38 = .ok (.putfield 22, 3) := by decide +kernel
theorem dX6_append_41 : decode cX6_append 41 = .ok (.aload_n 0, 1) := by decide +kernel
theorem dX6_append_42 : decode cX6_append 42 = .ok (.getfield 22, 3) := by decide +kernel
theorem dX6_append_45 : decode cX6_append 45 = .ok (.ireturn, 1) := by decide +kernel
set_option maxRecDepth 20000 in
theorem ggX6_findFault_X6_readTrip : GoodIn wsX6_findFault wsX6_readTrip := goodIn_r _ [9, 10, 11, 12, 13, 14, 15, 16, 17, 8, 18, 19, 20, 21, 22, 1, 23, 24, 25, 26, 4, 27, 28, 29, 30, 31, 32, 33, 34, 35, 36, 37, 38, 44, 45, 46, 47, 48, 39, 40, 41, 42, 43] (by decide +kernel) (by decide +kernel)
set_option maxRecDepth 20000 in
theorem gX6_findFault_X6_readTrip : GoodIn wsX6_findFault (wsV RX6 36 RX6 yX6_readTrip wsX6_readTrip) := goodIn_app (goodIn_of _ (by decide +kernel)) ggX6_findFault_X6_readTrip
set_option maxRecDepth 20000 in
theorem ggX6_findFault_X6_accept : GoodIn wsX6_findFault wsX6_accept := goodIn_r _ [34, 1, 23, 24, 25, 8, 26, 4, 27, 28, 29, 30, 39, 40, 41, 42, 43] (by decide +kernel) (by decide +kernel)
set_option maxRecDepth 20000 in
theorem gX6_findFault_X6_accept : GoodIn wsX6_findFault (wsV RX6 40 RX6 yX6_accept wsX6_accept) := goodIn_app (goodIn_of _ (by decide +kernel)) ggX6_findFault_X6_accept
theorem dX6_findFault_0 : decode cX6_findFault 0 = .ok (.aload_n 0, 1) := by decide +kernel
theorem dX6_findFault_1 : decode cX6_findFault 1 = .ok (.iconst 0, 1) := by decide +kernel
theorem dX6_findFault_2 : decode cX6_findFault 2 = .ok (.putfield 30, 3) := by decide +kernel
theorem dX6_findFault_5 : decode cX6_findFault 5 = .ok (.aload_n 0, 1) := by decide +kernel
theorem dX6_findFault_6 : decode cX6_findFault 6 = .ok (.iconst 0, 1) := by decide +kernel
theorem dX6_findFault_7 : decode cX6_findFault 7 = .ok (.putfield 33, 3) := by decide +kernel
theorem dX6_findFault_10 : decode cX6_findFault 10 = .ok (.iconst 0, 1) := by decide +kernel
theorem dX6_findFault_11 : decode cX6_findFault 11 = .ok (.istore_n 1, 1) := by decide +kernel
theorem dX6_findFault_12 : decode cX6_findFault 12 = .ok (.iload_n 1, 1) := by decide +kernel
theorem dX6_findFault_13 : decode cX6_findFault 13 = .ok (.aload_n 0, 1) := by decide +kernel
theorem dX6_findFault_14 : decode cX6_findFault 14 = .ok (.getfield 17, 3) := by decide +kernel
theorem dX6_findFault_17 : decode cX6_findFault 17 = .ok (.arraylength, 1) := by decide +kernel
theorem dX6_findFault_18 : decode cX6_findFault 18 = .ok (.if_icmp .ge 62, 3) := by decide +kernel
theorem dX6_findFault_21 : decode cX6_findFault 21 = .ok (.aload_n 0, 1) := by decide +kernel
theorem dX6_findFault_22 : decode cX6_findFault 22 = .ok (.aload_n 0, 1) := by decide +kernel
theorem dX6_findFault_23 : decode cX6_findFault 23 = .ok (.getfield 17, 3) := by decide +kernel
theorem dX6_findFault_26 : decode cX6_findFault 26 = .ok (.iload_n 1, 1) := by decide +kernel
theorem dX6_findFault_27 : decode cX6_findFault 27 = .ok (.aaload, 1) := by decide +kernel
theorem dX6_findFault_28 : decode cX6_findFault 28 = .ok (.invokevirtual 36, 3) := by decide +kernel
theorem dX6_findFault_31 : decode cX6_findFault 31 = .ok (.ifCond .ne 8, 3) := by decide +kernel
theorem dX6_findFault_34 : decode cX6_findFault 34 = .ok (.aload_n 0, 1) := by decide +kernel
theorem dX6_findFault_35 : decode cX6_findFault 35 = .ok (.getfield 30, 3) := by decide +kernel
theorem dX6_findFault_38 : decode cX6_findFault 38 = .ok (.ireturn, 1) := by decide +kernel
theorem dX6_findFault_39 : decode cX6_findFault 39 = .ok (.aload_n 0, 1) := by decide +kernel
theorem dX6_findFault_40 : decode cX6_findFault 40 = .ok (.iload_n 1, 1) := by decide +kernel
theorem dX6_findFault_41 : decode cX6_findFault 41 = .ok (.iconst 1, 1) := by decide +kernel
theorem dX6_findFault_42 : decode cX6_findFault 42 = .ok (.iadd, 1) := by decide +kernel
theorem dX6_findFault_43 : decode cX6_findFault 43 = .ok (.putfield 33, 3) := by decide +kernel
theorem dX6_findFault_46 : decode cX6_findFault 46 = .ok (.aload_n 0, 1) := by decide +kernel
theorem dX6_findFault_47 : decode cX6_findFault 47 = .ok (.getfield 30, 3) := by decide +kernel
theorem dX6_findFault_50 : decode cX6_findFault 50 = .ok (.aload_n 0, 1) := by decide +kernel
theorem dX6_findFault_51 : decode cX6_findFault 51 = .ok (.getfield 22, 3) := by decide +kernel
theorem dX6_findFault_54 : decode cX6_findFault 54 = .ok (.if_icmp .lt 6, 3) := by decide +kernel
theorem dX6_findFault_57 : decode cX6_findFault 57 = .ok (.bipush (-5), 2) := by decide +kernel
theorem dX6_findFault_59 : decode cX6_findFault 59 = .ok (.ireturn, 1) := by decide +kernel
theorem dX6_findFault_60 : decode cX6_findFault 60 = .ok (.aload_n 0, 1) := by decide +kernel
theorem dX6_findFault_61 : decode cX6_findFault 61 = .ok (.bipush 59, 2) := by decide +kernel
theorem dX6_findFault_63 : decode cX6_findFault 63 = .ok (.invokevirtual 40, 3) := by decide +kernel
theorem dX6_findFault_66 : decode cX6_findFault 66 = .ok (.ifCond .ne 8, 3) := by decide +kernel
theorem dX6_findFault_69 : decode cX6_findFault 69 = .ok (.aload_n 0, 1) := by decide +kernel
theorem dX6_findFault_70 : decode cX6_findFault 70 = .ok (.getfield 30, 3) := by decide +kernel
theorem dX6_findFault_73 : decode cX6_findFault 73 = .ok (.ireturn, 1) := by decide +kernel
theorem dX6_findFault_74 : decode cX6_findFault 74 = .ok (.iinc 1 1, 3) := by decide +kernel
theorem dX6_findFault_77 : decode cX6_findFault 77 = .ok (.goto (-65), 3) := by decide +kernel
theorem dX6_findFault_80 : decode cX6_findFault 80 = .ok (.aload_n 0, 1) := by decide +kernel
theorem dX6_findFault_81 : decode cX6_findFault 81 = .ok (.getfield 30, 3) := by decide +kernel
theorem dX6_findFault_84 : decode cX6_findFault 84 = .ok (.ireturn, 1) := by decide +kernel
set_option maxRecDepth 20000 in
theorem ggX6_readTrip_X6_readValue : GoodIn wsX6_readTrip wsX6_readValue := goodIn_r _ [10, 11, 12, 13, 9, 14, 15, 16, 17, 18, 19, 20, 21, 22, 23, 24, 38, 39, 40, 41, 42] (by decide +kernel) (by decide +kernel)
set_option maxRecDepth 20000 in
theorem gX6_readTrip_X6_readValue : GoodIn wsX6_readTrip (wsV RX6 44 RX6 yX6_readValue wsX6_readValue) := goodIn_app (goodIn_of _ (by decide +kernel)) ggX6_readTrip_X6_readValue
set_option maxRecDepth 20000 in
theorem ggX6_readTrip_X6_accept : GoodIn wsX6_readTrip wsX6_accept := goodIn_r _ [28, 15, 16, 17, 18, 9, 19, 20, 21, 22, 23, 24, 38, 39, 40, 41, 42] (by decide +kernel) (by decide +kernel)
set_option maxRecDepth 20000 in
theorem gX6_readTrip_X6_accept : GoodIn wsX6_readTrip (wsV RX6 40 RX6 yX6_accept wsX6_accept) := goodIn_app (goodIn_of _ (by decide +kernel)) ggX6_readTrip_X6_accept
set_option maxRecDepth 20000 in
theorem ggX6_readTrip_X6_readDigit : GoodIn wsX6_readTrip wsX6_readDigit := goodIn_r _ [14, 15, 16, 17, 18, 9, 19, 20, 21, 22, 23, 24, 38, 39, 40, 41, 42] (by decide +kernel) (by decide +kernel)
set_option maxRecDepth 20000 in
theorem gX6_readTrip_X6_readDigit : GoodIn wsX6_readTrip (wsV RX6 51 RX6 yX6_readDigit wsX6_readDigit) := goodIn_app (goodIn_of _ (by decide +kernel)) ggX6_readTrip_X6_readDigit
set_option maxRecDepth 20000 in
theorem ggX6_readTrip_X6_readStation : GoodIn wsX6_readTrip wsX6_readStation := goodIn_r _ [32, 11, 12, 13, 9, 14, 15, 16, 17, 18, 19, 20, 21, 22, 23, 24, 38, 39, 40, 41, 42] (by decide +kernel) (by decide +kernel)
set_option maxRecDepth 20000 in
theorem gX6_readTrip_X6_readStation : GoodIn wsX6_readTrip (wsV RX6 58 RX6 yX6_readStation wsX6_readStation) := goodIn_app (goodIn_of _ (by decide +kernel)) ggX6_readTrip_X6_readStation
theorem dX6_readTrip_0 : decode cX6_readTrip 0 = .ok (.aload_n 1, 1) := by decide +kernel
theorem dX6_readTrip_1 : decode cX6_readTrip 1 = .ok (.aload_n 0, 1) := by decide +kernel
theorem dX6_readTrip_2 : decode cX6_readTrip 2 = .ok (.invokevirtual 44, 3) := by decide +kernel
theorem dX6_readTrip_5 : decode cX6_readTrip 5 = .ok (.putfield 48, 3) := by decide +kernel
theorem dX6_readTrip_8 : decode cX6_readTrip 8 = .ok (.aload_n 1, 1) := by decide +kernel
theorem dX6_readTrip_9 : decode cX6_readTrip 9 = .ok (.getfield 48, 3) := by decide +kernel
theorem dX6_readTrip_12 : decode cX6_readTrip 12 = .ok (.ifCond .lt 12, 3) := by decide +kernel
theorem dX6_readTrip_15 : decode cX6_readTrip 15 = .ok (.aload_n 0, 1) := by decide +kernel
theorem dX6_readTrip_16 : decode cX6_readTrip 16 = .ok (.bipush 44, 2) := by decide +kernel
theorem dX6_readTrip_18 : decode cX6_readTrip 18 = .ok (.invokevirtual 40, 3) := by decide +kernel
theorem dX6_readTrip_21 : decode cX6_readTrip 21 = .ok (.ifCond .ne 5, 3) := by decide +kernel
theorem dX6_readTrip_24 : decode cX6_readTrip 24 = .ok (.iconst 0, 1) := by decide +kernel
theorem dX6_readTrip_25 : decode cX6_readTrip 25 = .ok (.ireturn, 1) := by decide +kernel
theorem dX6_readTrip_26 : decode cX6_readTrip 26 = .ok (.aload_n 1, 1) := by decide +kernel
theorem dX6_readTrip_27 : decode cX6_readTrip 27 = .ok (.aload_n 0, 1) := by decide +kernel
theorem dX6_readTrip_28 : decode cX6_readTrip 28 = .ok (.iconst 1, 1) := by decide +kernel
theorem dX6_readTrip_29 : decode cX6_readTrip 29 = .ok (.iconst 3, 1) := by decide +kernel
theorem dX6_readTrip_30 : decode cX6_readTrip 30 = .ok (.invokevirtual 51, 3) := by decide +kernel
theorem dX6_readTrip_33 : decode cX6_readTrip 33 = .ok (.putfield 55, 3) := by decide +kernel
theorem dX6_readTrip_36 : decode cX6_readTrip 36 = .ok (.aload_n 1, 1) := by decide +kernel
theorem dX6_readTrip_37 : decode cX6_readTrip 37 = .ok (.getfield 55, 3) := by decide +kernel
theorem dX6_readTrip_40 : decode cX6_readTrip 40 = .ok (.ifCond .lt 12, 3) := by decide +kernel
theorem dX6_readTrip_43 : decode cX6_readTrip 43 = .ok (.aload_n 0, 1) := by decide +kernel
theorem dX6_readTrip_44 : decode cX6_readTrip 44 = .ok (.bipush 44, 2) := by decide +kernel
theorem dX6_readTrip_46 : decode cX6_readTrip 46 = .ok (.invokevirtual 40, 3) := by decide +kernel
theorem dX6_readTrip_49 : decode cX6_readTrip 49 = .ok (.ifCond .ne 5, 3) := by decide +kernel
theorem dX6_readTrip_52 : decode cX6_readTrip 52 = .ok (.iconst 0, 1) := by decide +kernel
theorem dX6_readTrip_53 : decode cX6_readTrip 53 = .ok (.ireturn, 1) := by decide +kernel
theorem dX6_readTrip_54 : decode cX6_readTrip 54 = .ok (.aload_n 1, 1) := by decide +kernel
theorem dX6_readTrip_55 : decode cX6_readTrip 55 = .ok (.aload_n 0, 1) := by decide +kernel
theorem dX6_readTrip_56 : decode cX6_readTrip 56 = .ok (.invokevirtual 58, 3) := by decide +kernel
theorem dX6_readTrip_59 : decode cX6_readTrip 59 = .ok (.putfield 61, 3) := by decide +kernel
theorem dX6_readTrip_62 : decode cX6_readTrip 62 = .ok (.aload_n 1, 1) := by decide +kernel
theorem dX6_readTrip_63 : decode cX6_readTrip 63 = .ok (.getfield 61, 3) := by decide +kernel
theorem dX6_readTrip_66 : decode cX6_readTrip 66 = .ok (.ifCond .lt 12, 3) := by decide +kernel
theorem dX6_readTrip_69 : decode cX6_readTrip 69 = .ok (.aload_n 0, 1) := by decide +kernel
theorem dX6_readTrip_70 : decode cX6_readTrip 70 = .ok (.bipush 62, 2) := by decide +kernel
theorem dX6_readTrip_72 : decode cX6_readTrip 72 = .ok (.invokevirtual 40, 3) := by decide +kernel
theorem dX6_readTrip_75 : decode cX6_readTrip 75 = .ok (.ifCond .ne 5, 3) := by decide +kernel
theorem dX6_readTrip_78 : decode cX6_readTrip 78 = .ok (.iconst 0, 1) := by decide +kernel
theorem dX6_readTrip_79 : decode cX6_readTrip 79 = .ok (.ireturn, 1) := by decide +kernel
theorem dX6_readTrip_80 : decode cX6_readTrip 80 = .ok (.aload_n 1, 1) := by decide +kernel
theorem dX6_readTrip_81 : decode cX6_readTrip 81 = .ok (.aload_n 0, 1) := by decide +kernel
theorem dX6_readTrip_82 : decode cX6_readTrip 82 = .ok (.invokevirtual 58, 3) := by decide +kernel
theorem dX6_readTrip_85 : decode cX6_readTrip 85 = .ok (.putfield 64, 3) := by decide +kernel
theorem dX6_readTrip_88 : decode cX6_readTrip 88 = .ok (.aload_n 1, 1) := by decide +kernel
theorem dX6_readTrip_89 : decode cX6_readTrip 89 = .ok (.getfield 64, 3) := by decide +kernel
theorem dX6_readTrip_92 : decode cX6_readTrip 92 = .ok (.ifCond .lt 12, 3) := by decide +kernel
theorem dX6_readTrip_95 : decode cX6_readTrip 95 = .ok (.aload_n 0, 1) := by decide +kernel
theorem dX6_readTrip_96 : decode cX6_readTrip 96 = .ok (.bipush 42, 2) := by decide +kernel
theorem dX6_readTrip_98 : decode cX6_readTrip 98 = .ok (.invokevirtual 40, 3) := by decide +kernel
theorem dX6_readTrip_101 : decode cX6_readTrip 101 = .ok (.ifCond .ne 5, 3) := by decide +kernel
theorem dX6_readTrip_104 : decode cX6_readTrip 104 = .ok (.iconst 0, 1) := by decide +kernel
theorem dX6_readTrip_105 : decode cX6_readTrip 105 = .ok (.ireturn, 1) := by decide +kernel
theorem dX6_readTrip_106 : decode cX6_readTrip 106 = .ok (.aload_n 1, 1) := by decide +kernel
theorem dX6_readTrip_107 : decode cX6_readTrip 107 = .ok (.aload_n 0, 1) := by decide +kernel
theorem dX6_readTrip_108 : decode cX6_readTrip 108 = .ok (.iconst 1, 1) := by decide +kernel
theorem dX6_readTrip_109 : decode cX6_readTrip 109 = .ok (.bipush 9, 2) := by decide +kernel
theorem dX6_readTrip_111 : decode cX6_readTrip 111 = .ok (.invokevirtual 51, 3) := by decide +kernel
theorem dX6_readTrip_114 : decode cX6_readTrip 114 = .ok (.putfield 67, 3) := by decide +kernel
theorem dX6_readTrip_117 : decode cX6_readTrip 117 = .ok (.aload_n 1, 1) := by decide +kernel
theorem dX6_readTrip_118 : decode cX6_readTrip 118 = .ok (.getfield 67, 3) := by decide +kernel
theorem dX6_readTrip_121 : decode cX6_readTrip 121 = .ok (.ifCond .lt 7, 3) := by decide +kernel
theorem dX6_readTrip_124 : decode cX6_readTrip 124 = .ok (.iconst 1, 1) := by decide +kernel
theorem dX6_readTrip_125 : decode cX6_readTrip 125 = .ok (.goto 4, 3) := by decide +kernel
theorem dX6_readTrip_128 : decode cX6_readTrip 128 = .ok (.iconst 0, 1) := by decide +kernel
theorem dX6_readTrip_129 : decode cX6_readTrip 129 = .ok (.ireturn, 1) := by decide +kernel
set_option maxRecDepth 20000 in
theorem ggX6_readValue_X6_readDigit : GoodIn wsX6_readValue wsX6_readDigit := goodIn_r _ [5, 6, 7, 8, 9, 4, 10, 11, 12, 13, 14, 15, 16, 17, 18, 19, 20] (by decide +kernel) (by decide +kernel)
set_option maxRecDepth 20000 in
theorem gX6_readValue_X6_readDigit : GoodIn wsX6_readValue (wsV RX6 51 RX6 yX6_readDigit wsX6_readDigit) := goodIn_app (goodIn_of _ (by decide +kernel)) ggX6_readValue_X6_readDigit
theorem dX6_readValue_0 : decode cX6_readValue 0 = .ok (.aload_n 0, 1) := by decide +kernel
theorem dX6_readValue_1 : decode cX6_readValue 1 = .ok (.iconst 0, 1) := by decide +kernel
theorem dX6_readValue_2 : decode cX6_readValue 2 = .ok (.bipush 9, 2) := by decide +kernel
theorem dX6_readValue_4 : decode cX6_readValue 4 = .ok (.invokevirtual 51, 3) := by decide +kernel
theorem dX6_readValue_7 : decode cX6_readValue 7 = .ok (.istore_n 1, 1) := by decide +kernel
theorem dX6_readValue_8 : decode cX6_readValue 8 = .ok (.iload_n 1, 1) := by decide +kernel
theorem dX6_readValue_9 : decode cX6_readValue 9 = .ok (.ifCond .gt 5, 3) := by decide +kernel
theorem dX6_readValue_12 : decode cX6_readValue 12 = .ok (.iload_n 1, 1) := by decide +kernel
theorem dX6_readValue_13 : decode cX6_readValue 13 = .ok (.ireturn, 1) := by decide +kernel
theorem dX6_readValue_14 : decode cX6_readValue 14 = .ok (.iconst 0, 1) := by decide +kernel
theorem dX6_readValue_15 : decode cX6_readValue 15 = .ok (.istore_n 2, 1) := by decide +kernel
theorem dX6_readValue_16 : decode cX6_readValue 16 = .ok (.iload_n 2, 1) := by decide +kernel
theorem dX6_readValue_17 : decode cX6_readValue 17 = .ok (.iconst 4, 1) := by decide +kernel
theorem dX6_readValue_18 : decode cX6_readValue 18 = .ok (.if_icmp .ge 30, 3) := by decide +kernel
theorem dX6_readValue_21 : decode cX6_readValue 21 = .ok (.aload_n 0, 1) := by decide +kernel
theorem dX6_readValue_22 : decode cX6_readValue 22 = .ok (.iconst 0, 1) := by decide +kernel
theorem dX6_readValue_23 : decode cX6_readValue 23 = .ok (.bipush 9, 2) := by decide +kernel
theorem dX6_readValue_25 : decode cX6_readValue 25 = .ok (.invokevirtual 51, 3) := by decide +kernel
theorem dX6_readValue_28 : decode cX6_readValue 28 = .ok (.istore_n 3, 1) := by decide +kernel
theorem dX6_readValue_29 : decode cX6_readValue 29 = .ok (.iload_n 3, 1) := by decide +kernel
theorem dX6_readValue_30 : decode cX6_readValue 30 = .ok (.ifCond .ge 5, 3) := by decide +kernel
theorem dX6_readValue_33 : decode cX6_readValue 33 = .ok (.iload_n 1, 1) := by decide +kernel
theorem dX6_readValue_34 : decode cX6_readValue 34 = .ok (.ireturn, 1) := by decide +kernel
theorem dX6_readValue_35 : decode cX6_readValue 35 = .ok (.iload_n 1, 1) := by decide +kernel
theorem dX6_readValue_36 : decode cX6_readValue 36 = .ok (.bipush 10, 2) := by decide +kernel
theorem dX6_readValue_38 : decode cX6_readValue 38 = .ok (.imul, 1) := by decide +kernel
theorem dX6_readValue_39 : decode cX6_readValue 39 = .ok (.iload_n 3, 1) := by decide +kernel
theorem dX6_readValue_40 : decode cX6_readValue 40 = .ok (.iadd, 1) := by decide +kernel
theorem dX6_readValue_41 : decode cX6_readValue 41 = .ok (.istore_n 1, 1) := by decide +kernel
theorem dX6_readValue_42 : decode cX6_readValue 42 = .ok (.iinc 2 1, 3) := by decide +kernel
theorem dX6_readValue_45 : decode cX6_readValue 45 = .ok (.goto (-29), 3) := by decide +kernel
theorem dX6_readValue_48 : decode cX6_readValue 48 = .ok (.iload_n 1, 1) := by decide +kernel
theorem dX6_readValue_49 : decode cX6_readValue 49 = .ok (.ireturn, 1) := by decide +kernel
set_option maxRecDepth 20000 in
theorem ggX6_readStation_X6_readDigit : GoodIn wsX6_readStation wsX6_readDigit := goodIn_r _ [5, 6, 7, 8, 9, 4, 10, 11, 12, 13, 14, 15, 16, 17, 18, 19, 20] (by decide +kernel) (by decide +kernel)
set_option maxRecDepth 20000 in
theorem gX6_readStation_X6_readDigit : GoodIn wsX6_readStation (wsV RX6 51 RX6 yX6_readDigit wsX6_readDigit) := goodIn_app (goodIn_of _ (by decide +kernel)) ggX6_readStation_X6_readDigit
theorem dX6_readStation_0 : decode cX6_readStation 0 = .ok (.aload_n 0, 1) := by decide +kernel
theorem dX6_readStation_1 : decode cX6_readStation 1 = .ok (.iconst 0, 1) := by decide +kernel
theorem dX6_readStation_2 : decode cX6_readStation 2 = .ok (.iconst 1, 1) := by decide +kernel
theorem dX6_readStation_3 : decode cX6_readStation 3 = .ok (.invokevirtual 51, 3) := by decide +kernel
theorem dX6_readStation_6 : decode cX6_readStation 6 = .ok (.istore_n 1, 1) := by decide +kernel
theorem dX6_readStation_7 : decode cX6_readStation 7 = .ok (.iload_n 1, 1) := by decide +kernel
theorem dX6_readStation_8 : decode cX6_readStation 8 = .ok (.ifCond .ge 8, 3) := by decide +kernel
theorem dX6_readStation_11 : decode cX6_readStation 11 = .ok (.bipush (-5), 2) := by decide +kernel
theorem dX6_readStation_13 : decode cX6_readStation 13 = .ok (.goto 9, 3) := by decide +kernel
theorem dX6_readStation_16 : decode cX6_readStation 16 = .ok (.aload_n 0, 1) := by decide +kernel
theorem dX6_readStation_17 : decode cX6_readStation 17 = .ok (.iconst 0, 1) := by decide +kernel
theorem dX6_readStation_18 : decode cX6_readStation 18 = .ok (.iconst 5, 1) := by decide +kernel
theorem dX6_readStation_19 : decode cX6_readStation 19 = .ok (.invokevirtual 51, 3) := by decide +kernel
theorem dX6_readStation_22 : decode cX6_readStation 22 = .ok (.istore_n 2, 1) := by decide +kernel
theorem dX6_readStation_23 : decode cX6_readStation 23 = .ok (.iload_n 2, 1) := by decide +kernel
theorem dX6_readStation_24 : decode cX6_readStation 24 = .ok (.ifCond .ge 8, 3) := by decide +kernel
theorem dX6_readStation_27 : decode cX6_readStation 27 = .ok (.bipush (-5), 2) := by decide +kernel
theorem dX6_readStation_29 : decode cX6_readStation 29 = .ok (.goto 9, 3) := by decide +kernel
theorem dX6_readStation_32 : decode cX6_readStation 32 = .ok (.bipush 10, 2) := by decide +kernel
theorem dX6_readStation_34 : decode cX6_readStation 34 = .ok (.iload_n 1, 1) := by decide +kernel
theorem dX6_readStation_35 : decode cX6_readStation 35 = .ok (.imul, 1) := by decide +kernel
theorem dX6_readStation_36 : decode cX6_readStation 36 = .ok (.iload_n 2, 1) := by decide +kernel
theorem dX6_readStation_37 : decode cX6_readStation 37 = .ok (.iadd, 1) := by decide +kernel
theorem dX6_readStation_38 : decode cX6_readStation 38 = .ok (.ireturn, 1) := by decide +kernel
set_option maxRecDepth 20000 in
theorem ggX6_readDigit_X6_signHere : GoodIn wsX6_readDigit wsX6_signHere := goodIn_r _ [6, 1, 7, 8, 9, 10, 11, 12, 13, 14, 15, 16] (by decide +kernel) (by decide +kernel)
set_option maxRecDepth 20000 in
theorem gX6_readDigit_X6_signHere : GoodIn wsX6_readDigit (wsV RX6 70 RX6 yX6_signHere wsX6_signHere) := goodIn_app (goodIn_of _ (by decide +kernel)) ggX6_readDigit_X6_signHere
set_option maxRecDepth 20000 in
theorem ggX6_readDigit_X8_within : GoodIn wsX6_readDigit wsX8_within := goodIn_r _ [11] (by decide +kernel) (by decide +kernel)
set_option maxRecDepth 20000 in
theorem gX6_readDigit_X8_within_n26 : GoodIn wsX6_readDigit (wsX8_within) := ggX6_readDigit_X8_within
theorem dX6_readDigit_0 : decode cX6_readDigit 0 = .ok (.aload_n 0, 1) := by decide +kernel
theorem dX6_readDigit_1 : decode cX6_readDigit 1 = .ok (.invokevirtual 70, 3) := by decide +kernel
theorem dX6_readDigit_4 : decode cX6_readDigit 4 = .ok (.bipush 48, 2) := by decide +kernel
theorem dX6_readDigit_6 : decode cX6_readDigit 6 = .ok (.isub, 1) := by decide +kernel
theorem dX6_readDigit_7 : decode cX6_readDigit 7 = .ok (.istore_n 3, 1) := by decide +kernel
theorem dX6_readDigit_8 : decode cX6_readDigit 8 = .ok (.iload_n 3, 1) := by decide +kernel
theorem dX6_readDigit_9 : decode cX6_readDigit 9 = .ok (.iload_n 1, 1) := by decide +kernel
theorem dX6_readDigit_10 : decode cX6_readDigit 10 = .ok (.iload_n 2, 1) := by decide +kernel
theorem dX6_readDigit_11 : decode cX6_readDigit 11 = .ok (.invokestatic 26, 3) := by decide +kernel
theorem dX6_readDigit_14 : decode cX6_readDigit 14 = .ok (.ifCond .ne 6, 3) := by decide +kernel
theorem dX6_readDigit_17 : decode cX6_readDigit 17 = .ok (.bipush (-5), 2) := by decide +kernel
theorem dX6_readDigit_19 : decode cX6_readDigit 19 = .ok (.ireturn, 1) := by decide +kernel
theorem dX6_readDigit_20 : decode cX6_readDigit 20 = .ok (.aload_n 0, 1) := by decide +kernel
theorem dX6_readDigit_21 : decode cX6_readDigit 21 = .ok (.dup, 1) := by decide +kernel
theorem dX6_readDigit_22 : decode cX6_readDigit 22 = .ok (.getfield 30, 3) := by decide +kernel
theorem dX6_readDigit_25 : decode cX6_readDigit 25 = .ok (.iconst 1, 1) := by decide +kernel
theorem dX6_readDigit_26 : decode cX6_readDigit 26 = .ok (.iadd, 1) := by decide +kernel
theorem dX6_readDigit_27 : decode cX6_readDigit 27 = .ok (.putfield 30, 3) := by decide +kernel
theorem dX6_readDigit_30 : decode cX6_readDigit 30 = .ok (.iload_n 3, 1) := by decide +kernel
theorem dX6_readDigit_31 : decode cX6_readDigit 31 = .ok (.ireturn, 1) := by decide +kernel
set_option maxRecDepth 20000 in
theorem ggX6_accept_X6_signHere : GoodIn wsX6_accept wsX6_signHere := goodIn_r _ [6, 1, 7, 8, 9, 10, 11, 12, 13, 14, 15, 16] (by decide +kernel) (by decide +kernel)
set_option maxRecDepth 20000 in
theorem gX6_accept_X6_signHere : GoodIn wsX6_accept (wsV RX6 70 RX6 yX6_signHere wsX6_signHere) := goodIn_app (goodIn_of _ (by decide +kernel)) ggX6_accept_X6_signHere
theorem dX6_accept_0 : decode cX6_accept 0 = .ok (.aload_n 0, 1) := by decide +kernel
theorem dX6_accept_1 : decode cX6_accept 1 = .ok (.invokevirtual 70, 3) := by decide +kernel
theorem dX6_accept_4 : decode cX6_accept 4 = .ok (.iload_n 1, 1) := by decide +kernel
theorem dX6_accept_5 : decode cX6_accept 5 = .ok (.if_icmp .eq 5, 3) := by decide +kernel
theorem dX6_accept_8 : decode cX6_accept 8 = .ok (.iconst 0, 1) := by decide +kernel
theorem dX6_accept_9 : decode cX6_accept 9 = .ok (.ireturn, 1) := by decide +kernel
theorem dX6_accept_10 : decode cX6_accept 10 = .ok (.aload_n 0, 1) := by decide +kernel
theorem dX6_accept_11 : decode cX6_accept 11 = .ok (.dup, 1) := by decide +kernel
theorem dX6_accept_12 : decode cX6_accept 12 = .ok (.getfield 30, 3) := by decide +kernel
theorem dX6_accept_15 : decode cX6_accept 15 = .ok (.iconst 1, 1) := by decide +kernel
theorem dX6_accept_16 : decode cX6_accept 16 = .ok (.iadd, 1) := by decide +kernel
theorem dX6_accept_17 : decode cX6_accept 17 = .ok (.putfield 30, 3) := by decide +kernel
theorem dX6_accept_20 : decode cX6_accept 20 = .ok (.iconst 1, 1) := by decide +kernel
theorem dX6_accept_21 : decode cX6_accept 21 = .ok (.ireturn, 1) := by decide +kernel
set_option maxRecDepth 20000 in
theorem ggX6_signHere_X8_within : GoodIn wsX6_signHere wsX8_within := goodIn_r _ [6] (by decide +kernel) (by decide +kernel)
set_option maxRecDepth 20000 in
theorem gX6_signHere_X8_within_n26 : GoodIn wsX6_signHere (wsX8_within) := ggX6_signHere_X8_within
theorem dX6_signHere_0 : decode cX6_signHere 0 = .ok (.aload_n 0, 1) := by decide +kernel
theorem dX6_signHere_1 : decode cX6_signHere 1 = .ok (.getfield 30, 3) := by decide +kernel
theorem dX6_signHere_4 : decode cX6_signHere 4 = .ok (.iconst 0, 1) := by decide +kernel
theorem dX6_signHere_5 : decode cX6_signHere 5 = .ok (.aload_n 0, 1) := by decide +kernel
theorem dX6_signHere_6 : decode cX6_signHere 6 = .ok (.getfield 22, 3) := by decide +kernel
theorem dX6_signHere_9 : decode cX6_signHere 9 = .ok (.iconst 1, 1) := by decide +kernel
theorem dX6_signHere_10 : decode cX6_signHere 10 = .ok (.isub, 1) := by decide +kernel
theorem dX6_signHere_11 : decode cX6_signHere 11 = .ok (.invokestatic 26, 3) := by decide +kernel
theorem dX6_signHere_14 : decode cX6_signHere 14 = .ok (.ifCond .eq 27, 3) := by decide +kernel
theorem dX6_signHere_17 : decode cX6_signHere 17 = .ok (.aload_n 0, 1) := by decide +kernel
theorem dX6_signHere_18 : decode cX6_signHere 18 = .ok (.getfield 30, 3) := by decide +kernel
theorem dX6_signHere_21 : decode cX6_signHere 21 = .ok (.aload_n 0, 1) := by decide +kernel
theorem dX6_signHere_22 : decode cX6_signHere 22 = .ok (.getfield 11, 3) := by decide +kernel
theorem dX6_signHere_25 : decode cX6_signHere 25 = .ok (.arraylength, 1) := by decide +kernel
theorem dX6_signHere_26 : decode cX6_signHere 26 = .ok (.if_icmp .ge 15, 3) := by decide +kernel
theorem dX6_signHere_29 : decode cX6_signHere 29 = .ok (.aload_n 0, 1) := by decide +kernel
theorem dX6_signHere_30 : decode cX6_signHere 30 = .ok (.getfield 11, 3) := by decide +kernel
theorem dX6_signHere_33 : decode cX6_signHere 33 = .ok (.aload_n 0, 1) := by decide +kernel
theorem dX6_signHere_34 : decode cX6_signHere 34 = .ok (.getfield 30, 3) := by decide +kernel
theorem dX6_signHere_37 : decode cX6_signHere 37 = .ok (.caload, 1) := by decide +kernel
theorem dX6_signHere_38 : decode cX6_signHere 38 = .ok (.goto 5, 3) := by decide +kernel
theorem dX6_signHere_41 : decode cX6_signHere 41 = .ok (.bipush (-5), 2) := by decide +kernel
theorem dX6_signHere_43 : decode cX6_signHere 43 = .ok (.ireturn, 1) := by decide +kernel
