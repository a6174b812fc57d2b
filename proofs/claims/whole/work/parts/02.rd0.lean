theorem dX9_init_0 : decode cX9_init 0 = .ok (.aload_n 0, 1) := by decide +kernel
theorem dX9_init_1 : decode cX9_init 1 = .ok (.invokespecial 1, 3) := by decide +kernel
theorem dX9_init_4 : decode cX9_init 4 = .ok (.aload_n 0, 1) := by decide +kernel
theorem dX9_init_5 : decode cX9_init 5 = .ok (.sipush 974, 3) := by decide +kernel
theorem dX9_init_8 : decode cX9_init 8 = .ok (.newarray .int, 2) := by decide +kernel
theorem dX9_init_10 : decode cX9_init 10 = .ok (.putfield 7, 3) := by decide +kernel
theorem dX9_init_13 : decode cX9_init 13 = .ok (.aload_n 0, 1) := by decide +kernel
theorem dX9_init_14 : decode cX9_init 14 = .ok (.sipush 3896, 3) := by decide +kernel
theorem dX9_init_17 : decode cX9_init 17 = .ok (.newarray .int, 2) := by decide +kernel
theorem dX9_init_19 : decode cX9_init 19 = .ok (.putfield 13, 3) := by decide +kernel
theorem dX9_init_22 : decode cX9_init 22 = .ok (.aload_n 0, 1) := by decide +kernel
theorem dX9_init_23 : decode cX9_init 23 = .ok (.sipush 974, 3) := by decide +kernel
theorem dX9_init_26 : decode cX9_init 26 = .ok (.newarray .int, 2) := by decide +kernel
theorem dX9_init_28 : decode cX9_init 28 = .ok (.putfield 16, 3) := by decide +kernel
theorem dX9_init_31 : decode cX9_init 31 = .ok (.aload_n 0, 1) := by decide +kernel
theorem dX9_init_32 : decode cX9_init 32 = .ok (.sipush 974, 3) := by decide +kernel
theorem dX9_init_35 : decode cX9_init 35 = .ok (.newarray .int, 2) := by decide +kernel
theorem dX9_init_37 : decode cX9_init 37 = .ok (.putfield 19, 3) := by decide +kernel
theorem dX9_init_40 : decode cX9_init 40 = .ok (.aload_n 0, 1) := by decide +kernel
theorem dX9_init_41 : decode cX9_init 41 = .ok (.bipush 60, 2) := by decide +kernel
theorem dX9_init_43 : decode cX9_init 43 = .ok (.newarray .char, 2) := by decide +kernel
theorem dX9_init_45 : decode cX9_init 45 = .ok (.putfield 22, 3) := by decide +kernel
theorem dX9_init_48 : decode cX9_init 48 = .ok (.aload_n 0, 1) := by decide +kernel
theorem dX9_init_49 : decode cX9_init 49 = .ok (.bipush 30, 2) := by decide +kernel
theorem dX9_init_51 : decode cX9_init 51 = .ok (.newarray .int, 2) := by decide +kernel
theorem dX9_init_53 : decode cX9_init 53 = .ok (.putfield 26, 3) := by decide +kernel
theorem dX9_init_56 : decode cX9_init 56 = .ok (.aload_n 0, 1) := by decide +kernel
theorem dX9_init_57 : decode cX9_init 57 = .ok (.getfield 7, 3) := by decide +kernel
theorem dX9_init_60 : decode cX9_init 60 = .ok (.bipush 6, 2) := by decide +kernel
theorem dX9_init_62 : decode cX9_init 62 = .ok (.bipush 10, 2) := by decide +kernel
theorem dX9_init_64 : decode cX9_init 64 = .ok (.iastore, 1) := by decide +kernel
theorem dX9_init_65 : decode cX9_init 65 = .ok (.aload_n 0, 1) := by decide +kernel
theorem dX9_init_66 : decode cX9_init 66 = .ok (.getfield 7, 3) := by decide +kernel
theorem dX9_init_69 : decode cX9_init 69 = .ok (.bipush 7, 2) := by decide +kernel
theorem dX9_init_71 : decode cX9_init 71 = .ok (.iconst 3, 1) := by decide +kernel
theorem dX9_init_72 : decode cX9_init 72 = .ok (.iastore, 1) := by decide +kernel
theorem dX9_init_73 : decode cX9_init 73 = .ok (.iconst 0, 1) := by decide +kernel
theorem dX9_init_74 : decode cX9_init 74 = .ok (.istore_n 1, 1) := by decide +kernel
theorem dX9_init_75 : decode cX9_init 75 = .ok (.iload_n 1, 1) := by decide +kernel
theorem dX9_init_76 : decode cX9_init 76 = .ok (.iconst 2, 1) := by decide +kernel
theorem dX9_init_77 : decode cX9_init 77 = .ok (.if_icmp .ge 25, 3) := by decide +kernel
theorem dX9_init_80 : decode cX9_init 80 = .ok (.aload_n 0, 1) := by decide +kernel
theorem dX9_init_81 : decode cX9_init 81 = .ok (.getfield 7, 3) := by decide +kernel
theorem dX9_init_84 : decode cX9_init 84 = .ok (.bipush 10, 2) := by decide +kernel
theorem dX9_init_86 : decode cX9_init 86 = .ok (.bipush 8, 2) := by decide +kernel
theorem dX9_init_88 : decode cX9_init 88 = .ok (.iload_n 1, 1) := by decide +kernel
theorem dX9_init_89 : decode cX9_init 89 = .ok (.imul, 1) := by decide +kernel
theorem dX9_init_90 : decode cX9_init 90 = .ok (.iadd, 1) := by decide +kernel
theorem dX9_init_91 : decode cX9_init 91 = .ok (.iconst 0, 1) := by decide +kernel
theorem dX9_init_92 : decode cX9_init 92 = .ok (.iadd, 1) := by decide +kernel
theorem dX9_init_93 : decode cX9_init 93 = .ok (.bipush 8, 2) := by decide +kernel
theorem dX9_init_95 : decode cX9_init 95 = .ok (.iastore, 1) := by decide +kernel
theorem dX9_init_96 : decode cX9_init 96 = .ok (.iinc 1 1, 3) := by decide +kernel
theorem dX9_init_99 : decode cX9_init 99 = .ok (.goto (-24), 3) := by decide +kernel
theorem dX9_init_102 : decode cX9_init 102 = .ok (.iconst 0, 1) := by decide +kernel
theorem dX9_init_103 : decode cX9_init 103 = .ok (.istore_n 1, 1) := by decide +kernel
theorem dX9_init_104 : decode cX9_init 104 = .ok (.iload_n 1, 1) := by decide +kernel
theorem dX9_init_105 : decode cX9_init 105 = .ok (.bipush 48, 2) := by decide +kernel
theorem dX9_init_107 : decode cX9_init 107 = .ok (.if_icmp .ge 20, 3) := by decide +kernel
theorem dX9_init_110 : decode cX9_init 110 = .ok (.aload_n 0, 1) := by decide +kernel
theorem dX9_init_111 : decode cX9_init 111 = .ok (.getfield 7, 3) := by decide +kernel
theorem dX9_init_114 : decode cX9_init 114 = .ok (.bipush 26, 2) := by decide +kernel
theorem dX9_init_116 : decode cX9_init 116 = .ok (.iload_n 1, 1) := by decide +kernel
theorem dX9_init_117 : decode cX9_init 117 = .ok (.iadd, 1) := by decide +kernel
theorem dX9_init_118 : decode cX9_init 118 = .ok (.bipush (-5), 2) := by decide +kernel
theorem dX9_init_120 : decode cX9_init 120 = .ok (.iastore, 1) := by decide +kernel
theorem dX9_init_121 : decode cX9_init 121 = .ok (.iinc 1 1, 3) := by decide +kernel
theorem dX9_init_124 : decode cX9_init 124 = .ok (.goto (-20), 3) := by decide +kernel
theorem dX9_init_127 : decode cX9_init 127 = .ok (.return_, 1) := by decide +kernel
theorem dX9_in_0 : decode cX9_in 0 = .ok (.iload_n 0, 1) := by decide +kernel
theorem dX9_in_1 : decode cX9_in 1 = .ok (.iload_n 1, 1) := by decide +kernel
theorem dX9_in_2 : decode cX9_in 2 = .ok (.if_icmp .lt 12, 3) := by decide +kernel
theorem dX9_in_5 : decode cX9_in 5 = .ok (.iload_n 0, 1) := by decide +kernel
theorem dX9_in_6 : decode cX9_in 6 = .ok (.iload_n 2, 1) := by decide +kernel
theorem dX9_in_7 : decode cX9_in 7 = .ok (.if_icmp .gt 7, 3) := by decide +kernel
theorem dX9_in_10 : decode cX9_in 10 = .ok (.iconst 1, 1) := by decide +kernel
theorem dX9_in_11 : decode cX9_in 11 = .ok (.goto 4, 3) := by decide +kernel
theorem dX9_in_14 : decode cX9_in 14 = .ok (.iconst 0, 1) := by decide +kernel
theorem dX9_in_15 : decode cX9_in 15 = .ok (.ireturn, 1) := by decide +kernel
theorem dX9_records_0 : decode cX9_records 0 = .ok (.aload_n 0, 1) := by decide +kernel
theorem dX9_records_1 : decode cX9_records 1 = .ok (.getfield 29, 3) := by decide +kernel
theorem dX9_records_4 : decode cX9_records 4 = .ok (.iconst 4, 1) := by decide +kernel
theorem dX9_records_5 : decode cX9_records 5 = .ok (.if_icmp .ne 44, 3) := by decide +kernel
theorem dX9_records_8 : decode cX9_records 8 = .ok (.iconst 0, 1) := by decide +kernel
theorem dX9_records_9 : decode cX9_records 9 = .ok (.istore_n 1, 1) := by decide +kernel
theorem dX9_records_10 : decode cX9_records 10 = .ok (.iload_n 1, 1) := by decide +kernel
theorem dX9_records_11 : decode cX9_records 11 = .ok (.sipush 2922, 3) := by decide +kernel
theorem dX9_records_14 : decode cX9_records 14 = .ok (.if_icmp .ge 25, 3) := by decide +kernel
theorem dX9_records_17 : decode cX9_records 17 = .ok (.aload_n 0, 1) := by decide +kernel
theorem dX9_records_18 : decode cX9_records 18 = .ok (.getfield 13, 3) := by decide +kernel
theorem dX9_records_21 : decode cX9_records 21 = .ok (.iload_n 1, 1) := by decide +kernel
theorem dX9_records_22 : decode cX9_records 22 = .ok (.aload_n 0, 1) := by decide +kernel
theorem dX9_records_23 : decode cX9_records 23 = .ok (.getfield 13, 3) := by decide +kernel
theorem dX9_records_26 : decode cX9_records 26 = .ok (.iload_n 1, 1) := by decide +kernel
theorem dX9_records_27 : decode cX9_records 27 = .ok (.sipush 974, 3) := by decide +kernel
theorem dX9_records_30 : decode cX9_records 30 = .ok (.iadd, 1) := by decide +kernel
theorem dX9_records_31 : decode cX9_records 31 = .ok (.iaload, 1) := by decide +kernel
theorem dX9_records_32 : decode cX9_records 32 = .ok (.iastore, 1) := by decide +kernel
theorem dX9_records_33 : decode cX9_records 33 = .ok (.iinc 1 1, 3) := by decide +kernel
theorem dX9_records_36 : decode cX9_records 36 = .ok (.goto (-26), 3) := by decide +kernel
theorem dX9_records_39 : decode cX9_records 39 = .ok (.aload_n 0, 1) := by decide +kernel
theorem dX9_records_40 : decode cX9_records 40 = .ok (.dup, 1) := by decide +kernel
theorem dX9_records_41 : decode cX9_records 41 = .ok (.getfield 29, 3) := by decide +kernel
theorem dX9_records_44 : decode cX9_records 44 = .ok (.iconst 1, 1) := by decide +kernel
theorem dX9_records_45 : decode cX9_records 45 = .ok (.isub, 1) := by decide +kernel
theorem dX9_records_46 : decode cX9_records 46 = .ok (.putfield 29, 3) := by decide +kernel
theorem dX9_records_49 : decode cX9_records 49 = .ok (.iconst 0, 1) := by decide +kernel
theorem dX9_records_50 : decode cX9_records 50 = .ok (.istore_n 1, 1) := by decide +kernel
theorem dX9_records_51 : decode cX9_records 51 = .ok (.iload_n 1, 1) := by decide +kernel
theorem dX9_records_52 : decode cX9_records 52 = .ok (.sipush 974, 3) := by decide +kernel
theorem dX9_records_55 : decode cX9_records 55 = .ok (.if_icmp .ge 30, 3) := by decide +kernel
theorem dX9_records_58 : decode cX9_records 58 = .ok (.aload_n 0, 1) := by decide +kernel
theorem dX9_records_59 : decode cX9_records 59 = .ok (.getfield 13, 3) := by decide +kernel
theorem dX9_records_62 : decode cX9_records 62 = .ok (.sipush 974, 3) := by decide +kernel
theorem dX9_records_65 : decode cX9_records 65 = .ok (.aload_n 0, 1) := by decide +kernel
theorem dX9_records_66 : decode cX9_records 66 = .ok (.getfield 29, 3) := by decide +kernel
theorem dX9_records_69 : decode cX9_records 69 = .ok (.imul, 1) := by decide +kernel
theorem dX9_records_70 : decode cX9_records 70 = .ok (.iload_n 1, 1) := by decide +kernel
theorem dX9_records_71 : decode cX9_records 71 = .ok (.iadd, 1) := by decide +kernel
theorem dX9_records_72 : decode cX9_records 72 = .ok (.aload_n 0, 1) := by decide +kernel
theorem dX9_records_73 : decode cX9_records 73 = .ok (.getfield 7, 3) := by decide +kernel
theorem dX9_records_76 : decode cX9_records 76 = .ok (.iload_n 1, 1) := by decide +kernel
theorem dX9_records_77 : decode cX9_records 77 = .ok (.iaload, 1) := by decide +kernel
theorem dX9_records_78 : decode cX9_records 78 = .ok (.iastore, 1) := by decide +kernel
theorem dX9_records_79 : decode cX9_records 79 = .ok (.iinc 1 1, 3) := by decide +kernel
theorem dX9_records_82 : decode cX9_records 82 = .ok (.goto (-31), 3) := by decide +kernel
theorem dX9_records_85 : decode cX9_records 85 = .ok (.aload_n 0, 1) := by decide +kernel
theorem dX9_records_86 : decode cX9_records 86 = .ok (.dup, 1) := by decide +kernel
theorem dX9_records_87 : decode cX9_records 87 = .ok (.getfield 29, 3) := by decide +kernel
theorem dX9_records_90 : decode cX9_records 90 = .ok (.iconst 1, 1) := by decide +kernel
theorem dX9_records_91 : decode cX9_records 91 = .ok (.iadd, 1) := by decide +kernel
theorem dX9_records_92 : decode cX9_records 92 = .ok (.putfield 29, 3) := by decide +kernel
theorem dX9_records_95 : decode cX9_records 95 = .ok (.return_, 1) := by decide +kernel
theorem dX9_ofLine_0 : decode cX9_ofLine 0 = .ok (.aload_n 0, 1) := by decide +kernel
theorem dX9_ofLine_1 : decode cX9_ofLine 1 = .ok (.getfield 7, 3) := by decide +kernel
theorem dX9_ofLine_4 : decode cX9_ofLine 4 = .ok (.bipush 10, 2) := by decide +kernel
theorem dX9_ofLine_6 : decode cX9_ofLine 6 = .ok (.bipush 8, 2) := by decide +kernel
theorem dX9_ofLine_8 : decode cX9_ofLine 8 = .ok (.iload_n 1, 1) := by decide +kernel
theorem dX9_ofLine_9 : decode cX9_ofLine 9 = .ok (.imul, 1) := by decide +kernel
theorem dX9_ofLine_10 : decode cX9_ofLine 10 = .ok (.iadd, 1) := by decide +kernel
theorem dX9_ofLine_11 : decode cX9_ofLine 11 = .ok (.iload_n 2, 1) := by decide +kernel
theorem dX9_ofLine_12 : decode cX9_ofLine 12 = .ok (.iadd, 1) := by decide +kernel
theorem dX9_ofLine_13 : decode cX9_ofLine 13 = .ok (.iaload, 1) := by decide +kernel
theorem dX9_ofLine_14 : decode cX9_ofLine 14 = .ok (.ireturn, 1) := by decide +kernel
theorem dX9_seat_0 : decode cX9_seat 0 = .ok (.aload_n 0, 1) := by decide +kernel
theorem dX9_seat_1 : decode cX9_seat 1 = .ok (.getfield 7, 3) := by decide +kernel
theorem dX9_seat_4 : decode cX9_seat 4 = .ok (.bipush 26, 2) := by decide +kernel
theorem dX9_seat_6 : decode cX9_seat 6 = .ok (.bipush 24, 2) := by decide +kernel
theorem dX9_seat_8 : decode cX9_seat 8 = .ok (.iload_n 1, 1) := by decide +kernel
theorem dX9_seat_9 : decode cX9_seat 9 = .ok (.imul, 1) := by decide +kernel
theorem dX9_seat_10 : decode cX9_seat 10 = .ok (.iadd, 1) := by decide +kernel
theorem dX9_seat_11 : decode cX9_seat 11 = .ok (.iload_n 2, 1) := by decide +kernel
theorem dX9_seat_12 : decode cX9_seat 12 = .ok (.iadd, 1) := by decide +kernel
theorem dX9_seat_13 : decode cX9_seat 13 = .ok (.iaload, 1) := by decide +kernel
theorem dX9_seat_14 : decode cX9_seat 14 = .ok (.ireturn, 1) := by decide +kernel
theorem dX9_stationAt_0 : decode cX9_stationAt 0 = .ok (.bipush 74, 2) := by decide +kernel
theorem dX9_stationAt_2 : decode cX9_stationAt 2 = .ok (.bipush 10, 2) := by decide +kernel
theorem dX9_stationAt_4 : decode cX9_stationAt 4 = .ok (.bipush 6, 2) := by decide +kernel
theorem dX9_stationAt_6 : decode cX9_stationAt 6 = .ok (.iload_n 0, 1) := by decide +kernel
theorem dX9_stationAt_7 : decode cX9_stationAt 7 = .ok (.bipush 10, 2) := by decide +kernel
theorem dX9_stationAt_9 : decode cX9_stationAt 9 = .ok (.idiv, 1) := by decide +kernel
theorem dX9_stationAt_10 : decode cX9_stationAt 10 = .ok (.imul, 1) := by decide +kernel
theorem dX9_stationAt_11 : decode cX9_stationAt 11 = .ok (.iload_n 0, 1) := by decide +kernel
theorem dX9_stationAt_12 : decode cX9_stationAt 12 = .ok (.bipush 10, 2) := by decide +kernel
theorem dX9_stationAt_14 : decode cX9_stationAt 14 = .ok (.irem, 1) := by decide +kernel
theorem dX9_stationAt_15 : decode cX9_stationAt 15 = .ok (.iadd, 1) := by decide +kernel
theorem dX9_stationAt_16 : decode cX9_stationAt 16 = .ok (.imul, 1) := by decide +kernel
theorem dX9_stationAt_17 : decode cX9_stationAt 17 = .ok (.iadd, 1) := by decide +kernel
theorem dX9_stationAt_18 : decode cX9_stationAt 18 = .ok (.ireturn, 1) := by decide +kernel
theorem dX9_of_0 : decode cX9_of 0 = .ok (.aload_n 0, 1) := by decide +kernel
theorem dX9_of_1 : decode cX9_of 1 = .ok (.getfield 7, 3) := by decide +kernel
theorem dX9_of_4 : decode cX9_of 4 = .ok (.sipush 294, 3) := by decide +kernel
theorem dX9_of_7 : decode cX9_of 7 = .ok (.bipush 17, 2) := by decide +kernel
theorem dX9_of_9 : decode cX9_of 9 = .ok (.iload_n 1, 1) := by decide +kernel
theorem dX9_of_10 : decode cX9_of 10 = .ok (.imul, 1) := by decide +kernel
theorem dX9_of_11 : decode cX9_of 11 = .ok (.iadd, 1) := by decide +kernel
theorem dX9_of_12 : decode cX9_of 12 = .ok (.iload_n 2, 1) := by decide +kernel
theorem dX9_of_13 : decode cX9_of 13 = .ok (.iadd, 1) := by decide +kernel
theorem dX9_of_14 : decode cX9_of 14 = .ok (.iaload, 1) := by decide +kernel
theorem dX9_of_15 : decode cX9_of 15 = .ok (.ireturn, 1) := by decide +kernel
theorem dX9_put_0 : decode cX9_put 0 = .ok (.aload_n 0, 1) := by decide +kernel
theorem dX9_put_1 : decode cX9_put 1 = .ok (.getfield 7, 3) := by decide +kernel
theorem dX9_put_4 : decode cX9_put 4 = .ok (.sipush 294, 3) := by decide +kernel
theorem dX9_put_7 : decode cX9_put 7 = .ok (.bipush 17, 2) := by decide +kernel
theorem dX9_put_9 : decode cX9_put 9 = .ok (.iload_n 1, 1) := by decide +kernel
theorem dX9_put_10 : decode cX9_put 10 = .ok (.imul, 1) := by decide +kernel
theorem dX9_put_11 : decode cX9_put 11 = .ok (.iadd, 1) := by decide +kernel
theorem dX9_put_12 : decode cX9_put 12 = .ok (.iload_n 2, 1) := by decide +kernel
theorem dX9_put_13 : decode cX9_put 13 = .ok (.iadd, 1) := by decide +kernel
theorem dX9_put_14 : decode cX9_put 14 = .ok (.iload_n 3, 1) := by decide +kernel
theorem dX9_put_15 : decode cX9_put 15 = .ok (.iastore, 1) := by decide +kernel
theorem dX9_put_16 : decode cX9_put 16 = .ok (.return_, 1) := by decide +kernel
set_option maxRecDepth 20000 in
theorem ggX9_isLine_X9_in : GoodIn wsX9_isLine wsX9_in := goodIn_r _ [4] (by decide +kernel) (by decide +kernel)
set_option maxRecDepth 20000 in
theorem gX9_isLine_X9_in : GoodIn wsX9_isLine (va_wsS RX9 33 yX9_in wsX9_in) := goodIn_app (goodIn_of _ (by decide +kernel)) ggX9_isLine_X9_in
theorem dX9_isLine_0 : decode cX9_isLine 0 = .ok (.iload_n 0, 1) := by decide +kernel
theorem dX9_isLine_1 : decode cX9_isLine 1 = .ok (.iconst 0, 1) := by decide +kernel
theorem dX9_isLine_2 : decode cX9_isLine 2 = .ok (.iconst 1, 1) := by decide +kernel
theorem dX9_isLine_3 : decode cX9_isLine 3 = .ok (.invokestatic 33, 3) := by decide +kernel
theorem dX9_isLine_6 : decode cX9_isLine 6 = .ok (.ireturn, 1) := by decide +kernel
set_option maxRecDepth 20000 in
theorem ggX9_isStation_X9_in : GoodIn wsX9_isStation wsX9_in := goodIn_r _ [4] (by decide +kernel) (by decide +kernel)
set_option maxRecDepth 20000 in
theorem gX9_isStation_X9_in : GoodIn wsX9_isStation (va_wsS RX9 33 yX9_in wsX9_in) := goodIn_app (goodIn_of _ (by decide +kernel)) ggX9_isStation_X9_in
set_option maxRecDepth 20000 in
theorem ggX9_isStation_X9_ofLine : GoodIn wsX9_isStation wsX9_ofLine := goodIn_r _ [8, 9, 10, 11, 12, 13, 14, 15, 16, 17, 18, 19, 20, 21, 22, 23, 24] (by decide +kernel) (by decide +kernel)
set_option maxRecDepth 20000 in
theorem gX9_isStation_X9_ofLine : GoodIn wsX9_isStation (wsV RX9 37 RX9 yX9_ofLine wsX9_ofLine) := goodIn_app (goodIn_of _ (by decide +kernel)) ggX9_isStation_X9_ofLine
theorem dX9_isStation_0 : decode cX9_isStation 0 = .ok (.iload_n 1, 1) := by decide +kernel
theorem dX9_isStation_1 : decode cX9_isStation 1 = .ok (.iconst 0, 1) := by decide +kernel
theorem dX9_isStation_2 : decode cX9_isStation 2 = .ok (.bipush 19, 2) := by decide +kernel
theorem dX9_isStation_4 : decode cX9_isStation 4 = .ok (.invokestatic 33, 3) := by decide +kernel
theorem dX9_isStation_7 : decode cX9_isStation 7 = .ok (.ifCond .eq 23, 3) := by decide +kernel
theorem dX9_isStation_10 : decode cX9_isStation 10 = .ok (.iload_n 1, 1) := by decide +kernel
theorem dX9_isStation_11 : decode cX9_isStation 11 = .ok (.bipush 10, 2) := by decide +kernel
theorem dX9_isStation_13 : decode cX9_isStation 13 = .ok (.irem, 1) := by decide +kernel
theorem dX9_isStation_14 : decode cX9_isStation 14 = .ok (.aload_n 0, 1) := by decide +kernel
theorem dX9_isStation_15 : decode cX9_isStation 15 = .ok (.iload_n 1, 1) := by decide +kernel
theorem dX9_isStation_16 : decode cX9_isStation 16 = .ok (.bipush 10, 2) := by decide +kernel
theorem dX9_isStation_18 : decode cX9_isStation 18 = .ok (.idiv, 1) := by decide +kernel
theorem dX9_isStation_19 : decode cX9_isStation 19 = .ok (.iconst 4, 1) := by decide +kernel
theorem dX9_isStation_20 : decode cX9_isStation 20 = .ok (.invokevirtual 37, 3) := by decide +kernel
theorem dX9_isStation_23 : decode cX9_isStation 23 = .ok (.if_icmp .ge 7, 3) := by decide +kernel
theorem dX9_isStation_26 : decode cX9_isStation 26 = .ok (.iconst 1, 1) := by decide +kernel
theorem dX9_isStation_27 : decode cX9_isStation 27 = .ok (.goto 4, 3) := by decide +kernel
theorem dX9_isStation_30 : decode cX9_isStation 30 = .ok (.iconst 0, 1) := by decide +kernel
theorem dX9_isStation_31 : decode cX9_isStation 31 = .ok (.ireturn, 1) := by decide +kernel
set_option maxRecDepth 20000 in
theorem ggX9_isTicket_X9_in : GoodIn wsX9_isTicket wsX9_in := goodIn_r _ [5] (by decide +kernel) (by decide +kernel)
set_option maxRecDepth 20000 in
theorem gX9_isTicket_X9_in : GoodIn wsX9_isTicket (va_wsS RX9 33 yX9_in wsX9_in) := goodIn_app (goodIn_of _ (by decide +kernel)) ggX9_isTicket_X9_in
theorem dX9_isTicket_0 : decode cX9_isTicket 0 = .ok (.iload_n 1, 1) := by decide +kernel
theorem dX9_isTicket_1 : decode cX9_isTicket 1 = .ok (.iconst 0, 1) := by decide +kernel
theorem dX9_isTicket_2 : decode cX9_isTicket 2 = .ok (.aload_n 0, 1) := by decide +kernel
theorem dX9_isTicket_3 : decode cX9_isTicket 3 = .ok (.getfield 7, 3) := by decide +kernel
theorem dX9_isTicket_6 : decode cX9_isTicket 6 = .ok (.iconst 1, 1) := by decide +kernel
theorem dX9_isTicket_7 : decode cX9_isTicket 7 = .ok (.iaload, 1) := by decide +kernel
theorem dX9_isTicket_8 : decode cX9_isTicket 8 = .ok (.iconst 1, 1) := by decide +kernel
theorem dX9_isTicket_9 : decode cX9_isTicket 9 = .ok (.isub, 1) := by decide +kernel
theorem dX9_isTicket_10 : decode cX9_isTicket 10 = .ok (.invokestatic 33, 3) := by decide +kernel
theorem dX9_isTicket_13 : decode cX9_isTicket 13 = .ok (.ireturn, 1) := by decide +kernel
set_option maxRecDepth 20000 in
theorem ggX9_isOrder_X9_in : GoodIn wsX9_isOrder wsX9_in := goodIn_r _ [5] (by decide +kernel) (by decide +kernel)
set_option maxRecDepth 20000 in
theorem gX9_isOrder_X9_in : GoodIn wsX9_isOrder (va_wsS RX9 33 yX9_in wsX9_in) := goodIn_app (goodIn_of _ (by decide +kernel)) ggX9_isOrder_X9_in
theorem dX9_isOrder_0 : decode cX9_isOrder 0 = .ok (.iload_n 1, 1) := by decide +kernel
theorem dX9_isOrder_1 : decode cX9_isOrder 1 = .ok (.iconst 0, 1) := by decide +kernel
theorem dX9_isOrder_2 : decode cX9_isOrder 2 = .ok (.aload_n 0, 1) := by decide +kernel
theorem dX9_isOrder_3 : decode cX9_isOrder 3 = .ok (.getfield 7, 3) := by decide +kernel
theorem dX9_isOrder_6 : decode cX9_isOrder 6 = .ok (.iconst 2, 1) := by decide +kernel
theorem dX9_isOrder_7 : decode cX9_isOrder 7 = .ok (.iaload, 1) := by decide +kernel
theorem dX9_isOrder_8 : decode cX9_isOrder 8 = .ok (.iconst 1, 1) := by decide +kernel
theorem dX9_isOrder_9 : decode cX9_isOrder 9 = .ok (.isub, 1) := by decide +kernel
theorem dX9_isOrder_10 : decode cX9_isOrder 10 = .ok (.invokestatic 33, 3) := by decide +kernel
theorem dX9_isOrder_13 : decode cX9_isOrder 13 = .ok (.ireturn, 1) := by decide +kernel
set_option maxRecDepth 20000 in
theorem ggX9_isWord_X9_in : GoodIn wsX9_isWord wsX9_in := goodIn_r _ [5] (by decide +kernel) (by decide +kernel)
set_option maxRecDepth 20000 in
theorem gX9_isWord_X9_in : GoodIn wsX9_isWord (va_wsS RX9 33 yX9_in wsX9_in) := goodIn_app (goodIn_of _ (by decide +kernel)) ggX9_isWord_X9_in
theorem dX9_isWord_0 : decode cX9_isWord 0 = .ok (.iload_n 0, 1) := by decide +kernel
theorem dX9_isWord_1 : decode cX9_isWord 1 = .ok (.iconst 0, 1) := by decide +kernel
theorem dX9_isWord_2 : decode cX9_isWord 2 = .ok (.ldc 41, 2) := by decide +kernel
theorem dX9_isWord_4 : decode cX9_isWord 4 = .ok (.invokestatic 33, 3) := by decide +kernel
theorem dX9_isWord_7 : decode cX9_isWord 7 = .ok (.ireturn, 1) := by decide +kernel
set_option maxRecDepth 20000 in
theorem ggX9_slotAt_X9_ofLine : GoodIn wsX9_slotAt wsX9_ofLine := goodIn_r _ [6, 1, 10, 11, 12, 13, 14, 15, 16, 17, 18, 19, 20, 21, 22, 23, 24] (by decide +kernel) (by decide +kernel)
set_option maxRecDepth 20000 in
theorem gX9_slotAt_X9_ofLine : GoodIn wsX9_slotAt (wsV RX9 37 RX9 yX9_ofLine wsX9_ofLine) := goodIn_app (goodIn_of _ (by decide +kernel)) ggX9_slotAt_X9_ofLine
set_option maxRecDepth 20000 in
theorem ggX9_slotAt_X9_stationAt : GoodIn wsX9_slotAt wsX9_stationAt := goodIn_r _ [9] (by decide +kernel) (by decide +kernel)
set_option maxRecDepth 20000 in
theorem gX9_slotAt_X9_stationAt : GoodIn wsX9_slotAt (va_wsS RX9 42 yX9_stationAt wsX9_stationAt) := goodIn_app (goodIn_of _ (by decide +kernel)) ggX9_slotAt_X9_stationAt
theorem dX9_slotAt_0 : decode cX9_slotAt 0 = .ok (.iload_n 1, 1) := by decide +kernel
theorem dX9_slotAt_1 : decode cX9_slotAt 1 = .ok (.bipush 10, 2) := by decide +kernel
theorem dX9_slotAt_3 : decode cX9_slotAt 3 = .ok (.idiv, 1) := by decide +kernel
theorem dX9_slotAt_4 : decode cX9_slotAt 4 = .ok (.istore_n 2, 1) := by decide +kernel
theorem dX9_slotAt_5 : decode cX9_slotAt 5 = .ok (.aload_n 0, 1) := by decide +kernel
theorem dX9_slotAt_6 : decode cX9_slotAt 6 = .ok (.iload_n 2, 1) := by decide +kernel
theorem dX9_slotAt_7 : decode cX9_slotAt 7 = .ok (.iconst 1, 1) := by decide +kernel
theorem dX9_slotAt_8 : decode cX9_slotAt 8 = .ok (.invokevirtual 37, 3) := by decide +kernel
theorem dX9_slotAt_11 : decode cX9_slotAt 11 = .ok (.aload_n 0, 1) := by decide +kernel
theorem dX9_slotAt_12 : decode cX9_slotAt 12 = .ok (.getfield 7, 3) := by decide +kernel
theorem dX9_slotAt_15 : decode cX9_slotAt 15 = .ok (.iload_n 1, 1) := by decide +kernel
theorem dX9_slotAt_16 : decode cX9_slotAt 16 = .ok (.invokestatic 42, 3) := by decide +kernel
theorem dX9_slotAt_19 : decode cX9_slotAt 19 = .ok (.iconst 0, 1) := by decide +kernel
theorem dX9_slotAt_20 : decode cX9_slotAt 20 = .ok (.iadd, 1) := by decide +kernel
theorem dX9_slotAt_21 : decode cX9_slotAt 21 = .ok (.iaload, 1) := by decide +kernel
theorem dX9_slotAt_22 : decode cX9_slotAt 22 = .ok (.iadd, 1) := by decide +kernel
theorem dX9_slotAt_23 : decode cX9_slotAt 23 = .ok (.aload_n 0, 1) := by decide +kernel
theorem dX9_slotAt_24 : decode cX9_slotAt 24 = .ok (.iload_n 2, 1) := by decide +kernel
theorem dX9_slotAt_25 : decode cX9_slotAt 25 = .ok (.iconst 0, 1) := by decide +kernel
theorem dX9_slotAt_26 : decode cX9_slotAt 26 = .ok (.invokevirtual 37, 3) := by decide +kernel
theorem dX9_slotAt_29 : decode cX9_slotAt 29 = .ok (.irem, 1) := by decide +kernel
theorem dX9_slotAt_30 : decode cX9_slotAt 30 = .ok (.ireturn, 1) := by decide +kernel
set_option maxRecDepth 20000 in
theorem ggX9_inState_X9_of : GoodIn wsX9_inState wsX9_of := goodIn_r _ [6, 1, 7, 8, 9, 10, 11, 12, 13, 14, 15, 16, 17, 18, 19, 20, 21] (by decide +kernel) (by decide +kernel)
set_option maxRecDepth 20000 in
theorem gX9_inState_X9_of : GoodIn wsX9_inState (wsV RX9 46 RX9 yX9_of wsX9_of) := goodIn_app (goodIn_of _ (by decide +kernel)) ggX9_inState_X9_of
theorem dX9_inState_0 : decode cX9_inState 0 = .ok (.iconst 0, 1) := by decide +kernel
theorem dX9_inState_1 : decode cX9_inState 1 = .ok (.istore_n 2, 1) := by decide +kernel
theorem dX9_inState_2 : decode cX9_inState 2 = .ok (.iconst 0, 1) := by decide +kernel
theorem dX9_inState_3 : decode cX9_inState 3 = .ok (.istore_n 3, 1) := by decide +kernel
theorem dX9_inState_4 : decode cX9_inState 4 = .ok (.iload_n 3, 1) := by decide +kernel
theorem dX9_inState_5 : decode cX9_inState 5 = .ok (.aload_n 0, 1) := by decide +kernel
theorem dX9_inState_6 : decode cX9_inState 6 = .ok (.getfield 7, 3) := by decide +kernel
theorem dX9_inState_9 : decode cX9_inState 9 = .ok (.iconst 1, 1) := by decide +kernel
theorem dX9_inState_10 : decode cX9_inState 10 = .ok (.iaload, 1) := by decide +kernel
theorem dX9_inState_11 : decode cX9_inState 11 = .ok (.if_icmp .ge 28, 3) := by decide +kernel
theorem dX9_inState_14 : decode cX9_inState 14 = .ok (.iload_n 2, 1) := by decide +kernel
theorem dX9_inState_15 : decode cX9_inState 15 = .ok (.aload_n 0, 1) := by decide +kernel
theorem dX9_inState_16 : decode cX9_inState 16 = .ok (.iload_n 3, 1) := by decide +kernel
theorem dX9_inState_17 : decode cX9_inState 17 = .ok (.bipush 6, 2) := by decide +kernel
theorem dX9_inState_19 : decode cX9_inState 19 = .ok (.invokevirtual 46, 3) := by decide +kernel
theorem dX9_inState_22 : decode cX9_inState 22 = .ok (.iload_n 1, 1) := by decide +kernel
theorem dX9_inState_23 : decode cX9_inState 23 = .ok (.if_icmp .ne 7, 3) := by decide +kernel
theorem dX9_inState_26 : decode cX9_inState 26 = .ok (.iconst 1, 1) := by decide +kernel
theorem dX9_inState_27 : decode cX9_inState 27 = .ok (.goto 4, 3) := by decide +kernel
theorem dX9_inState_30 : decode cX9_inState 30 = .ok (.iconst 0, 1) := by decide +kernel
theorem dX9_inState_31 : decode cX9_inState 31 = .ok (.iadd, 1) := by decide +kernel
theorem dX9_inState_32 : decode cX9_inState 32 = .ok (.istore_n 2, 1) := by decide +kernel
theorem dX9_inState_33 : decode cX9_inState 33 = .ok (.iinc 3 1, 3) := by decide +kernel
theorem dX9_inState_36 : decode cX9_inState 36 = .ok (.goto (-32), 3) := by decide +kernel
theorem dX9_inState_39 : decode cX9_inState 39 = .ok (.iload_n 2, 1) := by decide +kernel
theorem dX9_inState_40 : decode cX9_inState 40 = .ok (.ireturn, 1) := by decide +kernel
set_option maxRecDepth 20000 in
theorem ggX9_on_X9_of : GoodIn wsX9_on wsX9_of := goodIn_r _ [6, 1, 7, 8, 9, 10, 11, 12, 13, 14, 15, 16, 17, 18, 19, 20, 21] (by decide +kernel) (by decide +kernel)
set_option maxRecDepth 20000 in
theorem gX9_on_X9_of : GoodIn wsX9_on (wsV RX9 46 RX9 yX9_of wsX9_of) := goodIn_app (goodIn_of _ (by decide +kernel)) ggX9_on_X9_of
theorem dX9_on_0 : decode cX9_on 0 = .ok (.iconst 0, 1) := by decide +kernel
theorem dX9_on_1 : decode cX9_on 1 = .ok (.istore_n 3, 1) := by decide +kernel
theorem dX9_on_2 : decode cX9_on 2 = .ok (.iconst 0, 1) := by decide +kernel
theorem dX9_on_3 : decode cX9_on 3 = .ok (.istore 4, 2) := by decide +kernel
theorem dX9_on_5 : decode cX9_on 5 = .ok (.iload 4, 2) := by decide +kernel
theorem dX9_on_7 : decode cX9_on 7 = .ok (.aload_n 0, 1) := by decide +kernel
theorem dX9_on_8 : decode cX9_on 8 = .ok (.getfield 7, 3) := by decide +kernel
theorem dX9_on_11 : decode cX9_on 11 = .ok (.iconst 1, 1) := by decide +kernel
theorem dX9_on_12 : decode cX9_on 12 = .ok (.iaload, 1) := by decide +kernel
theorem dX9_on_13 : decode cX9_on 13 = .ok (.if_icmp .ge 41, 3) := by decide +kernel
theorem dX9_on_16 : decode cX9_on 16 = .ok (.iload_n 3, 1) := by decide +kernel
theorem dX9_on_17 : decode cX9_on 17 = .ok (.aload_n 0, 1) := by decide +kernel
theorem dX9_on_18 : decode cX9_on 18 = .ok (.iload 4, 2) := by decide +kernel
theorem dX9_on_20 : decode cX9_on 20 = .ok (.bipush 6, 2) := by decide +kernel
theorem dX9_on_22 : decode cX9_on 22 = .ok (.invokevirtual 46, 3) := by decide +kernel
theorem dX9_on_25 : decode cX9_on 25 = .ok (.iload_n 2, 1) := by decide +kernel
theorem dX9_on_26 : decode cX9_on 26 = .ok (.if_icmp .ne 19, 3) := by decide +kernel
theorem dX9_on_29 : decode cX9_on 29 = .ok (.aload_n 0, 1) := by decide +kernel
theorem dX9_on_30 : decode cX9_on 30 = .ok (.iload 4, 2) := by decide +kernel
theorem dX9_on_32 : decode cX9_on 32 = .ok (.bipush 7, 2) := by decide +kernel
theorem dX9_on_34 : decode cX9_on 34 = .ok (.invokevirtual 46, 3) := by decide +kernel
theorem dX9_on_37 : decode cX9_on 37 = .ok (.iload_n 1, 1) := by decide +kernel
theorem dX9_on_38 : decode cX9_on 38 = .ok (.if_icmp .ne 7, 3) := by decide +kernel
theorem dX9_on_41 : decode cX9_on 41 = .ok (.iconst 1, 1) := by decide +kernel
theorem dX9_on_42 : decode cX9_on 42 = .ok (.goto 4, 3) := by decide +kernel
theorem dX9_on_45 : decode cX9_on 45 = .ok (.iconst 0, 1) := by decide +kernel
theorem dX9_on_46 : decode cX9_on 46 = .ok (.iadd, 1) := by decide +kernel
theorem dX9_on_47 : decode cX9_on 47 = .ok (.istore_n 3, 1) := by decide +kernel
theorem dX9_on_48 : decode cX9_on 48 = .ok (.iinc 4 1, 3) := by decide +kernel
theorem dX9_on_51 : decode cX9_on 51 = .ok (.goto (-46), 3) := by decide +kernel
theorem dX9_on_54 : decode cX9_on 54 = .ok (.iload_n 3, 1) := by decide +kernel
theorem dX9_on_55 : decode cX9_on 55 = .ok (.ireturn, 1) := by decide +kernel
set_option maxRecDepth 20000 in
theorem ggX9_isWaiting_X9_of : GoodIn wsX9_isWaiting wsX9_of := goodIn_r _ [5, 6, 7, 8, 9, 10, 11, 12, 13, 14, 15, 16, 17, 18, 19, 20, 21] (by decide +kernel) (by decide +kernel)
set_option maxRecDepth 20000 in
theorem gX9_isWaiting_X9_of : GoodIn wsX9_isWaiting (wsV RX9 46 RX9 yX9_of wsX9_of) := goodIn_app (goodIn_of _ (by decide +kernel)) ggX9_isWaiting_X9_of
theorem dX9_isWaiting_0 : decode cX9_isWaiting 0 = .ok (.aload_n 0, 1) := by decide +kernel
theorem dX9_isWaiting_1 : decode cX9_isWaiting 1 = .ok (.iload_n 1, 1) := by decide +kernel
theorem dX9_isWaiting_2 : decode cX9_isWaiting 2 = .ok (.bipush 6, 2) := by decide +kernel
theorem dX9_isWaiting_4 : decode cX9_isWaiting 4 = .ok (.invokevirtual 46, 3) := by decide +kernel
theorem dX9_isWaiting_7 : decode cX9_isWaiting 7 = .ok (.ifCond .ne 17, 3) := by decide +kernel
theorem dX9_isWaiting_10 : decode cX9_isWaiting 10 = .ok (.aload_n 0, 1) := by decide +kernel
theorem dX9_isWaiting_11 : decode cX9_isWaiting 11 = .ok (.iload_n 1, 1) := by decide +kernel
theorem dX9_isWaiting_12 : decode cX9_isWaiting 12 = .ok (.iconst 2, 1) := by decide +kernel
theorem dX9_isWaiting_13 : decode cX9_isWaiting 13 = .ok (.invokevirtual 46, 3) := by decide +kernel
theorem dX9_isWaiting_16 : decode cX9_isWaiting 16 = .ok (.iload_n 2, 1) := by decide +kernel
theorem dX9_isWaiting_17 : decode cX9_isWaiting 17 = .ok (.if_icmp .ne 7, 3) := by decide +kernel
theorem dX9_isWaiting_20 : decode cX9_isWaiting 20 = .ok (.iconst 1, 1) := by decide +kernel
theorem dX9_isWaiting_21 : decode cX9_isWaiting 21 = .ok (.goto 4, 3) := by decide +kernel
theorem dX9_isWaiting_24 : decode cX9_isWaiting 24 = .ok (.iconst 0, 1) := by decide +kernel
theorem dX9_isWaiting_25 : decode cX9_isWaiting 25 = .ok (.ireturn, 1) := by decide +kernel
set_option maxRecDepth 20000 in
theorem ggX9_ahead_X9_of : GoodIn wsX9_ahead wsX9_of := goodIn_r _ [6, 1, 11, 12, 13, 14, 15, 16, 17, 18, 19, 20, 21, 22, 23, 24, 25] (by decide +kernel) (by decide +kernel)
set_option maxRecDepth 20000 in
theorem gX9_ahead_X9_of : GoodIn wsX9_ahead (wsV RX9 46 RX9 yX9_of wsX9_of) := goodIn_app (goodIn_of _ (by decide +kernel)) ggX9_ahead_X9_of
set_option maxRecDepth 20000 in
theorem ggX9_ahead_X9_isWaiting : GoodIn wsX9_ahead wsX9_isWaiting := goodIn_r _ [10, 2, 3, 4, 5, 6, 1, 11, 12, 13, 14, 15, 16, 17, 18, 19, 20, 21, 22, 23, 24, 25] (by decide +kernel) (by decide +kernel)
set_option maxRecDepth 20000 in
theorem gX9_ahead_X9_isWaiting : GoodIn wsX9_ahead (wsV RX9 49 RX9 yX9_isWaiting wsX9_isWaiting) := goodIn_app (goodIn_of _ (by decide +kernel)) ggX9_ahead_X9_isWaiting
theorem dX9_ahead_0 : decode cX9_ahead 0 = .ok (.iconst 0, 1) := by decide +kernel
theorem dX9_ahead_1 : decode cX9_ahead 1 = .ok (.istore_n 3, 1) := by decide +kernel
theorem dX9_ahead_2 : decode cX9_ahead 2 = .ok (.iconst 0, 1) := by decide +kernel
theorem dX9_ahead_3 : decode cX9_ahead 3 = .ok (.istore 4, 2) := by decide +kernel
theorem dX9_ahead_5 : decode cX9_ahead 5 = .ok (.iload 4, 2) := by decide +kernel
theorem dX9_ahead_7 : decode cX9_ahead 7 = .ok (.aload_n 0, 1) := by decide +kernel
theorem dX9_ahead_8 : decode cX9_ahead 8 = .ok (.getfield 7, 3) := by decide +kernel
theorem dX9_ahead_11 : decode cX9_ahead 11 = .ok (.iconst 1, 1) := by decide +kernel
theorem dX9_ahead_12 : decode cX9_ahead 12 = .ok (.iaload, 1) := by decide +kernel
theorem dX9_ahead_13 : decode cX9_ahead 13 = .ok (.if_icmp .ge 77, 3) := by decide +kernel
theorem dX9_ahead_16 : decode cX9_ahead 16 = .ok (.aload_n 0, 1) := by decide +kernel
theorem dX9_ahead_17 : decode cX9_ahead 17 = .ok (.iload 4, 2) := by decide +kernel
theorem dX9_ahead_19 : decode cX9_ahead 19 = .ok (.iconst 1, 1) := by decide +kernel
theorem dX9_ahead_20 : decode cX9_ahead 20 = .ok (.invokevirtual 46, 3) := by decide +kernel
theorem dX9_ahead_23 : decode cX9_ahead 23 = .ok (.aload_n 0, 1) := by decide +kernel
theorem dX9_ahead_24 : decode cX9_ahead 24 = .ok (.iload_n 1, 1) := by decide +kernel
theorem dX9_ahead_25 : decode cX9_ahead 25 = .ok (.iconst 1, 1) := by decide +kernel
theorem dX9_ahead_26 : decode cX9_ahead 26 = .ok (.invokevirtual 46, 3) := by decide +kernel
theorem dX9_ahead_29 : decode cX9_ahead 29 = .ok (.if_icmp .gt 25, 3) := by decide +kernel
theorem dX9_ahead_32 : decode cX9_ahead 32 = .ok (.aload_n 0, 1) := by decide +kernel
theorem dX9_ahead_33 : decode cX9_ahead 33 = .ok (.iload 4, 2) := by decide +kernel
theorem dX9_ahead_35 : decode cX9_ahead 35 = .ok (.iconst 1, 1) := by decide +kernel
theorem dX9_ahead_36 : decode cX9_ahead 36 = .ok (.invokevirtual 46, 3) := by decide +kernel
theorem dX9_ahead_39 : decode cX9_ahead 39 = .ok (.aload_n 0, 1) := by decide +kernel
theorem dX9_ahead_40 : decode cX9_ahead 40 = .ok (.iload_n 1, 1) := by decide +kernel
theorem dX9_ahead_41 : decode cX9_ahead 41 = .ok (.iconst 1, 1) := by decide +kernel
theorem dX9_ahead_42 : decode cX9_ahead 42 = .ok (.invokevirtual 46, 3) := by decide +kernel
theorem dX9_ahead_45 : decode cX9_ahead 45 = .ok (.if_icmp .ne 13, 3) := by decide +kernel
theorem dX9_ahead_48 : decode cX9_ahead 48 = .ok (.iload 4, 2) := by decide +kernel
theorem dX9_ahead_50 : decode cX9_ahead 50 = .ok (.iload_n 1, 1) := by decide +kernel
theorem dX9_ahead_51 : decode cX9_ahead 51 = .ok (.if_icmp .ge 7, 3) := by decide +kernel
theorem dX9_ahead_54 : decode cX9_ahead 54 = .ok (.iconst 1, 1) := by decide +kernel
theorem dX9_ahead_55 : decode cX9_ahead 55 = .ok (.goto 4, 3) := by decide +kernel
theorem dX9_ahead_58 : decode cX9_ahead 58 = .ok (.iconst 0, 1) := by decide +kernel
theorem dX9_ahead_59 : decode cX9_ahead 59 = .ok (.istore 5, 2) := by decide +kernel
theorem dX9_ahead_61 : decode cX9_ahead 61 = .ok (.iload_n 3, 1) := by decide +kernel
theorem dX9_ahead_62 : decode cX9_ahead 62 = .ok (.iload 5, 2) := by decide +kernel
theorem dX9_ahead_64 : decode cX9_ahead 64 = .ok (.ifCond .eq 17, 3) := by decide +kernel
theorem dX9_ahead_67 : decode cX9_ahead 67 = .ok (.aload_n 0, 1) := by decide +kernel
theorem dX9_ahead_68 : decode cX9_ahead 68 = .ok (.iload 4, 2) := by decide +kernel
theorem dX9_ahead_70 : decode cX9_ahead 70 = .ok (.iload_n 2, 1) := by decide +kernel
theorem dX9_ahead_71 : decode cX9_ahead 71 = .ok (.invokevirtual 49, 3) := by decide +kernel
theorem dX9_ahead_74 : decode cX9_ahead 74 = .ok (.ifCond .eq 7, 3) := by decide +kernel
theorem dX9_ahead_77 : decode cX9_ahead 77 = .ok (.iconst 1, 1) := by decide +kernel
theorem dX9_ahead_78 : decode cX9_ahead 78 = .ok (.goto 4, 3) := by decide +kernel
theorem dX9_ahead_81 : decode cX9_ahead 81 = .ok (.iconst 0, 1) := by decide +kernel
theorem dX9_ahead_82 : decode cX9_ahead 82 = .ok (.iadd, 1) := by decide +kernel
theorem dX9_ahead_83 : decode cX9_ahead 83 = .ok (.istore_n 3, 1) := by decide +kernel
theorem dX9_ahead_84 : decode cX9_ahead 84 = .ok (.iinc 4 1, 3) := by decide +kernel
theorem dX9_ahead_87 : decode cX9_ahead 87 = .ok (.goto (-82), 3) := by decide +kernel
theorem dX9_ahead_90 : decode cX9_ahead 90 = .ok (.iload_n 3, 1) := by decide +kernel
theorem dX9_ahead_91 : decode cX9_ahead 91 = .ok (.ireturn, 1) := by decide +kernel
set_option maxRecDepth 20000 in
theorem ggX9_firstWaiting_X9_isWaiting : GoodIn wsX9_firstWaiting wsX9_isWaiting := goodIn_r _ [6, 7, 8, 9, 5, 10, 1, 11, 12, 13, 14, 15, 16, 17, 18, 19, 20, 21, 22, 23, 24, 25] (by decide +kernel) (by decide +kernel)
set_option maxRecDepth 20000 in
theorem gX9_firstWaiting_X9_isWaiting : GoodIn wsX9_firstWaiting (wsV RX9 49 RX9 yX9_isWaiting wsX9_isWaiting) := goodIn_app (goodIn_of _ (by decide +kernel)) ggX9_firstWaiting_X9_isWaiting
set_option maxRecDepth 20000 in
theorem ggX9_firstWaiting_X9_of : GoodIn wsX9_firstWaiting wsX9_of := goodIn_r _ [10, 1, 11, 12, 13, 14, 15, 16, 17, 18, 19, 20, 21, 22, 23, 24, 25] (by decide +kernel) (by decide +kernel)
set_option maxRecDepth 20000 in
theorem gX9_firstWaiting_X9_of : GoodIn wsX9_firstWaiting (wsV RX9 46 RX9 yX9_of wsX9_of) := goodIn_app (goodIn_of _ (by decide +kernel)) ggX9_firstWaiting_X9_of
theorem dX9_firstWaiting_0 : decode cX9_firstWaiting 0 = .ok (.bipush (-5), 2) := by decide +kernel
theorem dX9_firstWaiting_2 : decode cX9_firstWaiting 2 = .ok (.istore_n 2, 1) := by decide +kernel
theorem dX9_firstWaiting_3 : decode cX9_firstWaiting 3 = .ok (.iconst 0, 1) := by decide +kernel
theorem dX9_firstWaiting_4 : decode cX9_firstWaiting 4 = .ok (.istore_n 3, 1) := by decide +kernel
theorem dX9_firstWaiting_5 : decode cX9_firstWaiting 5 = .ok (.iload_n 3, 1) := by decide +kernel
theorem dX9_firstWaiting_6 : decode cX9_firstWaiting 6 = .ok (.aload_n 0, 1) := by decide +kernel
theorem dX9_firstWaiting_7 : decode cX9_firstWaiting 7 = .ok (.getfield 7, 3) := by decide +kernel
theorem dX9_firstWaiting_10 : decode cX9_firstWaiting 10 = .ok (.iconst 1, 1) := by decide +kernel
theorem dX9_firstWaiting_11 : decode cX9_firstWaiting 11 = .ok (.iaload, 1) := by decide +kernel
theorem dX9_firstWaiting_12 : decode cX9_firstWaiting 12 = .ok (.if_icmp .ge 45, 3) := by decide +kernel
theorem dX9_firstWaiting_15 : decode cX9_firstWaiting 15 = .ok (.aload_n 0, 1) := by decide +kernel
theorem dX9_firstWaiting_16 : decode cX9_firstWaiting 16 = .ok (.iload_n 3, 1) := by decide +kernel
theorem dX9_firstWaiting_17 : decode cX9_firstWaiting 17 = .ok (.iload_n 1, 1) := by decide +kernel
theorem dX9_firstWaiting_18 : decode cX9_firstWaiting 18 = .ok (.invokevirtual 49, 3) := by decide +kernel
theorem dX9_firstWaiting_21 : decode cX9_firstWaiting 21 = .ok (.ifCond .eq 28, 3) := by decide +kernel
theorem dX9_firstWaiting_24 : decode cX9_firstWaiting 24 = .ok (.iload_n 2, 1) := by decide +kernel
theorem dX9_firstWaiting_25 : decode cX9_firstWaiting 25 = .ok (.bipush (-5), 2) := by decide +kernel
theorem dX9_firstWaiting_27 : decode cX9_firstWaiting 27 = .ok (.if_icmp .eq 18, 3) := by decide +kernel
theorem dX9_firstWaiting_30 : decode cX9_firstWaiting 30 = .ok (.aload_n 0, 1) := by decide +kernel
theorem dX9_firstWaiting_31 : decode cX9_firstWaiting 31 = .ok (.iload_n 3, 1) := by decide +kernel
theorem dX9_firstWaiting_32 : decode cX9_firstWaiting 32 = .ok (.iconst 1, 1) := by decide +kernel
theorem dX9_firstWaiting_33 : decode cX9_firstWaiting 33 = .ok (.invokevirtual 46, 3) := by decide +kernel
theorem dX9_firstWaiting_36 : decode cX9_firstWaiting 36 = .ok (.aload_n 0, 1) := by decide +kernel
theorem dX9_firstWaiting_37 : decode cX9_firstWaiting 37 = .ok (.iload_n 2, 1) := by decide +kernel
theorem dX9_firstWaiting_38 : decode cX9_firstWaiting 38 = .ok (.iconst 1, 1) := by decide +kernel
theorem dX9_firstWaiting_39 : decode cX9_firstWaiting 39 = .ok (.invokevirtual 46, 3) := by decide +kernel
theorem dX9_firstWaiting_42 : decode cX9_firstWaiting 42 = .ok (.if_icmp .le 7, 3) := by decide +kernel
theorem dX9_firstWaiting_45 : decode cX9_firstWaiting 45 = .ok (.iload_n 3, 1) := by decide +kernel
theorem dX9_firstWaiting_46 : decode cX9_firstWaiting 46 = .ok (.goto 4, 3) := by decide +kernel
theorem dX9_firstWaiting_49 : decode cX9_firstWaiting 49 = .ok (.iload_n 2, 1) := by decide +kernel
theorem dX9_firstWaiting_50 : decode cX9_firstWaiting 50 = .ok (.istore_n 2, 1) := by decide +kernel
theorem dX9_firstWaiting_51 : decode cX9_firstWaiting 51 = .ok (.iinc 3 1, 3) := by decide +kernel
theorem dX9_firstWaiting_54 : decode cX9_firstWaiting 54 = .ok (.goto (-49), 3) := by decide +kernel
theorem dX9_firstWaiting_57 : decode cX9_firstWaiting 57 = .ok (.iload_n 2, 1) := by decide +kernel
theorem dX9_firstWaiting_58 : decode cX9_firstWaiting 58 = .ok (.ireturn, 1) := by decide +kernel
set_option maxRecDepth 20000 in
theorem ggX9_firstInHall_X9_of : GoodIn wsX9_firstInHall wsX9_of := goodIn_r _ [6, 1, 7, 8, 9, 10, 11, 12, 13, 14, 15, 16, 17, 18, 19, 20, 21] (by decide +kernel) (by decide +kernel)
set_option maxRecDepth 20000 in
theorem gX9_firstInHall_X9_of : GoodIn wsX9_firstInHall (wsV RX9 46 RX9 yX9_of wsX9_of) := goodIn_app (goodIn_of _ (by decide +kernel)) ggX9_firstInHall_X9_of
theorem dX9_firstInHall_0 : decode cX9_firstInHall 0 = .ok (.bipush (-5), 2) := by decide +kernel
theorem dX9_firstInHall_2 : decode cX9_firstInHall 2 = .ok (.istore_n 2, 1) := by decide +kernel
theorem dX9_firstInHall_3 : decode cX9_firstInHall 3 = .ok (.iconst 0, 1) := by decide +kernel
theorem dX9_firstInHall_4 : decode cX9_firstInHall 4 = .ok (.istore_n 3, 1) := by decide +kernel
theorem dX9_firstInHall_5 : decode cX9_firstInHall 5 = .ok (.iload_n 3, 1) := by decide +kernel
theorem dX9_firstInHall_6 : decode cX9_firstInHall 6 = .ok (.aload_n 0, 1) := by decide +kernel
theorem dX9_firstInHall_7 : decode cX9_firstInHall 7 = .ok (.getfield 7, 3) := by decide +kernel
theorem dX9_firstInHall_10 : decode cX9_firstInHall 10 = .ok (.iconst 1, 1) := by decide +kernel
theorem dX9_firstInHall_11 : decode cX9_firstInHall 11 = .ok (.iaload, 1) := by decide +kernel
theorem dX9_firstInHall_12 : decode cX9_firstInHall 12 = .ok (.if_icmp .ge 70, 3) := by decide +kernel
theorem dX9_firstInHall_15 : decode cX9_firstInHall 15 = .ok (.aload_n 0, 1) := by decide +kernel
theorem dX9_firstInHall_16 : decode cX9_firstInHall 16 = .ok (.iload_n 3, 1) := by decide +kernel
theorem dX9_firstInHall_17 : decode cX9_firstInHall 17 = .ok (.bipush 6, 2) := by decide +kernel
theorem dX9_firstInHall_19 : decode cX9_firstInHall 19 = .ok (.invokevirtual 46, 3) := by decide +kernel
theorem dX9_firstInHall_22 : decode cX9_firstInHall 22 = .ok (.iconst 2, 1) := by decide +kernel
theorem dX9_firstInHall_23 : decode cX9_firstInHall 23 = .ok (.if_icmp .ne 18, 3) := by decide +kernel
theorem dX9_firstInHall_26 : decode cX9_firstInHall 26 = .ok (.aload_n 0, 1) := by decide +kernel
theorem dX9_firstInHall_27 : decode cX9_firstInHall 27 = .ok (.iload_n 3, 1) := by decide +kernel
theorem dX9_firstInHall_28 : decode cX9_firstInHall 28 = .ok (.bipush 7, 2) := by decide +kernel
theorem dX9_firstInHall_30 : decode cX9_firstInHall 30 = .ok (.invokevirtual 46, 3) := by decide +kernel
theorem dX9_firstInHall_33 : decode cX9_firstInHall 33 = .ok (.iload_n 1, 1) := by decide +kernel
theorem dX9_firstInHall_34 : decode cX9_firstInHall 34 = .ok (.if_icmp .ne 7, 3) := by decide +kernel
theorem dX9_firstInHall_37 : decode cX9_firstInHall 37 = .ok (.iconst 1, 1) := by decide +kernel
theorem dX9_firstInHall_38 : decode cX9_firstInHall 38 = .ok (.goto 4, 3) := by decide +kernel
theorem dX9_firstInHall_41 : decode cX9_firstInHall 41 = .ok (.iconst 0, 1) := by decide +kernel
theorem dX9_firstInHall_42 : decode cX9_firstInHall 42 = .ok (.istore 4, 2) := by decide +kernel
theorem dX9_firstInHall_44 : decode cX9_firstInHall 44 = .ok (.iload 4, 2) := by decide +kernel
theorem dX9_firstInHall_46 : decode cX9_firstInHall 46 = .ok (.ifCond .eq 28, 3) := by decide +kernel
theorem dX9_firstInHall_49 : decode cX9_firstInHall 49 = .ok (.iload_n 2, 1) := by decide +kernel
theorem dX9_firstInHall_50 : decode cX9_firstInHall 50 = .ok (.bipush (-5), 2) := by decide +kernel
theorem dX9_firstInHall_52 : decode cX9_firstInHall 52 = .ok (.if_icmp .eq 18, 3) := by decide +kernel
theorem dX9_firstInHall_55 : decode cX9_firstInHall 55 = .ok (.aload_n 0, 1) := by decide +kernel
theorem dX9_firstInHall_56 : decode cX9_firstInHall 56 = .ok (.iload_n 3, 1) := by decide +kernel
theorem dX9_firstInHall_57 : decode cX9_firstInHall 57 = .ok (.iconst 1, 1) := by decide +kernel
theorem dX9_firstInHall_58 : decode cX9_firstInHall 58 = .ok (.invokevirtual 46, 3) := by decide +kernel
theorem dX9_firstInHall_61 : decode cX9_firstInHall 61 = .ok (.aload_n 0, 1) := by decide +kernel
theorem dX9_firstInHall_62 : decode cX9_firstInHall 62 = .ok (.iload_n 2, 1) := by decide +kernel
theorem dX9_firstInHall_63 : decode cX9_firstInHall 63 = .ok (.iconst 1, 1) := by decide +kernel
theorem dX9_firstInHall_64 : decode cX9_firstInHall 64 = .ok (.invokevirtual 46, 3) := by decide +kernel
theorem dX9_firstInHall_67 : decode cX9_firstInHall 67 = .ok (.if_icmp .le 7, 3) := by decide +kernel
theorem dX9_firstInHall_70 : decode cX9_firstInHall 70 = .ok (.iload_n 3, 1) := by decide +kernel
theorem dX9_firstInHall_71 : decode cX9_firstInHall 71 = .ok (.goto 4, 3) := by decide +kernel
theorem dX9_firstInHall_74 : decode cX9_firstInHall 74 = .ok (.iload_n 2, 1) := by decide +kernel
theorem dX9_firstInHall_75 : decode cX9_firstInHall 75 = .ok (.istore_n 2, 1) := by decide +kernel
theorem dX9_firstInHall_76 : decode cX9_firstInHall 76 = .ok (.iinc 3 1, 3) := by decide +kernel
theorem dX9_firstInHall_79 : decode cX9_firstInHall 79 = .ok (.goto (-74), 3) := by decide +kernel
theorem dX9_firstInHall_82 : decode cX9_firstInHall 82 = .ok (.iload_n 2, 1) := by decide +kernel
theorem dX9_firstInHall_83 : decode cX9_firstInHall 83 = .ok (.ireturn, 1) := by decide +kernel
set_option maxRecDepth 20000 in
theorem ggX9_nextAt_X9_firstInHall : GoodIn wsX9_nextAt wsX9_firstInHall := goodIn_r _ [5, 6, 7, 8, 9, 4, 10, 19, 20, 21, 22, 23, 24, 25, 26, 27, 28, 29, 30, 31, 32, 33] (by decide +kernel) (by decide +kernel)
set_option maxRecDepth 20000 in
theorem gX9_nextAt_X9_firstInHall : GoodIn wsX9_nextAt (wsV RX9 53 RX9 yX9_firstInHall wsX9_firstInHall) := goodIn_app (goodIn_of _ (by decide +kernel)) ggX9_nextAt_X9_firstInHall
set_option maxRecDepth 20000 in
theorem ggX9_nextAt_X9_firstWaiting : GoodIn wsX9_nextAt wsX9_firstWaiting := goodIn_r _ [14, 6, 15, 16, 17, 4, 18, 7, 8, 9, 10, 19, 20, 21, 22, 23, 24, 25, 26, 27, 28, 29, 30, 31, 32, 33] (by decide +kernel) (by decide +kernel)
set_option maxRecDepth 20000 in
theorem gX9_nextAt_X9_firstWaiting : GoodIn wsX9_nextAt (wsV RX9 56 RX9 yX9_firstWaiting wsX9_firstWaiting) := goodIn_app (goodIn_of _ (by decide +kernel)) ggX9_nextAt_X9_firstWaiting
theorem dX9_nextAt_0 : decode cX9_nextAt 0 = .ok (.iload_n 1, 1) := by decide +kernel
theorem dX9_nextAt_1 : decode cX9_nextAt 1 = .ok (.bipush 10, 2) := by decide +kernel
theorem dX9_nextAt_3 : decode cX9_nextAt 3 = .ok (.irem, 1) := by decide +kernel
theorem dX9_nextAt_4 : decode cX9_nextAt 4 = .ok (.ifCond .ne 14, 3) := by decide +kernel
theorem dX9_nextAt_7 : decode cX9_nextAt 7 = .ok (.aload_n 0, 1) := by decide +kernel
theorem dX9_nextAt_8 : decode cX9_nextAt 8 = .ok (.iload_n 1, 1) := by decide +kernel
theorem dX9_nextAt_9 : decode cX9_nextAt 9 = .ok (.bipush 10, 2) := by decide +kernel
theorem dX9_nextAt_11 : decode cX9_nextAt 11 = .ok (.idiv, 1) := by decide +kernel
theorem dX9_nextAt_12 : decode cX9_nextAt 12 = .ok (.invokevirtual 53, 3) := by decide +kernel
theorem dX9_nextAt_15 : decode cX9_nextAt 15 = .ok (.goto 5, 3) := by decide +kernel
theorem dX9_nextAt_18 : decode cX9_nextAt 18 = .ok (.bipush (-5), 2) := by decide +kernel
theorem dX9_nextAt_20 : decode cX9_nextAt 20 = .ok (.istore_n 2, 1) := by decide +kernel
theorem dX9_nextAt_21 : decode cX9_nextAt 21 = .ok (.iload_n 2, 1) := by decide +kernel
theorem dX9_nextAt_22 : decode cX9_nextAt 22 = .ok (.bipush (-5), 2) := by decide +kernel
theorem dX9_nextAt_24 : decode cX9_nextAt 24 = .ok (.if_icmp .eq 7, 3) := by decide +kernel
theorem dX9_nextAt_27 : decode cX9_nextAt 27 = .ok (.iload_n 2, 1) := by decide +kernel
theorem dX9_nextAt_28 : decode cX9_nextAt 28 = .ok (.goto 8, 3) := by decide +kernel
theorem dX9_nextAt_31 : decode cX9_nextAt 31 = .ok (.aload_n 0, 1) := by decide +kernel
theorem dX9_nextAt_32 : decode cX9_nextAt 32 = .ok (.iload_n 1, 1) := by decide +kernel
theorem dX9_nextAt_33 : decode cX9_nextAt 33 = .ok (.invokevirtual 56, 3) := by decide +kernel
theorem dX9_nextAt_36 : decode cX9_nextAt 36 = .ok (.ireturn, 1) := by decide +kernel
theorem dX9_logs_0 : decode cX9_logs 0 = .ok (.bipush 59, 2) := by decide +kernel
theorem dX9_logs_2 : decode cX9_logs 2 = .ok (.istore 5, 2) := by decide +kernel
theorem dX9_logs_4 : decode cX9_logs 4 = .ok (.iload 5, 2) := by decide +kernel
theorem dX9_logs_6 : decode cX9_logs 6 = .ok (.iconst 4, 1) := by decide +kernel
theorem dX9_logs_7 : decode cX9_logs 7 = .ok (.if_icmp .le 33, 3) := by decide +kernel
theorem dX9_logs_10 : decode cX9_logs 10 = .ok (.aload_n 0, 1) := by decide +kernel
theorem dX9_logs_11 : decode cX9_logs 11 = .ok (.getfield 7, 3) := by decide +kernel
theorem dX9_logs_14 : decode cX9_logs 14 = .ok (.sipush 234, 3) := by decide +kernel
theorem dX9_logs_17 : decode cX9_logs 17 = .ok (.iload 5, 2) := by decide +kernel
theorem dX9_logs_19 : decode cX9_logs 19 = .ok (.iadd, 1) := by decide +kernel
theorem dX9_logs_20 : decode cX9_logs 20 = .ok (.aload_n 0, 1) := by decide +kernel
theorem dX9_logs_21 : decode cX9_logs 21 = .ok (.getfield 7, 3) := by decide +kernel
theorem dX9_logs_24 : decode cX9_logs 24 = .ok (.sipush 234, 3) := by decide +kernel
theorem dX9_logs_27 : decode cX9_logs 27 = .ok (.iload 5, 2) := by decide +kernel
theorem dX9_logs_29 : decode cX9_logs 29 = .ok (.iadd, 1) := by decide +kernel
theorem dX9_logs_30 : decode cX9_logs 30 = .ok (.iconst 5, 1) := by decide +kernel
theorem dX9_logs_31 : decode cX9_logs 31 = .ok (.isub, 1) := by decide +kernel
theorem dX9_logs_32 : decode cX9_logs 32 = .ok (.iaload, 1) := by decide +kernel
theorem dX9_logs_33 : decode cX9_logs 33 = .ok (.iastore, 1) := by decide +kernel
theorem dX9_logs_34 : decode cX9_logs 34 = .ok (.iinc 5 (-1), 3) := by decide +kernel
theorem dX9_logs_37 : decode cX9_logs 37 = .ok (.goto (-33), 3) := by decide +kernel
theorem dX9_logs_40 : decode cX9_logs 40 = .ok (.aload_n 0, 1) := by decide +kernel
theorem dX9_logs_41 : decode cX9_logs 41 = .ok (.getfield 7, 3) := by decide +kernel
theorem dX9_logs_44 : decode cX9_logs 44 = .ok (.sipush 234, 3) := by decide +kernel
theorem dX9_logs_47 : decode cX9_logs 47 = .ok (.iload_n 1, 1) := by decide +kernel
theorem dX9_logs_48 : decode cX9_logs 48 = .ok (.iastore, 1) := by decide +kernel
theorem dX9_logs_49 : decode cX9_logs 49 = .ok (.aload_n 0, 1) := by decide +kernel
theorem dX9_logs_50 : decode cX9_logs 50 = .ok (.getfield 7, 3) := by decide +kernel
theorem dX9_logs_53 : decode cX9_logs 53 = .ok (.sipush 235, 3) := by decide +kernel
theorem dX9_logs_56 : decode cX9_logs 56 = .ok (.iload_n 2, 1) := by decide +kernel
theorem dX9_logs_57 : decode cX9_logs 57 = .ok (.iastore, 1) := by decide +kernel
theorem dX9_logs_58 : decode cX9_logs 58 = .ok (.aload_n 0, 1) := by decide +kernel
theorem dX9_logs_59 : decode cX9_logs 59 = .ok (.getfield 7, 3) := by decide +kernel
theorem dX9_logs_62 : decode cX9_logs 62 = .ok (.sipush 236, 3) := by decide +kernel
theorem dX9_logs_65 : decode cX9_logs 65 = .ok (.iload_n 3, 1) := by decide +kernel
theorem dX9_logs_66 : decode cX9_logs 66 = .ok (.iastore, 1) := by decide +kernel
theorem dX9_logs_67 : decode cX9_logs 67 = .ok (.aload_n 0, 1) := by decide +kernel
theorem dX9_logs_68 : decode cX9_logs 68 = .ok (.getfield 7, 3) := by decide +kernel
theorem dX9_logs_71 : decode cX9_logs 71 = .ok (.sipush 237, 3) := by decide +kernel
theorem dX9_logs_74 : decode cX9_logs 74 = .ok (.iload 4, 2) := by decide +kernel
theorem dX9_logs_76 : decode cX9_logs 76 = .ok (.iastore, 1) := by decide +kernel
theorem dX9_logs_77 : decode cX9_logs 77 = .ok (.aload_n 0, 1) := by decide +kernel
theorem dX9_logs_78 : decode cX9_logs 78 = .ok (.getfield 7, 3) := by decide +kernel
theorem dX9_logs_81 : decode cX9_logs 81 = .ok (.sipush 238, 3) := by decide +kernel
theorem dX9_logs_84 : decode cX9_logs 84 = .ok (.aload_n 0, 1) := by decide +kernel
theorem dX9_logs_85 : decode cX9_logs 85 = .ok (.getfield 7, 3) := by decide +kernel
theorem dX9_logs_88 : decode cX9_logs 88 = .ok (.iconst 0, 1) := by decide +kernel
theorem dX9_logs_89 : decode cX9_logs 89 = .ok (.iaload, 1) := by decide +kernel
theorem dX9_logs_90 : decode cX9_logs 90 = .ok (.iastore, 1) := by decide +kernel
theorem dX9_logs_91 : decode cX9_logs 91 = .ok (.aload_n 0, 1) := by decide +kernel
theorem dX9_logs_92 : decode cX9_logs 92 = .ok (.getfield 7, 3) := by decide +kernel
theorem dX9_logs_95 : decode cX9_logs 95 = .ok (.bipush 9, 2) := by decide +kernel
theorem dX9_logs_97 : decode cX9_logs 97 = .ok (.dup2, 1) := by decide +kernel
theorem dX9_logs_98 : decode cX9_logs 98 = .ok (.iaload, 1) := by decide +kernel
theorem dX9_logs_99 : decode cX9_logs 99 = .ok (.aload_n 0, 1) := by decide +kernel
theorem dX9_logs_100 : decode cX9_logs 100 = .ok (.getfield 7, 3) := by decide +kernel
theorem dX9_logs_103 : decode cX9_logs 103 = .ok (.bipush 9, 2) := by decide +kernel
theorem dX9_logs_105 : decode cX9_logs 105 = .ok (.iaload, 1) := by decide +kernel
theorem dX9_logs_106 : decode cX9_logs 106 = .ok (.bipush 12, 2) := by decide +kernel
theorem dX9_logs_108 : decode cX9_logs 108 = .ok (.if_icmp .ge 7, 3) := by decide +kernel
theorem dX9_logs_111 : decode cX9_logs 111 = .ok (.iconst 1, 1) := by decide +kernel
theorem dX9_logs_112 : decode cX9_logs 112 = .ok (.goto 4, 3) := by decide +kernel
theorem dX9_logs_115 : decode cX9_logs 115 = .ok (.iconst 0, 1) := by decide +kernel
theorem dX9_logs_116 : decode cX9_logs 116 = .ok (.iadd, 1) := by decide +kernel
theorem dX9_logs_117 : decode cX9_logs 117 = .ok (.iastore, 1) := by decide +kernel
theorem dX9_logs_118 : decode cX9_logs 118 = .ok (.return_, 1) := by decide +kernel
set_option maxRecDepth 20000 in
theorem ggX9_rises_X9_of : GoodIn wsX9_rises wsX9_of := goodIn_r _ [6, 1, 11, 12, 13, 14, 15, 16, 17, 18, 19, 20, 21, 22, 23, 24, 25] (by decide +kernel) (by decide +kernel)
set_option maxRecDepth 20000 in
theorem gX9_rises_X9_of : GoodIn wsX9_rises (wsV RX9 46 RX9 yX9_of wsX9_of) := goodIn_app (goodIn_of _ (by decide +kernel)) ggX9_rises_X9_of
set_option maxRecDepth 20000 in
theorem ggX9_rises_X9_put : GoodIn wsX9_rises wsX9_put := goodIn_r _ [10, 1, 11, 12, 13, 14, 15, 16, 17, 18, 19, 20, 21, 22, 23, 24, 25] (by decide +kernel) (by decide +kernel)
set_option maxRecDepth 20000 in
theorem gX9_rises_X9_put : GoodIn wsX9_rises (wsV RX9 59 RX9 yX9_put wsX9_put) := goodIn_app (goodIn_of _ (by decide +kernel)) ggX9_rises_X9_put
theorem dX9_rises_0 : decode cX9_rises 0 = .ok (.aload_n 0, 1) := by decide +kernel
theorem dX9_rises_1 : decode cX9_rises 1 = .ok (.iload_n 1, 1) := by decide +kernel
theorem dX9_rises_2 : decode cX9_rises 2 = .ok (.bipush 6, 2) := by decide +kernel
theorem dX9_rises_4 : decode cX9_rises 4 = .ok (.invokevirtual 46, 3) := by decide +kernel
theorem dX9_rises_7 : decode cX9_rises 7 = .ok (.iconst 1, 1) := by decide +kernel
theorem dX9_rises_8 : decode cX9_rises 8 = .ok (.if_icmp .ne 31, 3) := by decide +kernel
theorem dX9_rises_11 : decode cX9_rises 11 = .ok (.aload_n 0, 1) := by decide +kernel
theorem dX9_rises_12 : decode cX9_rises 12 = .ok (.getfield 7, 3) := by decide +kernel
theorem dX9_rises_15 : decode cX9_rises 15 = .ok (.bipush 26, 2) := by decide +kernel
theorem dX9_rises_17 : decode cX9_rises 17 = .ok (.bipush 24, 2) := by decide +kernel
theorem dX9_rises_19 : decode cX9_rises 19 = .ok (.aload_n 0, 1) := by decide +kernel
theorem dX9_rises_20 : decode cX9_rises 20 = .ok (.iload_n 1, 1) := by decide +kernel
theorem dX9_rises_21 : decode cX9_rises 21 = .ok (.bipush 7, 2) := by decide +kernel
theorem dX9_rises_23 : decode cX9_rises 23 = .ok (.invokevirtual 46, 3) := by decide +kernel
theorem dX9_rises_26 : decode cX9_rises 26 = .ok (.imul, 1) := by decide +kernel
theorem dX9_rises_27 : decode cX9_rises 27 = .ok (.iadd, 1) := by decide +kernel
theorem dX9_rises_28 : decode cX9_rises 28 = .ok (.aload_n 0, 1) := by decide +kernel
theorem dX9_rises_29 : decode cX9_rises 29 = .ok (.iload_n 1, 1) := by decide +kernel
theorem dX9_rises_30 : decode cX9_rises 30 = .ok (.bipush 8, 2) := by decide +kernel
theorem dX9_rises_32 : decode cX9_rises 32 = .ok (.invokevirtual 46, 3) := by decide +kernel
theorem dX9_rises_35 : decode cX9_rises 35 = .ok (.iadd, 1) := by decide +kernel
theorem dX9_rises_36 : decode cX9_rises 36 = .ok (.bipush (-5), 2) := by decide +kernel
theorem dX9_rises_38 : decode cX9_rises 38 = .ok (.iastore, 1) := by decide +kernel
theorem dX9_rises_39 : decode cX9_rises 39 = .ok (.aload_n 0, 1) := by decide +kernel
theorem dX9_rises_40 : decode cX9_rises 40 = .ok (.iload_n 1, 1) := by decide +kernel
theorem dX9_rises_41 : decode cX9_rises 41 = .ok (.bipush 7, 2) := by decide +kernel
theorem dX9_rises_43 : decode cX9_rises 43 = .ok (.bipush (-5), 2) := by decide +kernel
theorem dX9_rises_45 : decode cX9_rises 45 = .ok (.invokevirtual 59, 3) := by decide +kernel
theorem dX9_rises_48 : decode cX9_rises 48 = .ok (.aload_n 0, 1) := by decide +kernel
theorem dX9_rises_49 : decode cX9_rises 49 = .ok (.iload_n 1, 1) := by decide +kernel
theorem dX9_rises_50 : decode cX9_rises 50 = .ok (.bipush 8, 2) := by decide +kernel
theorem dX9_rises_52 : decode cX9_rises 52 = .ok (.bipush (-5), 2) := by decide +kernel
theorem dX9_rises_54 : decode cX9_rises 54 = .ok (.invokevirtual 59, 3) := by decide +kernel
theorem dX9_rises_57 : decode cX9_rises 57 = .ok (.return_, 1) := by decide +kernel
set_option maxRecDepth 20000 in
theorem ggX9_ends_X9_rises : GoodIn wsX9_ends wsX9_rises := goodIn_r _ [6, 1, 7, 8, 9, 5, 10, 11, 12, 13, 14, 15, 16, 17, 18, 19, 20, 21, 22, 23, 24, 25, 26, 27, 28, 29] (by decide +kernel) (by decide +kernel)
set_option maxRecDepth 20000 in
theorem gX9_ends_X9_rises : GoodIn wsX9_ends (wsV RX9 63 RX9 yX9_rises wsX9_rises) := goodIn_app (goodIn_of _ (by decide +kernel)) ggX9_ends_X9_rises
set_option maxRecDepth 20000 in
theorem ggX9_ends_X9_put : GoodIn wsX9_ends wsX9_put := goodIn_r _ [14, 1, 15, 16, 17, 18, 19, 20, 21, 22, 23, 24, 25, 26, 27, 28, 29] (by decide +kernel) (by decide +kernel)
set_option maxRecDepth 20000 in
theorem gX9_ends_X9_put : GoodIn wsX9_ends (wsV RX9 59 RX9 yX9_put wsX9_put) := goodIn_app (goodIn_of _ (by decide +kernel)) ggX9_ends_X9_put
set_option maxRecDepth 20000 in
theorem ggX9_ends_X9_of : GoodIn wsX9_ends wsX9_of := goodIn_r _ [10, 1, 15, 16, 17, 18, 19, 20, 21, 22, 23, 24, 25, 26, 27, 28, 29] (by decide +kernel) (by decide +kernel)
set_option maxRecDepth 20000 in
theorem gX9_ends_X9_of : GoodIn wsX9_ends (wsV RX9 46 RX9 yX9_of wsX9_of) := goodIn_app (goodIn_of _ (by decide +kernel)) ggX9_ends_X9_of
theorem dX9_ends_0 : decode cX9_ends 0 = .ok (.aload_n 0, 1) := by decide +kernel
theorem dX9_ends_1 : decode cX9_ends 1 = .ok (.iload_n 1, 1) := by decide +kernel
theorem dX9_ends_2 : decode cX9_ends 2 = .ok (.invokevirtual 63, 3) := by decide +kernel
theorem dX9_ends_5 : decode cX9_ends 5 = .ok (.aload_n 0, 1) := by decide +kernel
theorem dX9_ends_6 : decode cX9_ends 6 = .ok (.iload_n 1, 1) := by decide +kernel
theorem dX9_ends_7 : decode cX9_ends 7 = .ok (.bipush 6, 2) := by decide +kernel
theorem dX9_ends_9 : decode cX9_ends 9 = .ok (.iload_n 2, 1) := by decide +kernel
theorem dX9_ends_10 : decode cX9_ends 10 = .ok (.invokevirtual 59, 3) := by decide +kernel
theorem dX9_ends_13 : decode cX9_ends 13 = .ok (.aload_n 0, 1) := by decide +kernel
theorem dX9_ends_14 : decode cX9_ends 14 = .ok (.iload_n 1, 1) := by decide +kernel
theorem dX9_ends_15 : decode cX9_ends 15 = .ok (.bipush 11, 2) := by decide +kernel
theorem dX9_ends_17 : decode cX9_ends 17 = .ok (.aload_n 0, 1) := by decide +kernel
theorem dX9_ends_18 : decode cX9_ends 18 = .ok (.getfield 7, 3) := by decide +kernel
theorem dX9_ends_21 : decode cX9_ends 21 = .ok (.iconst 0, 1) := by decide +kernel
theorem dX9_ends_22 : decode cX9_ends 22 = .ok (.iaload, 1) := by decide +kernel
theorem dX9_ends_23 : decode cX9_ends 23 = .ok (.invokevirtual 59, 3) := by decide +kernel
theorem dX9_ends_26 : decode cX9_ends 26 = .ok (.aload_n 0, 1) := by decide +kernel
theorem dX9_ends_27 : decode cX9_ends 27 = .ok (.iload_n 1, 1) := by decide +kernel
theorem dX9_ends_28 : decode cX9_ends 28 = .ok (.bipush 12, 2) := by decide +kernel
theorem dX9_ends_30 : decode cX9_ends 30 = .ok (.iload_n 3, 1) := by decide +kernel
theorem dX9_ends_31 : decode cX9_ends 31 = .ok (.invokevirtual 59, 3) := by decide +kernel
theorem dX9_ends_34 : decode cX9_ends 34 = .ok (.aload_n 0, 1) := by decide +kernel
theorem dX9_ends_35 : decode cX9_ends 35 = .ok (.getfield 7, 3) := by decide +kernel
theorem dX9_ends_38 : decode cX9_ends 38 = .ok (.iconst 5, 1) := by decide +kernel
theorem dX9_ends_39 : decode cX9_ends 39 = .ok (.dup2, 1) := by decide +kernel
theorem dX9_ends_40 : decode cX9_ends 40 = .ok (.iaload, 1) := by decide +kernel
theorem dX9_ends_41 : decode cX9_ends 41 = .ok (.iload 4, 2) := by decide +kernel
theorem dX9_ends_43 : decode cX9_ends 43 = .ok (.iadd, 1) := by decide +kernel
theorem dX9_ends_44 : decode cX9_ends 44 = .ok (.iastore, 1) := by decide +kernel
theorem dX9_ends_45 : decode cX9_ends 45 = .ok (.aload_n 0, 1) := by decide +kernel
theorem dX9_ends_46 : decode cX9_ends 46 = .ok (.getfield 7, 3) := by decide +kernel
theorem dX9_ends_49 : decode cX9_ends 49 = .ok (.iconst 4, 1) := by decide +kernel
theorem dX9_ends_50 : decode cX9_ends 50 = .ok (.dup2, 1) := by decide +kernel
theorem dX9_ends_51 : decode cX9_ends 51 = .ok (.iaload, 1) := by decide +kernel
theorem dX9_ends_52 : decode cX9_ends 52 = .ok (.aload_n 0, 1) := by decide +kernel
theorem dX9_ends_53 : decode cX9_ends 53 = .ok (.iload_n 1, 1) := by decide +kernel
theorem dX9_ends_54 : decode cX9_ends 54 = .ok (.iconst 5, 1) := by decide +kernel
theorem dX9_ends_55 : decode cX9_ends 55 = .ok (.invokevirtual 46, 3) := by decide +kernel
theorem dX9_ends_58 : decode cX9_ends 58 = .ok (.iload 4, 2) := by decide +kernel
theorem dX9_ends_60 : decode cX9_ends 60 = .ok (.isub, 1) := by decide +kernel
theorem dX9_ends_61 : decode cX9_ends 61 = .ok (.iadd, 1) := by decide +kernel
theorem dX9_ends_62 : decode cX9_ends 62 = .ok (.iastore, 1) := by decide +kernel
theorem dX9_ends_63 : decode cX9_ends 63 = .ok (.return_, 1) := by decide +kernel
set_option maxRecDepth 20000 in
theorem ggX9_boards_X9_put : GoodIn wsX9_boards wsX9_put := goodIn_r _ [6, 1, 18, 19, 20, 21, 22, 23, 24, 25, 26, 27, 28, 29, 30, 31, 32] (by decide +kernel) (by decide +kernel)
set_option maxRecDepth 20000 in
theorem gX9_boards_X9_put : GoodIn wsX9_boards (wsV RX9 59 RX9 yX9_put wsX9_put) := goodIn_app (goodIn_of _ (by decide +kernel)) ggX9_boards_X9_put
set_option maxRecDepth 20000 in
theorem ggX9_boards_X9_of : GoodIn wsX9_boards wsX9_of := goodIn_r _ [10, 1, 18, 19, 20, 21, 22, 23, 24, 25, 26, 27, 28, 29, 30, 31, 32] (by decide +kernel) (by decide +kernel)
set_option maxRecDepth 20000 in
theorem gX9_boards_X9_of : GoodIn wsX9_boards (wsV RX9 46 RX9 yX9_of wsX9_of) := goodIn_app (goodIn_of _ (by decide +kernel)) ggX9_boards_X9_of
set_option maxRecDepth 20000 in
theorem ggX9_boards_X9_stationAt : GoodIn wsX9_boards wsX9_stationAt := goodIn_r _ [13] (by decide +kernel) (by decide +kernel)
set_option maxRecDepth 20000 in
theorem gX9_boards_X9_stationAt : GoodIn wsX9_boards (va_wsS RX9 42 yX9_stationAt wsX9_stationAt) := goodIn_app (goodIn_of _ (by decide +kernel)) ggX9_boards_X9_stationAt
set_option maxRecDepth 20000 in
theorem ggX9_boards_X9_logs : GoodIn wsX9_boards wsX9_logs := goodIn_r _ [17, 1, 18, 19, 20, 21, 22, 23, 24, 25, 26, 27, 28, 29, 30, 31, 32] (by decide +kernel) (by decide +kernel)
set_option maxRecDepth 20000 in
theorem gX9_boards_X9_logs : GoodIn wsX9_boards (wsV RX9 67 RX9 yX9_logs wsX9_logs) := goodIn_app (goodIn_of _ (by decide +kernel)) ggX9_boards_X9_logs
theorem dX9_boards_0 : decode cX9_boards 0 = .ok (.iload_n 2, 1) := by decide +kernel
theorem dX9_boards_1 : decode cX9_boards 1 = .ok (.bipush 10, 2) := by decide +kernel
theorem dX9_boards_3 : decode cX9_boards 3 = .ok (.idiv, 1) := by decide +kernel
theorem dX9_boards_4 : decode cX9_boards 4 = .ok (.istore 4, 2) := by decide +kernel
theorem dX9_boards_6 : decode cX9_boards 6 = .ok (.aload_n 0, 1) := by decide +kernel
theorem dX9_boards_7 : decode cX9_boards 7 = .ok (.iload_n 1, 1) := by decide +kernel
theorem dX9_boards_8 : decode cX9_boards 8 = .ok (.bipush 6, 2) := by decide +kernel
theorem dX9_boards_10 : decode cX9_boards 10 = .ok (.iconst 1, 1) := by decide +kernel
theorem dX9_boards_11 : decode cX9_boards 11 = .ok (.invokevirtual 59, 3) := by decide +kernel
theorem dX9_boards_14 : decode cX9_boards 14 = .ok (.aload_n 0, 1) := by decide +kernel
theorem dX9_boards_15 : decode cX9_boards 15 = .ok (.iload_n 1, 1) := by decide +kernel
theorem dX9_boards_16 : decode cX9_boards 16 = .ok (.bipush 7, 2) := by decide +kernel
theorem dX9_boards_18 : decode cX9_boards 18 = .ok (.iload 4, 2) := by decide +kernel
theorem dX9_boards_20 : decode cX9_boards 20 = .ok (.invokevirtual 59, 3) := by decide +kernel
theorem dX9_boards_23 : decode cX9_boards 23 = .ok (.aload_n 0, 1) := by decide +kernel
theorem dX9_boards_24 : decode cX9_boards 24 = .ok (.iload_n 1, 1) := by decide +kernel
theorem dX9_boards_25 : decode cX9_boards 25 = .ok (.bipush 8, 2) := by decide +kernel
theorem dX9_boards_27 : decode cX9_boards 27 = .ok (.iload_n 3, 1) := by decide +kernel
theorem dX9_boards_28 : decode cX9_boards 28 = .ok (.invokevirtual 59, 3) := by decide +kernel
theorem dX9_boards_31 : decode cX9_boards 31 = .ok (.aload_n 0, 1) := by decide +kernel
theorem dX9_boards_32 : decode cX9_boards 32 = .ok (.iload_n 1, 1) := by decide +kernel
theorem dX9_boards_33 : decode cX9_boards 33 = .ok (.bipush 16, 2) := by decide +kernel
theorem dX9_boards_35 : decode cX9_boards 35 = .ok (.iload_n 2, 1) := by decide +kernel
theorem dX9_boards_36 : decode cX9_boards 36 = .ok (.bipush 10, 2) := by decide +kernel
theorem dX9_boards_38 : decode cX9_boards 38 = .ok (.irem, 1) := by decide +kernel
theorem dX9_boards_39 : decode cX9_boards 39 = .ok (.invokevirtual 59, 3) := by decide +kernel
theorem dX9_boards_42 : decode cX9_boards 42 = .ok (.aload_n 0, 1) := by decide +kernel
theorem dX9_boards_43 : decode cX9_boards 43 = .ok (.iload_n 1, 1) := by decide +kernel
theorem dX9_boards_44 : decode cX9_boards 44 = .ok (.bipush 10, 2) := by decide +kernel
theorem dX9_boards_46 : decode cX9_boards 46 = .ok (.aload_n 0, 1) := by decide +kernel
theorem dX9_boards_47 : decode cX9_boards 47 = .ok (.iload_n 1, 1) := by decide +kernel
theorem dX9_boards_48 : decode cX9_boards 48 = .ok (.bipush 10, 2) := by decide +kernel
theorem dX9_boards_50 : decode cX9_boards 50 = .ok (.invokevirtual 46, 3) := by decide +kernel
theorem dX9_boards_53 : decode cX9_boards 53 = .ok (.bipush (-5), 2) := by decide +kernel
theorem dX9_boards_55 : decode cX9_boards 55 = .ok (.if_icmp .ne 12, 3) := by decide +kernel
theorem dX9_boards_58 : decode cX9_boards 58 = .ok (.aload_n 0, 1) := by decide +kernel
theorem dX9_boards_59 : decode cX9_boards 59 = .ok (.getfield 7, 3) := by decide +kernel
theorem dX9_boards_62 : decode cX9_boards 62 = .ok (.iconst 0, 1) := by decide +kernel
theorem dX9_boards_63 : decode cX9_boards 63 = .ok (.iaload, 1) := by decide +kernel
theorem dX9_boards_64 : decode cX9_boards 64 = .ok (.goto 10, 3) := by decide +kernel
theorem dX9_boards_67 : decode cX9_boards 67 = .ok (.aload_n 0, 1) := by decide +kernel
theorem dX9_boards_68 : decode cX9_boards 68 = .ok (.iload_n 1, 1) := by decide +kernel
theorem dX9_boards_69 : decode cX9_boards 69 = .ok (.bipush 10, 2) := by decide +kernel
theorem dX9_boards_71 : decode cX9_boards 71 = .ok (.invokevirtual 46, 3) := by decide +kernel
theorem dX9_boards_74 : decode cX9_boards 74 = .ok (.invokevirtual 59, 3) := by decide +kernel
theorem dX9_boards_77 : decode cX9_boards 77 = .ok (.aload_n 0, 1) := by decide +kernel
theorem dX9_boards_78 : decode cX9_boards 78 = .ok (.getfield 7, 3) := by decide +kernel
theorem dX9_boards_81 : decode cX9_boards 81 = .ok (.bipush 26, 2) := by decide +kernel
theorem dX9_boards_83 : decode cX9_boards 83 = .ok (.bipush 24, 2) := by decide +kernel
theorem dX9_boards_85 : decode cX9_boards 85 = .ok (.iload 4, 2) := by decide +kernel
theorem dX9_boards_87 : decode cX9_boards 87 = .ok (.imul, 1) := by decide +kernel
theorem dX9_boards_88 : decode cX9_boards 88 = .ok (.iadd, 1) := by decide +kernel
theorem dX9_boards_89 : decode cX9_boards 89 = .ok (.iload_n 3, 1) := by decide +kernel
theorem dX9_boards_90 : decode cX9_boards 90 = .ok (.iadd, 1) := by decide +kernel
theorem dX9_boards_91 : decode cX9_boards 91 = .ok (.iload_n 1, 1) := by decide +kernel
theorem dX9_boards_92 : decode cX9_boards 92 = .ok (.iastore, 1) := by decide +kernel
theorem dX9_boards_93 : decode cX9_boards 93 = .ok (.aload_n 0, 1) := by decide +kernel
theorem dX9_boards_94 : decode cX9_boards 94 = .ok (.getfield 7, 3) := by decide +kernel
theorem dX9_boards_97 : decode cX9_boards 97 = .ok (.iload_n 2, 1) := by decide +kernel
theorem dX9_boards_98 : decode cX9_boards 98 = .ok (.invokestatic 42, 3) := by decide +kernel
theorem dX9_boards_101 : decode cX9_boards 101 = .ok (.iconst 1, 1) := by decide +kernel
theorem dX9_boards_102 : decode cX9_boards 102 = .ok (.iadd, 1) := by decide +kernel
theorem dX9_boards_103 : decode cX9_boards 103 = .ok (.dup2, 1) := by decide +kernel
theorem dX9_boards_104 : decode cX9_boards 104 = .ok (.iaload, 1) := by decide +kernel
theorem dX9_boards_105 : decode cX9_boards 105 = .ok (.iconst 1, 1) := by decide +kernel
theorem dX9_boards_106 : decode cX9_boards 106 = .ok (.iadd, 1) := by decide +kernel
theorem dX9_boards_107 : decode cX9_boards 107 = .ok (.iastore, 1) := by decide +kernel
theorem dX9_boards_108 : decode cX9_boards 108 = .ok (.aload_n 0, 1) := by decide +kernel
theorem dX9_boards_109 : decode cX9_boards 109 = .ok (.iconst 0, 1) := by decide +kernel
theorem dX9_boards_110 : decode cX9_boards 110 = .ok (.iload_n 1, 1) := by decide +kernel
theorem dX9_boards_111 : decode cX9_boards 111 = .ok (.iload 4, 2) := by decide +kernel
theorem dX9_boards_113 : decode cX9_boards 113 = .ok (.iload_n 2, 1) := by decide +kernel
theorem dX9_boards_114 : decode cX9_boards 114 = .ok (.invokevirtual 67, 3) := by decide +kernel
theorem dX9_boards_117 : decode cX9_boards 117 = .ok (.return_, 1) := by decide +kernel
theorem dX9_cost_0 : decode cX9_cost 0 = .ok (.iload_n 1, 1) := by decide +kernel
theorem dX9_cost_1 : decode cX9_cost 1 = .ok (.iload_n 2, 1) := by decide +kernel
theorem dX9_cost_2 : decode cX9_cost 2 = .ok (.imul, 1) := by decide +kernel
theorem dX9_cost_3 : decode cX9_cost 3 = .ok (.aload_n 0, 1) := by decide +kernel
theorem dX9_cost_4 : decode cX9_cost 4 = .ok (.getfield 7, 3) := by decide +kernel
theorem dX9_cost_7 : decode cX9_cost 7 = .ok (.bipush 6, 2) := by decide +kernel
theorem dX9_cost_9 : decode cX9_cost 9 = .ok (.iaload, 1) := by decide +kernel
theorem dX9_cost_10 : decode cX9_cost 10 = .ok (.imul, 1) := by decide +kernel
theorem dX9_cost_11 : decode cX9_cost 11 = .ok (.iload_n 1, 1) := by decide +kernel
theorem dX9_cost_12 : decode cX9_cost 12 = .ok (.iconst 3, 1) := by decide +kernel
theorem dX9_cost_13 : decode cX9_cost 13 = .ok (.if_icmp .ne 8, 3) := by decide +kernel
theorem dX9_cost_16 : decode cX9_cost 16 = .ok (.bipush 25, 2) := by decide +kernel
theorem dX9_cost_18 : decode cX9_cost 18 = .ok (.goto 4, 3) := by decide +kernel
theorem dX9_cost_21 : decode cX9_cost 21 = .ok (.iconst 0, 1) := by decide +kernel
theorem dX9_cost_22 : decode cX9_cost 22 = .ok (.iadd, 1) := by decide +kernel
theorem dX9_cost_23 : decode cX9_cost 23 = .ok (.ireturn, 1) := by decide +kernel
set_option maxRecDepth 20000 in
theorem ggX9_comes_X9_put : GoodIn wsX9_comes wsX9_put := goodIn_r _ [6, 1, 15, 16, 17, 18, 19, 20, 21, 22, 23, 24, 25, 26, 27, 28, 29] (by decide +kernel) (by decide +kernel)
set_option maxRecDepth 20000 in
theorem gX9_comes_X9_put : GoodIn wsX9_comes (wsV RX9 59 RX9 yX9_put wsX9_put) := goodIn_app (goodIn_of _ (by decide +kernel)) ggX9_comes_X9_put
set_option maxRecDepth 20000 in
theorem ggX9_comes_X9_cost : GoodIn wsX9_comes wsX9_cost := goodIn_r _ [10, 1, 15, 16, 17, 18, 19, 20, 21, 22, 23, 24, 25, 26, 27, 28, 29] (by decide +kernel) (by decide +kernel)
set_option maxRecDepth 20000 in
theorem gX9_comes_X9_cost : GoodIn wsX9_comes (wsV RX9 71 RX9 yX9_cost wsX9_cost) := goodIn_app (goodIn_of _ (by decide +kernel)) ggX9_comes_X9_cost
set_option maxRecDepth 20000 in
theorem ggX9_comes_X9_of : GoodIn wsX9_comes wsX9_of := goodIn_r _ [14, 1, 15, 16, 17, 18, 19, 20, 21, 22, 23, 24, 25, 26, 27, 28, 29] (by decide +kernel) (by decide +kernel)
set_option maxRecDepth 20000 in
theorem gX9_comes_X9_of : GoodIn wsX9_comes (wsV RX9 46 RX9 yX9_of wsX9_of) := goodIn_app (goodIn_of _ (by decide +kernel)) ggX9_comes_X9_of
theorem dX9_comes_0 : decode cX9_comes 0 = .ok (.aload_n 0, 1) := by decide +kernel
theorem dX9_comes_1 : decode cX9_comes 1 = .ok (.getfield 7, 3) := by decide +kernel
theorem dX9_comes_4 : decode cX9_comes 4 = .ok (.iconst 1, 1) := by decide +kernel
theorem dX9_comes_5 : decode cX9_comes 5 = .ok (.iaload, 1) := by decide +kernel
theorem dX9_comes_6 : decode cX9_comes 6 = .ok (.istore 6, 2) := by decide +kernel
theorem dX9_comes_8 : decode cX9_comes 8 = .ok (.aload_n 0, 1) := by decide +kernel
theorem dX9_comes_9 : decode cX9_comes 9 = .ok (.getfield 7, 3) := by decide +kernel
theorem dX9_comes_12 : decode cX9_comes 12 = .ok (.iconst 1, 1) := by decide +kernel
theorem dX9_comes_13 : decode cX9_comes 13 = .ok (.dup2, 1) := by decide +kernel
theorem dX9_comes_14 : decode cX9_comes 14 = .ok (.iaload, 1) := by decide +kernel
theorem dX9_comes_15 : decode cX9_comes 15 = .ok (.iconst 1, 1) := by decide +kernel
theorem dX9_comes_16 : decode cX9_comes 16 = .ok (.iadd, 1) := by decide +kernel
theorem dX9_comes_17 : decode cX9_comes 17 = .ok (.iastore, 1) := by decide +kernel
theorem dX9_comes_18 : decode cX9_comes 18 = .ok (.iconst 0, 1) := by decide +kernel
theorem dX9_comes_19 : decode cX9_comes 19 = .ok (.istore 7, 2) := by decide +kernel
theorem dX9_comes_21 : decode cX9_comes 21 = .ok (.iload 7, 2) := by decide +kernel
theorem dX9_comes_23 : decode cX9_comes 23 = .ok (.bipush 17, 2) := by decide +kernel
theorem dX9_comes_25 : decode cX9_comes 25 = .ok (.if_icmp .ge 19, 3) := by decide +kernel
theorem dX9_comes_28 : decode cX9_comes 28 = .ok (.aload_n 0, 1) := by decide +kernel
theorem dX9_comes_29 : decode cX9_comes 29 = .ok (.iload 6, 2) := by decide +kernel
theorem dX9_comes_31 : decode cX9_comes 31 = .ok (.iload 7, 2) := by decide +kernel
theorem dX9_comes_33 : decode cX9_comes 33 = .ok (.bipush (-5), 2) := by decide +kernel
theorem dX9_comes_35 : decode cX9_comes 35 = .ok (.invokevirtual 59, 3) := by decide +kernel
theorem dX9_comes_38 : decode cX9_comes 38 = .ok (.iinc 7 1, 3) := by decide +kernel
theorem dX9_comes_41 : decode cX9_comes 41 = .ok (.goto (-20), 3) := by decide +kernel
theorem dX9_comes_44 : decode cX9_comes 44 = .ok (.aload_n 0, 1) := by decide +kernel
theorem dX9_comes_45 : decode cX9_comes 45 = .ok (.iload 6, 2) := by decide +kernel
theorem dX9_comes_47 : decode cX9_comes 47 = .ok (.iconst 0, 1) := by decide +kernel
theorem dX9_comes_48 : decode cX9_comes 48 = .ok (.iload_n 1, 1) := by decide +kernel
theorem dX9_comes_49 : decode cX9_comes 49 = .ok (.invokevirtual 59, 3) := by decide +kernel
theorem dX9_comes_52 : decode cX9_comes 52 = .ok (.aload_n 0, 1) := by decide +kernel
theorem dX9_comes_53 : decode cX9_comes 53 = .ok (.iload 6, 2) := by decide +kernel
theorem dX9_comes_55 : decode cX9_comes 55 = .ok (.iconst 1, 1) := by decide +kernel
theorem dX9_comes_56 : decode cX9_comes 56 = .ok (.iload_n 2, 1) := by decide +kernel
theorem dX9_comes_57 : decode cX9_comes 57 = .ok (.invokevirtual 59, 3) := by decide +kernel
theorem dX9_comes_60 : decode cX9_comes 60 = .ok (.aload_n 0, 1) := by decide +kernel
theorem dX9_comes_61 : decode cX9_comes 61 = .ok (.iload 6, 2) := by decide +kernel
theorem dX9_comes_63 : decode cX9_comes 63 = .ok (.iconst 2, 1) := by decide +kernel
theorem dX9_comes_64 : decode cX9_comes 64 = .ok (.iload_n 3, 1) := by decide +kernel
theorem dX9_comes_65 : decode cX9_comes 65 = .ok (.invokevirtual 59, 3) := by decide +kernel
theorem dX9_comes_68 : decode cX9_comes 68 = .ok (.aload_n 0, 1) := by decide +kernel
theorem dX9_comes_69 : decode cX9_comes 69 = .ok (.iload 6, 2) := by decide +kernel
theorem dX9_comes_71 : decode cX9_comes 71 = .ok (.iconst 3, 1) := by decide +kernel
theorem dX9_comes_72 : decode cX9_comes 72 = .ok (.iload 4, 2) := by decide +kernel
theorem dX9_comes_74 : decode cX9_comes 74 = .ok (.invokevirtual 59, 3) := by decide +kernel
theorem dX9_comes_77 : decode cX9_comes 77 = .ok (.aload_n 0, 1) := by decide +kernel
theorem dX9_comes_78 : decode cX9_comes 78 = .ok (.iload 6, 2) := by decide +kernel
theorem dX9_comes_80 : decode cX9_comes 80 = .ok (.iconst 4, 1) := by decide +kernel
theorem dX9_comes_81 : decode cX9_comes 81 = .ok (.iload 5, 2) := by decide +kernel
theorem dX9_comes_83 : decode cX9_comes 83 = .ok (.invokevirtual 59, 3) := by decide +kernel
theorem dX9_comes_86 : decode cX9_comes 86 = .ok (.aload_n 0, 1) := by decide +kernel
theorem dX9_comes_87 : decode cX9_comes 87 = .ok (.iload 6, 2) := by decide +kernel
theorem dX9_comes_89 : decode cX9_comes 89 = .ok (.iconst 5, 1) := by decide +kernel
theorem dX9_comes_90 : decode cX9_comes 90 = .ok (.aload_n 0, 1) := by decide +kernel
theorem dX9_comes_91 : decode cX9_comes 91 = .ok (.iload_n 2, 1) := by decide +kernel
theorem dX9_comes_92 : decode cX9_comes 92 = .ok (.iload 5, 2) := by decide +kernel
theorem dX9_comes_94 : decode cX9_comes 94 = .ok (.invokevirtual 71, 3) := by decide +kernel
theorem dX9_comes_97 : decode cX9_comes 97 = .ok (.invokevirtual 59, 3) := by decide +kernel
theorem dX9_comes_100 : decode cX9_comes 100 = .ok (.aload_n 0, 1) := by decide +kernel
theorem dX9_comes_101 : decode cX9_comes 101 = .ok (.iload 6, 2) := by decide +kernel
theorem dX9_comes_103 : decode cX9_comes 103 = .ok (.bipush 6, 2) := by decide +kernel
theorem dX9_comes_105 : decode cX9_comes 105 = .ok (.iconst 0, 1) := by decide +kernel
theorem dX9_comes_106 : decode cX9_comes 106 = .ok (.invokevirtual 59, 3) := by decide +kernel
theorem dX9_comes_109 : decode cX9_comes 109 = .ok (.aload_n 0, 1) := by decide +kernel
theorem dX9_comes_110 : decode cX9_comes 110 = .ok (.iload 6, 2) := by decide +kernel
theorem dX9_comes_112 : decode cX9_comes 112 = .ok (.bipush 9, 2) := by decide +kernel
theorem dX9_comes_114 : decode cX9_comes 114 = .ok (.aload_n 0, 1) := by decide +kernel
theorem dX9_comes_115 : decode cX9_comes 115 = .ok (.getfield 7, 3) := by decide +kernel
theorem dX9_comes_118 : decode cX9_comes 118 = .ok (.iconst 0, 1) := by decide +kernel
theorem dX9_comes_119 : decode cX9_comes 119 = .ok (.iaload, 1) := by decide +kernel
theorem dX9_comes_120 : decode cX9_comes 120 = .ok (.invokevirtual 59, 3) := by decide +kernel
theorem dX9_comes_123 : decode cX9_comes 123 = .ok (.aload_n 0, 1) := by decide +kernel
theorem dX9_comes_124 : decode cX9_comes 124 = .ok (.iload 6, 2) := by decide +kernel
theorem dX9_comes_126 : decode cX9_comes 126 = .ok (.bipush 14, 2) := by decide +kernel
theorem dX9_comes_128 : decode cX9_comes 128 = .ok (.iload 5, 2) := by decide +kernel
theorem dX9_comes_130 : decode cX9_comes 130 = .ok (.invokevirtual 59, 3) := by decide +kernel
theorem dX9_comes_133 : decode cX9_comes 133 = .ok (.aload_n 0, 1) := by decide +kernel
theorem dX9_comes_134 : decode cX9_comes 134 = .ok (.iload 6, 2) := by decide +kernel
theorem dX9_comes_136 : decode cX9_comes 136 = .ok (.bipush 15, 2) := by decide +kernel
theorem dX9_comes_138 : decode cX9_comes 138 = .ok (.aload_n 0, 1) := by decide +kernel
theorem dX9_comes_139 : decode cX9_comes 139 = .ok (.getfield 7, 3) := by decide +kernel
theorem dX9_comes_142 : decode cX9_comes 142 = .ok (.iconst 0, 1) := by decide +kernel
theorem dX9_comes_143 : decode cX9_comes 143 = .ok (.iaload, 1) := by decide +kernel
theorem dX9_comes_144 : decode cX9_comes 144 = .ok (.invokevirtual 59, 3) := by decide +kernel
theorem dX9_comes_147 : decode cX9_comes 147 = .ok (.aload_n 0, 1) := by decide +kernel
theorem dX9_comes_148 : decode cX9_comes 148 = .ok (.getfield 7, 3) := by decide +kernel
theorem dX9_comes_151 : decode cX9_comes 151 = .ok (.iconst 3, 1) := by decide +kernel
theorem dX9_comes_152 : decode cX9_comes 152 = .ok (.dup2, 1) := by decide +kernel
theorem dX9_comes_153 : decode cX9_comes 153 = .ok (.iaload, 1) := by decide +kernel
theorem dX9_comes_154 : decode cX9_comes 154 = .ok (.aload_n 0, 1) := by decide +kernel
theorem dX9_comes_155 : decode cX9_comes 155 = .ok (.iload 6, 2) := by decide +kernel
theorem dX9_comes_157 : decode cX9_comes 157 = .ok (.iconst 5, 1) := by decide +kernel
theorem dX9_comes_158 : decode cX9_comes 158 = .ok (.invokevirtual 46, 3) := by decide +kernel
theorem dX9_comes_161 : decode cX9_comes 161 = .ok (.iadd, 1) := by decide +kernel
theorem dX9_comes_162 : decode cX9_comes 162 = .ok (.iastore, 1) := by decide +kernel
theorem dX9_comes_163 : decode cX9_comes 163 = .ok (.iload 6, 2) := by decide +kernel
theorem dX9_comes_165 : decode cX9_comes 165 = .ok (.ireturn, 1) := by decide +kernel
set_option maxRecDepth 20000 in
theorem ggX9_goOrders_X9_comes : GoodIn wsX9_goOrders wsX9_comes := goodIn_r _ [6, 1, 7, 8, 9, 5, 10, 11, 12, 13, 14, 15, 16, 17, 18, 19, 20, 21, 22, 23, 24, 25, 26, 27, 28, 29, 30, 31, 32, 33] (by decide +kernel) (by decide +kernel)
set_option maxRecDepth 20000 in
theorem gX9_goOrders_X9_comes : GoodIn wsX9_goOrders (wsV RX9 74 RX9 yX9_comes wsX9_comes) := goodIn_app (goodIn_of _ (by decide +kernel)) ggX9_goOrders_X9_comes
theorem dX9_goOrders_0 : decode cX9_goOrders 0 = .ok (.iconst 0, 1) := by decide +kernel
theorem dX9_goOrders_1 : decode cX9_goOrders 1 = .ok (.istore_n 1, 1) := by decide +kernel
theorem dX9_goOrders_2 : decode cX9_goOrders 2 = .ok (.iload_n 1, 1) := by decide +kernel
theorem dX9_goOrders_3 : decode cX9_goOrders 3 = .ok (.aload_n 0, 1) := by decide +kernel
theorem dX9_goOrders_4 : decode cX9_goOrders 4 = .ok (.getfield 7, 3) := by decide +kernel
theorem dX9_goOrders_7 : decode cX9_goOrders 7 = .ok (.iconst 2, 1) := by decide +kernel
theorem dX9_goOrders_8 : decode cX9_goOrders 8 = .ok (.iaload, 1) := by decide +kernel
theorem dX9_goOrders_9 : decode cX9_goOrders 9 = .ok (.if_icmp .ge 155, 3) := by decide +kernel
theorem dX9_goOrders_12 : decode cX9_goOrders 12 = .ok (.sipush 194, 3) := by decide +kernel
theorem dX9_goOrders_15 : decode cX9_goOrders 15 = .ok (.bipush 10, 2) := by decide +kernel
theorem dX9_goOrders_17 : decode cX9_goOrders 17 = .ok (.iload_n 1, 1) := by decide +kernel
theorem dX9_goOrders_18 : decode cX9_goOrders 18 = .ok (.imul, 1) := by decide +kernel
theorem dX9_goOrders_19 : decode cX9_goOrders 19 = .ok (.iadd, 1) := by decide +kernel
theorem dX9_goOrders_20 : decode cX9_goOrders 20 = .ok (.istore_n 2, 1) := by decide +kernel
theorem dX9_goOrders_21 : decode cX9_goOrders 21 = .ok (.aload_n 0, 1) := by decide +kernel
theorem dX9_goOrders_22 : decode cX9_goOrders 22 = .ok (.getfield 7, 3) := by decide +kernel
theorem dX9_goOrders_25 : decode cX9_goOrders 25 = .ok (.iload_n 2, 1) := by decide +kernel
theorem dX9_goOrders_26 : decode cX9_goOrders 26 = .ok (.iconst 4, 1) := by decide +kernel
theorem dX9_goOrders_27 : decode cX9_goOrders 27 = .ok (.iadd, 1) := by decide +kernel
theorem dX9_goOrders_28 : decode cX9_goOrders 28 = .ok (.iaload, 1) := by decide +kernel
theorem dX9_goOrders_29 : decode cX9_goOrders 29 = .ok (.iconst 1, 1) := by decide +kernel
theorem dX9_goOrders_30 : decode cX9_goOrders 30 = .ok (.if_icmp .eq 128, 3) := by decide +kernel
theorem dX9_goOrders_33 : decode cX9_goOrders 33 = .ok (.aload_n 0, 1) := by decide +kernel
theorem dX9_goOrders_34 : decode cX9_goOrders 34 = .ok (.getfield 7, 3) := by decide +kernel
theorem dX9_goOrders_37 : decode cX9_goOrders 37 = .ok (.iconst 0, 1) := by decide +kernel
theorem dX9_goOrders_38 : decode cX9_goOrders 38 = .ok (.iaload, 1) := by decide +kernel
theorem dX9_goOrders_39 : decode cX9_goOrders 39 = .ok (.aload_n 0, 1) := by decide +kernel
theorem dX9_goOrders_40 : decode cX9_goOrders 40 = .ok (.getfield 7, 3) := by decide +kernel
theorem dX9_goOrders_43 : decode cX9_goOrders 43 = .ok (.iload_n 2, 1) := by decide +kernel
theorem dX9_goOrders_44 : decode cX9_goOrders 44 = .ok (.iconst 1, 1) := by decide +kernel
theorem dX9_goOrders_45 : decode cX9_goOrders 45 = .ok (.iadd, 1) := by decide +kernel
theorem dX9_goOrders_46 : decode cX9_goOrders 46 = .ok (.iaload, 1) := by decide +kernel
theorem dX9_goOrders_47 : decode cX9_goOrders 47 = .ok (.isub, 1) := by decide +kernel
theorem dX9_goOrders_48 : decode cX9_goOrders 48 = .ok (.aload_n 0, 1) := by decide +kernel
theorem dX9_goOrders_49 : decode cX9_goOrders 49 = .ok (.getfield 7, 3) := by decide +kernel
theorem dX9_goOrders_52 : decode cX9_goOrders 52 = .ok (.iload_n 2, 1) := by decide +kernel
theorem dX9_goOrders_53 : decode cX9_goOrders 53 = .ok (.iconst 0, 1) := by decide +kernel
theorem dX9_goOrders_54 : decode cX9_goOrders 54 = .ok (.iadd, 1) := by decide +kernel
theorem dX9_goOrders_55 : decode cX9_goOrders 55 = .ok (.iaload, 1) := by decide +kernel
theorem dX9_goOrders_56 : decode cX9_goOrders 56 = .ok (.irem, 1) := by decide +kernel
theorem dX9_goOrders_57 : decode cX9_goOrders 57 = .ok (.ifCond .eq 6, 3) := by decide +kernel
theorem dX9_goOrders_60 : decode cX9_goOrders 60 = .ok (.goto 98, 3) := by decide +kernel
theorem dX9_goOrders_63 : decode cX9_goOrders 63 = .ok (.aload_n 0, 1) := by decide +kernel
theorem dX9_goOrders_64 : decode cX9_goOrders 64 = .ok (.getfield 7, 3) := by decide +kernel
theorem dX9_goOrders_67 : decode cX9_goOrders 67 = .ok (.iconst 1, 1) := by decide +kernel
theorem dX9_goOrders_68 : decode cX9_goOrders 68 = .ok (.iaload, 1) := by decide +kernel
theorem dX9_goOrders_69 : decode cX9_goOrders 69 = .ok (.bipush 40, 2) := by decide +kernel
theorem dX9_goOrders_71 : decode cX9_goOrders 71 = .ok (.if_icmp .ne 18, 3) := by decide +kernel
theorem dX9_goOrders_74 : decode cX9_goOrders 74 = .ok (.aload_n 0, 1) := by decide +kernel
theorem dX9_goOrders_75 : decode cX9_goOrders 75 = .ok (.getfield 7, 3) := by decide +kernel
theorem dX9_goOrders_78 : decode cX9_goOrders 78 = .ok (.iload_n 2, 1) := by decide +kernel
theorem dX9_goOrders_79 : decode cX9_goOrders 79 = .ok (.iconst 3, 1) := by decide +kernel
theorem dX9_goOrders_80 : decode cX9_goOrders 80 = .ok (.iadd, 1) := by decide +kernel
theorem dX9_goOrders_81 : decode cX9_goOrders 81 = .ok (.dup2, 1) := by decide +kernel
theorem dX9_goOrders_82 : decode cX9_goOrders 82 = .ok (.iaload, 1) := by decide +kernel
theorem dX9_goOrders_83 : decode cX9_goOrders 83 = .ok (.iconst 1, 1) := by decide +kernel
theorem dX9_goOrders_84 : decode cX9_goOrders 84 = .ok (.iadd, 1) := by decide +kernel
theorem dX9_goOrders_85 : decode cX9_goOrders 85 = .ok (.iastore, 1) := by decide +kernel
theorem dX9_goOrders_86 : decode cX9_goOrders 86 = .ok (.goto 72, 3) := by decide +kernel
theorem dX9_goOrders_89 : decode cX9_goOrders 89 = .ok (.aload_n 0, 1) := by decide +kernel
theorem dX9_goOrders_90 : decode cX9_goOrders 90 = .ok (.aload_n 0, 1) := by decide +kernel
theorem dX9_goOrders_91 : decode cX9_goOrders 91 = .ok (.getfield 7, 3) := by decide +kernel
theorem dX9_goOrders_94 : decode cX9_goOrders 94 = .ok (.iload_n 2, 1) := by decide +kernel
theorem dX9_goOrders_95 : decode cX9_goOrders 95 = .ok (.iconst 5, 1) := by decide +kernel
theorem dX9_goOrders_96 : decode cX9_goOrders 96 = .ok (.iadd, 1) := by decide +kernel
theorem dX9_goOrders_97 : decode cX9_goOrders 97 = .ok (.iaload, 1) := by decide +kernel
theorem dX9_goOrders_98 : decode cX9_goOrders 98 = .ok (.aload_n 0, 1) := by decide +kernel
theorem dX9_goOrders_99 : decode cX9_goOrders 99 = .ok (.getfield 7, 3) := by decide +kernel
theorem dX9_goOrders_102 : decode cX9_goOrders 102 = .ok (.iload_n 2, 1) := by decide +kernel
theorem dX9_goOrders_103 : decode cX9_goOrders 103 = .ok (.bipush 7, 2) := by decide +kernel
theorem dX9_goOrders_105 : decode cX9_goOrders 105 = .ok (.iadd, 1) := by decide +kernel
theorem dX9_goOrders_106 : decode cX9_goOrders 106 = .ok (.iaload, 1) := by decide +kernel
theorem dX9_goOrders_107 : decode cX9_goOrders 107 = .ok (.aload_n 0, 1) := by decide +kernel
theorem dX9_goOrders_108 : decode cX9_goOrders 108 = .ok (.getfield 7, 3) := by decide +kernel
theorem dX9_goOrders_111 : decode cX9_goOrders 111 = .ok (.iload_n 2, 1) := by decide +kernel
theorem dX9_goOrders_112 : decode cX9_goOrders 112 = .ok (.bipush 6, 2) := by decide +kernel
theorem dX9_goOrders_114 : decode cX9_goOrders 114 = .ok (.iadd, 1) := by decide +kernel
theorem dX9_goOrders_115 : decode cX9_goOrders 115 = .ok (.iaload, 1) := by decide +kernel
theorem dX9_goOrders_116 : decode cX9_goOrders 116 = .ok (.aload_n 0, 1) := by decide +kernel
theorem dX9_goOrders_117 : decode cX9_goOrders 117 = .ok (.getfield 7, 3) := by decide +kernel
theorem dX9_goOrders_120 : decode cX9_goOrders 120 = .ok (.iload_n 2, 1) := by decide +kernel
theorem dX9_goOrders_121 : decode cX9_goOrders 121 = .ok (.bipush 8, 2) := by decide +kernel
theorem dX9_goOrders_123 : decode cX9_goOrders 123 = .ok (.iadd, 1) := by decide +kernel
theorem dX9_goOrders_124 : decode cX9_goOrders 124 = .ok (.iaload, 1) := by decide +kernel
theorem dX9_goOrders_125 : decode cX9_goOrders 125 = .ok (.aload_n 0, 1) := by decide +kernel
theorem dX9_goOrders_126 : decode cX9_goOrders 126 = .ok (.getfield 7, 3) := by decide +kernel
theorem dX9_goOrders_129 : decode cX9_goOrders 129 = .ok (.iload_n 2, 1) := by decide +kernel
theorem dX9_goOrders_130 : decode cX9_goOrders 130 = .ok (.bipush 9, 2) := by decide +kernel
theorem dX9_goOrders_132 : decode cX9_goOrders 132 = .ok (.iadd, 1) := by decide +kernel
theorem dX9_goOrders_133 : decode cX9_goOrders 133 = .ok (.iaload, 1) := by decide +kernel
theorem dX9_goOrders_134 : decode cX9_goOrders 134 = .ok (.invokevirtual 74, 3) := by decide +kernel
theorem dX9_goOrders_137 : decode cX9_goOrders 137 = .ok (.istore_n 3, 1) := by decide +kernel
theorem dX9_goOrders_138 : decode cX9_goOrders 138 = .ok (.aload_n 0, 1) := by decide +kernel
theorem dX9_goOrders_139 : decode cX9_goOrders 139 = .ok (.getfield 7, 3) := by decide +kernel
theorem dX9_goOrders_142 : decode cX9_goOrders 142 = .ok (.iload_n 2, 1) := by decide +kernel
theorem dX9_goOrders_143 : decode cX9_goOrders 143 = .ok (.iconst 2, 1) := by decide +kernel
theorem dX9_goOrders_144 : decode cX9_goOrders 144 = .ok (.iadd, 1) := by decide +kernel
theorem dX9_goOrders_145 : decode cX9_goOrders 145 = .ok (.dup2, 1) := by decide +kernel
theorem dX9_goOrders_146 : decode cX9_goOrders 146 = .ok (.iaload, 1) := by decide +kernel
theorem dX9_goOrders_147 : decode cX9_goOrders 147 = .ok (.iload_n 3, 1) := by decide +kernel
theorem dX9_goOrders_148 : decode cX9_goOrders 148 = .ok (.ifCond .ge 7, 3) := by decide +kernel
theorem dX9_goOrders_151 : decode cX9_goOrders 151 = .ok (.iconst 0, 1) := by decide +kernel
theorem dX9_goOrders_152 : decode cX9_goOrders 152 = .ok (.goto 4, 3) := by decide +kernel
theorem dX9_goOrders_155 : decode cX9_goOrders 155 = .ok (.iconst 1, 1) := by decide +kernel
theorem dX9_goOrders_156 : decode cX9_goOrders 156 = .ok (.iadd, 1) := by decide +kernel
theorem dX9_goOrders_157 : decode cX9_goOrders 157 = .ok (.iastore, 1) := by decide +kernel
theorem dX9_goOrders_158 : decode cX9_goOrders 158 = .ok (.iinc 1 1, 3) := by decide +kernel
theorem dX9_goOrders_161 : decode cX9_goOrders 161 = .ok (.goto (-159), 3) := by decide +kernel
theorem dX9_goOrders_164 : decode cX9_goOrders 164 = .ok (.return_, 1) := by decide +kernel
set_option maxRecDepth 20000 in
theorem ggX9_callOf_X9_stationAt : GoodIn wsX9_callOf wsX9_stationAt := goodIn_r _ [5] (by decide +kernel) (by decide +kernel)
set_option maxRecDepth 20000 in
theorem gX9_callOf_X9_stationAt : GoodIn wsX9_callOf (va_wsS RX9 42 yX9_stationAt wsX9_stationAt) := goodIn_app (goodIn_of _ (by decide +kernel)) ggX9_callOf_X9_stationAt
theorem dX9_callOf_0 : decode cX9_callOf 0 = .ok (.iload_n 1, 1) := by decide +kernel
theorem dX9_callOf_1 : decode cX9_callOf 1 = .ok (.invokestatic 42, 3) := by decide +kernel
theorem dX9_callOf_4 : decode cX9_callOf 4 = .ok (.istore_n 3, 1) := by decide +kernel
theorem dX9_callOf_5 : decode cX9_callOf 5 = .ok (.iconst 0, 1) := by decide +kernel
theorem dX9_callOf_6 : decode cX9_callOf 6 = .ok (.istore 4, 2) := by decide +kernel
theorem dX9_callOf_8 : decode cX9_callOf 8 = .ok (.iload 4, 2) := by decide +kernel
theorem dX9_callOf_10 : decode cX9_callOf 10 = .ok (.aload_n 0, 1) := by decide +kernel
theorem dX9_callOf_11 : decode cX9_callOf 11 = .ok (.getfield 7, 3) := by decide +kernel
theorem dX9_callOf_14 : decode cX9_callOf 14 = .ok (.iload_n 3, 1) := by decide +kernel
theorem dX9_callOf_15 : decode cX9_callOf 15 = .ok (.iconst 5, 1) := by decide +kernel
theorem dX9_callOf_16 : decode cX9_callOf 16 = .ok (.iadd, 1) := by decide +kernel
theorem dX9_callOf_17 : decode cX9_callOf 17 = .ok (.iaload, 1) := by decide +kernel
theorem dX9_callOf_18 : decode cX9_callOf 18 = .ok (.if_icmp .ge 28, 3) := by decide +kernel
theorem dX9_callOf_21 : decode cX9_callOf 21 = .ok (.aload_n 0, 1) := by decide +kernel
theorem dX9_callOf_22 : decode cX9_callOf 22 = .ok (.getfield 7, 3) := by decide +kernel
theorem dX9_callOf_25 : decode cX9_callOf 25 = .ok (.iload_n 3, 1) := by decide +kernel
theorem dX9_callOf_26 : decode cX9_callOf 26 = .ok (.bipush 6, 2) := by decide +kernel
theorem dX9_callOf_28 : decode cX9_callOf 28 = .ok (.iadd, 1) := by decide +kernel
theorem dX9_callOf_29 : decode cX9_callOf 29 = .ok (.iload 4, 2) := by decide +kernel
theorem dX9_callOf_31 : decode cX9_callOf 31 = .ok (.iadd, 1) := by decide +kernel
theorem dX9_callOf_32 : decode cX9_callOf 32 = .ok (.iaload, 1) := by decide +kernel
theorem dX9_callOf_33 : decode cX9_callOf 33 = .ok (.iload_n 2, 1) := by decide +kernel
theorem dX9_callOf_34 : decode cX9_callOf 34 = .ok (.if_icmp .ne 6, 3) := by decide +kernel
theorem dX9_callOf_37 : decode cX9_callOf 37 = .ok (.iload 4, 2) := by decide +kernel
theorem dX9_callOf_39 : decode cX9_callOf 39 = .ok (.ireturn, 1) := by decide +kernel
theorem dX9_callOf_40 : decode cX9_callOf 40 = .ok (.iinc 4 1, 3) := by decide +kernel
theorem dX9_callOf_43 : decode cX9_callOf 43 = .ok (.goto (-35), 3) := by decide +kernel
theorem dX9_callOf_46 : decode cX9_callOf 46 = .ok (.bipush (-5), 2) := by decide +kernel
theorem dX9_callOf_48 : decode cX9_callOf 48 = .ok (.ireturn, 1) := by decide +kernel
set_option maxRecDepth 20000 in
theorem ggX9_dropCall_X9_stationAt : GoodIn wsX9_dropCall wsX9_stationAt := goodIn_r _ [5] (by decide +kernel) (by decide +kernel)
set_option maxRecDepth 20000 in
theorem gX9_dropCall_X9_stationAt : GoodIn wsX9_dropCall (va_wsS RX9 42 yX9_stationAt wsX9_stationAt) := goodIn_app (goodIn_of _ (by decide +kernel)) ggX9_dropCall_X9_stationAt
theorem dX9_dropCall_0 : decode cX9_dropCall 0 = .ok (.iload_n 1, 1) := by decide +kernel
theorem dX9_dropCall_1 : decode cX9_dropCall 1 = .ok (.invokestatic 42, 3) := by decide +kernel
theorem dX9_dropCall_4 : decode cX9_dropCall 4 = .ok (.istore_n 3, 1) := by decide +kernel
theorem dX9_dropCall_5 : decode cX9_dropCall 5 = .ok (.aload_n 0, 1) := by decide +kernel
theorem dX9_dropCall_6 : decode cX9_dropCall 6 = .ok (.getfield 7, 3) := by decide +kernel
theorem dX9_dropCall_9 : decode cX9_dropCall 9 = .ok (.iload_n 3, 1) := by decide +kernel
theorem dX9_dropCall_10 : decode cX9_dropCall 10 = .ok (.iconst 5, 1) := by decide +kernel
theorem dX9_dropCall_11 : decode cX9_dropCall 11 = .ok (.iadd, 1) := by decide +kernel
theorem dX9_dropCall_12 : decode cX9_dropCall 12 = .ok (.dup2, 1) := by decide +kernel
theorem dX9_dropCall_13 : decode cX9_dropCall 13 = .ok (.iaload, 1) := by decide +kernel
theorem dX9_dropCall_14 : decode cX9_dropCall 14 = .ok (.iconst 1, 1) := by decide +kernel
theorem dX9_dropCall_15 : decode cX9_dropCall 15 = .ok (.isub, 1) := by decide +kernel
theorem dX9_dropCall_16 : decode cX9_dropCall 16 = .ok (.iastore, 1) := by decide +kernel
theorem dX9_dropCall_17 : decode cX9_dropCall 17 = .ok (.iload_n 2, 1) := by decide +kernel
theorem dX9_dropCall_18 : decode cX9_dropCall 18 = .ok (.istore 4, 2) := by decide +kernel
theorem dX9_dropCall_20 : decode cX9_dropCall 20 = .ok (.iload 4, 2) := by decide +kernel
theorem dX9_dropCall_22 : decode cX9_dropCall 22 = .ok (.aload_n 0, 1) := by decide +kernel
theorem dX9_dropCall_23 : decode cX9_dropCall 23 = .ok (.getfield 7, 3) := by decide +kernel
theorem dX9_dropCall_26 : decode cX9_dropCall 26 = .ok (.iload_n 3, 1) := by decide +kernel
theorem dX9_dropCall_27 : decode cX9_dropCall 27 = .ok (.iconst 5, 1) := by decide +kernel
theorem dX9_dropCall_28 : decode cX9_dropCall 28 = .ok (.iadd, 1) := by decide +kernel
theorem dX9_dropCall_29 : decode cX9_dropCall 29 = .ok (.iaload, 1) := by decide +kernel
theorem dX9_dropCall_30 : decode cX9_dropCall 30 = .ok (.if_icmp .ge 35, 3) := by decide +kernel
theorem dX9_dropCall_33 : decode cX9_dropCall 33 = .ok (.aload_n 0, 1) := by decide +kernel
theorem dX9_dropCall_34 : decode cX9_dropCall 34 = .ok (.getfield 7, 3) := by decide +kernel
theorem dX9_dropCall_37 : decode cX9_dropCall 37 = .ok (.iload_n 3, 1) := by decide +kernel
theorem dX9_dropCall_38 : decode cX9_dropCall 38 = .ok (.bipush 6, 2) := by decide +kernel
theorem dX9_dropCall_40 : decode cX9_dropCall 40 = .ok (.iadd, 1) := by decide +kernel
theorem dX9_dropCall_41 : decode cX9_dropCall 41 = .ok (.iload 4, 2) := by decide +kernel
theorem dX9_dropCall_43 : decode cX9_dropCall 43 = .ok (.iadd, 1) := by decide +kernel
theorem dX9_dropCall_44 : decode cX9_dropCall 44 = .ok (.aload_n 0, 1) := by decide +kernel
theorem dX9_dropCall_45 : decode cX9_dropCall 45 = .ok (.getfield 7, 3) := by decide +kernel
theorem dX9_dropCall_48 : decode cX9_dropCall 48 = .ok (.iload_n 3, 1) := by decide +kernel
theorem dX9_dropCall_49 : decode cX9_dropCall 49 = .ok (.bipush 6, 2) := by decide +kernel
theorem dX9_dropCall_51 : decode cX9_dropCall 51 = .ok (.iadd, 1) := by decide +kernel
theorem dX9_dropCall_52 : decode cX9_dropCall 52 = .ok (.iload 4, 2) := by decide +kernel
theorem dX9_dropCall_54 : decode cX9_dropCall 54 = .ok (.iadd, 1) := by decide +kernel
theorem dX9_dropCall_55 : decode cX9_dropCall 55 = .ok (.iconst 1, 1) := by decide +kernel
theorem dX9_dropCall_56 : decode cX9_dropCall 56 = .ok (.iadd, 1) := by decide +kernel
theorem dX9_dropCall_57 : decode cX9_dropCall 57 = .ok (.iaload, 1) := by decide +kernel
theorem dX9_dropCall_58 : decode cX9_dropCall 58 = .ok (.iastore, 1) := by decide +kernel
theorem dX9_dropCall_59 : decode cX9_dropCall 59 = .ok (.iinc 4 1, 3) := by decide +kernel
theorem dX9_dropCall_62 : decode cX9_dropCall 62 = .ok (.goto (-42), 3) := by decide +kernel
theorem dX9_dropCall_65 : decode cX9_dropCall 65 = .ok (.return_, 1) := by decide +kernel
set_option maxRecDepth 20000 in
theorem ggX9_comesTo_X9_of : GoodIn wsX9_comesTo wsX9_of := goodIn_r _ [7, 1, 39, 40, 41, 42, 43, 44, 45, 46, 47, 48, 49, 50, 51, 52, 53] (by decide +kernel) (by decide +kernel)
set_option maxRecDepth 20000 in
theorem gX9_comesTo_X9_of : GoodIn wsX9_comesTo (wsV RX9 46 RX9 yX9_of wsX9_of) := goodIn_app (goodIn_of _ (by decide +kernel)) ggX9_comesTo_X9_of
set_option maxRecDepth 20000 in
theorem ggX9_comesTo_X9_callOf : GoodIn wsX9_comesTo wsX9_callOf := goodIn_r _ [11, 1, 12, 13, 6, 14, 39, 40, 41, 42, 43, 44, 45, 46, 47, 48, 49, 50, 51, 52, 53] (by decide +kernel) (by decide +kernel)
set_option maxRecDepth 20000 in
theorem gX9_comesTo_X9_callOf : GoodIn wsX9_comesTo (wsV RX9 78 RX9 yX9_callOf wsX9_callOf) := goodIn_app (goodIn_of _ (by decide +kernel)) ggX9_comesTo_X9_callOf
set_option maxRecDepth 20000 in
theorem ggX9_comesTo_X9_ends : GoodIn wsX9_comesTo wsX9_ends := goodIn_r _ [18, 1, 19, 20, 21, 6, 22, 3, 4, 5, 7, 23, 24, 25, 26, 39, 40, 41, 42, 43, 44, 45, 46, 47, 48, 49, 50, 51, 52, 53] (by decide +kernel) (by decide +kernel)
set_option maxRecDepth 20000 in
theorem gX9_comesTo_X9_ends : GoodIn wsX9_comesTo (wsV RX9 81 RX9 yX9_ends wsX9_ends) := goodIn_app (goodIn_of _ (by decide +kernel)) ggX9_comesTo_X9_ends
set_option maxRecDepth 20000 in
theorem ggX9_comesTo_X9_stationAt : GoodIn wsX9_comesTo wsX9_stationAt := goodIn_r _ [14] (by decide +kernel) (by decide +kernel)
set_option maxRecDepth 20000 in
theorem gX9_comesTo_X9_stationAt : GoodIn wsX9_comesTo (va_wsS RX9 42 yX9_stationAt wsX9_stationAt) := goodIn_app (goodIn_of _ (by decide +kernel)) ggX9_comesTo_X9_stationAt
set_option maxRecDepth 20000 in
theorem ggX9_comesTo_X9_logs : GoodIn wsX9_comesTo wsX9_logs := goodIn_r _ [30, 1, 39, 40, 41, 42, 43, 44, 45, 46, 47, 48, 49, 50, 51, 52, 53] (by decide +kernel) (by decide +kernel)
set_option maxRecDepth 20000 in
theorem gX9_comesTo_X9_logs : GoodIn wsX9_comesTo (wsV RX9 67 RX9 yX9_logs wsX9_logs) := goodIn_app (goodIn_of _ (by decide +kernel)) ggX9_comesTo_X9_logs
set_option maxRecDepth 20000 in
theorem ggX9_comesTo_X9_dropCall : GoodIn wsX9_comesTo wsX9_dropCall := goodIn_r _ [34, 1, 12, 13, 6, 14, 39, 40, 41, 42, 43, 44, 45, 46, 47, 48, 49, 50, 51, 52, 53] (by decide +kernel) (by decide +kernel)
set_option maxRecDepth 20000 in
theorem gX9_comesTo_X9_dropCall : GoodIn wsX9_comesTo (wsV RX9 87 RX9 yX9_dropCall wsX9_dropCall) := goodIn_app (goodIn_of _ (by decide +kernel)) ggX9_comesTo_X9_dropCall
set_option maxRecDepth 20000 in
theorem ggX9_comesTo_X9_on : GoodIn wsX9_comesTo wsX9_on := goodIn_r _ [38, 1, 3, 4, 5, 6, 7, 39, 40, 41, 42, 43, 44, 45, 46, 47, 48, 49, 50, 51, 52, 53] (by decide +kernel) (by decide +kernel)
set_option maxRecDepth 20000 in
theorem gX9_comesTo_X9_on : GoodIn wsX9_comesTo (wsV RX9 91 RX9 yX9_on wsX9_on) := goodIn_app (goodIn_of _ (by decide +kernel)) ggX9_comesTo_X9_on
set_option maxRecDepth 20000 in
theorem ggX9_comesTo_X9_rises : GoodIn wsX9_comesTo wsX9_rises := goodIn_r _ [22, 1, 3, 4, 5, 6, 7, 23, 24, 25, 26, 39, 40, 41, 42, 43, 44, 45, 46, 47, 48, 49, 50, 51, 52, 53] (by decide +kernel) (by decide +kernel)
set_option maxRecDepth 20000 in
theorem gX9_comesTo_X9_rises : GoodIn wsX9_comesTo (wsV RX9 63 RX9 yX9_rises wsX9_rises) := goodIn_app (goodIn_of _ (by decide +kernel)) ggX9_comesTo_X9_rises
set_option maxRecDepth 20000 in
theorem ggX9_comesTo_X9_put : GoodIn wsX9_comesTo wsX9_put := goodIn_r _ [26, 1, 39, 40, 41, 42, 43, 44, 45, 46, 47, 48, 49, 50, 51, 52, 53] (by decide +kernel) (by decide +kernel)
set_option maxRecDepth 20000 in
theorem gX9_comesTo_X9_put : GoodIn wsX9_comesTo (wsV RX9 59 RX9 yX9_put wsX9_put) := goodIn_app (goodIn_of _ (by decide +kernel)) ggX9_comesTo_X9_put
theorem dX9_comesTo_0 : decode cX9_comesTo 0 = .ok (.iload_n 2, 1) := by decide +kernel
theorem dX9_comesTo_1 : decode cX9_comesTo 1 = .ok (.bipush 10, 2) := by decide +kernel
theorem dX9_comesTo_3 : decode cX9_comesTo 3 = .ok (.idiv, 1) := by decide +kernel
theorem dX9_comesTo_4 : decode cX9_comesTo 4 = .ok (.istore_n 3, 1) := by decide +kernel
theorem dX9_comesTo_5 : decode cX9_comesTo 5 = .ok (.aload_n 0, 1) := by decide +kernel
theorem dX9_comesTo_6 : decode cX9_comesTo 6 = .ok (.iload_n 2, 1) := by decide +kernel
theorem dX9_comesTo_7 : decode cX9_comesTo 7 = .ok (.aload_n 0, 1) := by decide +kernel
theorem dX9_comesTo_8 : decode cX9_comesTo 8 = .ok (.iload_n 1, 1) := by decide +kernel
theorem dX9_comesTo_9 : decode cX9_comesTo 9 = .ok (.iconst 0, 1) := by decide +kernel
theorem dX9_comesTo_10 : decode cX9_comesTo 10 = .ok (.invokevirtual 46, 3) := by decide +kernel
theorem dX9_comesTo_13 : decode cX9_comesTo 13 = .ok (.invokevirtual 78, 3) := by decide +kernel
theorem dX9_comesTo_16 : decode cX9_comesTo 16 = .ok (.istore 4, 2) := by decide +kernel
theorem dX9_comesTo_18 : decode cX9_comesTo 18 = .ok (.aload_n 0, 1) := by decide +kernel
theorem dX9_comesTo_19 : decode cX9_comesTo 19 = .ok (.iload_n 1, 1) := by decide +kernel
theorem dX9_comesTo_20 : decode cX9_comesTo 20 = .ok (.iconst 3, 1) := by decide +kernel
theorem dX9_comesTo_21 : decode cX9_comesTo 21 = .ok (.invokevirtual 46, 3) := by decide +kernel
theorem dX9_comesTo_24 : decode cX9_comesTo 24 = .ok (.iload_n 2, 1) := by decide +kernel
theorem dX9_comesTo_25 : decode cX9_comesTo 25 = .ok (.if_icmp .ne 63, 3) := by decide +kernel
theorem dX9_comesTo_28 : decode cX9_comesTo 28 = .ok (.aload_n 0, 1) := by decide +kernel
theorem dX9_comesTo_29 : decode cX9_comesTo 29 = .ok (.iload_n 1, 1) := by decide +kernel
theorem dX9_comesTo_30 : decode cX9_comesTo 30 = .ok (.iconst 3, 1) := by decide +kernel
theorem dX9_comesTo_31 : decode cX9_comesTo 31 = .ok (.iload_n 2, 1) := by decide +kernel
theorem dX9_comesTo_32 : decode cX9_comesTo 32 = .ok (.iconst 0, 1) := by decide +kernel
theorem dX9_comesTo_33 : decode cX9_comesTo 33 = .ok (.invokevirtual 81, 3) := by decide +kernel
theorem dX9_comesTo_36 : decode cX9_comesTo 36 = .ok (.aload_n 0, 1) := by decide +kernel
theorem dX9_comesTo_37 : decode cX9_comesTo 37 = .ok (.getfield 7, 3) := by decide +kernel
theorem dX9_comesTo_40 : decode cX9_comesTo 40 = .ok (.bipush 8, 2) := by decide +kernel
theorem dX9_comesTo_42 : decode cX9_comesTo 42 = .ok (.dup2, 1) := by decide +kernel
theorem dX9_comesTo_43 : decode cX9_comesTo 43 = .ok (.iaload, 1) := by decide +kernel
theorem dX9_comesTo_44 : decode cX9_comesTo 44 = .ok (.aload_n 0, 1) := by decide +kernel
theorem dX9_comesTo_45 : decode cX9_comesTo 45 = .ok (.iload_n 1, 1) := by decide +kernel
theorem dX9_comesTo_46 : decode cX9_comesTo 46 = .ok (.iconst 0, 1) := by decide +kernel
theorem dX9_comesTo_47 : decode cX9_comesTo 47 = .ok (.invokevirtual 46, 3) := by decide +kernel
theorem dX9_comesTo_50 : decode cX9_comesTo 50 = .ok (.ixor, 1) := by decide +kernel
theorem dX9_comesTo_51 : decode cX9_comesTo 51 = .ok (.iastore, 1) := by decide +kernel
theorem dX9_comesTo_52 : decode cX9_comesTo 52 = .ok (.aload_n 0, 1) := by decide +kernel
theorem dX9_comesTo_53 : decode cX9_comesTo 53 = .ok (.getfield 7, 3) := by decide +kernel
theorem dX9_comesTo_56 : decode cX9_comesTo 56 = .ok (.iload_n 2, 1) := by decide +kernel
theorem dX9_comesTo_57 : decode cX9_comesTo 57 = .ok (.invokestatic 42, 3) := by decide +kernel
theorem dX9_comesTo_60 : decode cX9_comesTo 60 = .ok (.iconst 2, 1) := by decide +kernel
theorem dX9_comesTo_61 : decode cX9_comesTo 61 = .ok (.iadd, 1) := by decide +kernel
theorem dX9_comesTo_62 : decode cX9_comesTo 62 = .ok (.dup2, 1) := by decide +kernel
theorem dX9_comesTo_63 : decode cX9_comesTo 63 = .ok (.iaload, 1) := by decide +kernel
theorem dX9_comesTo_64 : decode cX9_comesTo 64 = .ok (.iconst 1, 1) := by decide +kernel
theorem dX9_comesTo_65 : decode cX9_comesTo 65 = .ok (.iadd, 1) := by decide +kernel
theorem dX9_comesTo_66 : decode cX9_comesTo 66 = .ok (.iastore, 1) := by decide +kernel
theorem dX9_comesTo_67 : decode cX9_comesTo 67 = .ok (.aload_n 0, 1) := by decide +kernel
theorem dX9_comesTo_68 : decode cX9_comesTo 68 = .ok (.dup, 1) := by decide +kernel
theorem dX9_comesTo_69 : decode cX9_comesTo 69 = .ok (.getfield 84, 3) := by decide +kernel
theorem dX9_comesTo_72 : decode cX9_comesTo 72 = .ok (.iconst 1, 1) := by decide +kernel
theorem dX9_comesTo_73 : decode cX9_comesTo 73 = .ok (.iadd, 1) := by decide +kernel
theorem dX9_comesTo_74 : decode cX9_comesTo 74 = .ok (.putfield 84, 3) := by decide +kernel
theorem dX9_comesTo_77 : decode cX9_comesTo 77 = .ok (.aload_n 0, 1) := by decide +kernel
theorem dX9_comesTo_78 : decode cX9_comesTo 78 = .ok (.iconst 1, 1) := by decide +kernel
theorem dX9_comesTo_79 : decode cX9_comesTo 79 = .ok (.iload_n 1, 1) := by decide +kernel
theorem dX9_comesTo_80 : decode cX9_comesTo 80 = .ok (.iload_n 3, 1) := by decide +kernel
theorem dX9_comesTo_81 : decode cX9_comesTo 81 = .ok (.iload_n 2, 1) := by decide +kernel
theorem dX9_comesTo_82 : decode cX9_comesTo 82 = .ok (.invokevirtual 67, 3) := by decide +kernel
theorem dX9_comesTo_85 : decode cX9_comesTo 85 = .ok (.goto 194, 3) := by decide +kernel
theorem dX9_comesTo_88 : decode cX9_comesTo 88 = .ok (.iload 4, 2) := by decide +kernel
theorem dX9_comesTo_90 : decode cX9_comesTo 90 = .ok (.bipush (-5), 2) := by decide +kernel
theorem dX9_comesTo_92 : decode cX9_comesTo 92 = .ok (.if_icmp .eq 49, 3) := by decide +kernel
theorem dX9_comesTo_95 : decode cX9_comesTo 95 = .ok (.aload_n 0, 1) := by decide +kernel
theorem dX9_comesTo_96 : decode cX9_comesTo 96 = .ok (.iload_n 1, 1) := by decide +kernel
theorem dX9_comesTo_97 : decode cX9_comesTo 97 = .ok (.iconst 4, 1) := by decide +kernel
theorem dX9_comesTo_98 : decode cX9_comesTo 98 = .ok (.iload_n 2, 1) := by decide +kernel
theorem dX9_comesTo_99 : decode cX9_comesTo 99 = .ok (.aload_n 0, 1) := by decide +kernel
theorem dX9_comesTo_100 : decode cX9_comesTo 100 = .ok (.iload_n 1, 1) := by decide +kernel
theorem dX9_comesTo_101 : decode cX9_comesTo 101 = .ok (.iconst 5, 1) := by decide +kernel
theorem dX9_comesTo_102 : decode cX9_comesTo 102 = .ok (.invokevirtual 46, 3) := by decide +kernel
theorem dX9_comesTo_105 : decode cX9_comesTo 105 = .ok (.invokevirtual 81, 3) := by decide +kernel
theorem dX9_comesTo_108 : decode cX9_comesTo 108 = .ok (.aload_n 0, 1) := by decide +kernel
theorem dX9_comesTo_109 : decode cX9_comesTo 109 = .ok (.iload_n 2, 1) := by decide +kernel
theorem dX9_comesTo_110 : decode cX9_comesTo 110 = .ok (.iload 4, 2) := by decide +kernel
theorem dX9_comesTo_112 : decode cX9_comesTo 112 = .ok (.invokevirtual 87, 3) := by decide +kernel
theorem dX9_comesTo_115 : decode cX9_comesTo 115 = .ok (.aload_n 0, 1) := by decide +kernel
theorem dX9_comesTo_116 : decode cX9_comesTo 116 = .ok (.getfield 7, 3) := by decide +kernel
theorem dX9_comesTo_119 : decode cX9_comesTo 119 = .ok (.iload_n 2, 1) := by decide +kernel
theorem dX9_comesTo_120 : decode cX9_comesTo 120 = .ok (.invokestatic 42, 3) := by decide +kernel
theorem dX9_comesTo_123 : decode cX9_comesTo 123 = .ok (.iconst 3, 1) := by decide +kernel
theorem dX9_comesTo_124 : decode cX9_comesTo 124 = .ok (.iadd, 1) := by decide +kernel
theorem dX9_comesTo_125 : decode cX9_comesTo 125 = .ok (.dup2, 1) := by decide +kernel
theorem dX9_comesTo_126 : decode cX9_comesTo 126 = .ok (.iaload, 1) := by decide +kernel
theorem dX9_comesTo_127 : decode cX9_comesTo 127 = .ok (.iconst 1, 1) := by decide +kernel
theorem dX9_comesTo_128 : decode cX9_comesTo 128 = .ok (.iadd, 1) := by decide +kernel
theorem dX9_comesTo_129 : decode cX9_comesTo 129 = .ok (.iastore, 1) := by decide +kernel
theorem dX9_comesTo_130 : decode cX9_comesTo 130 = .ok (.aload_n 0, 1) := by decide +kernel
theorem dX9_comesTo_131 : decode cX9_comesTo 131 = .ok (.iconst 2, 1) := by decide +kernel
theorem dX9_comesTo_132 : decode cX9_comesTo 132 = .ok (.iload_n 1, 1) := by decide +kernel
theorem dX9_comesTo_133 : decode cX9_comesTo 133 = .ok (.iload_n 3, 1) := by decide +kernel
theorem dX9_comesTo_134 : decode cX9_comesTo 134 = .ok (.iload_n 2, 1) := by decide +kernel
theorem dX9_comesTo_135 : decode cX9_comesTo 135 = .ok (.invokevirtual 67, 3) := by decide +kernel
theorem dX9_comesTo_138 : decode cX9_comesTo 138 = .ok (.goto 141, 3) := by decide +kernel
theorem dX9_comesTo_141 : decode cX9_comesTo 141 = .ok (.aload_n 0, 1) := by decide +kernel
theorem dX9_comesTo_142 : decode cX9_comesTo 142 = .ok (.iload_n 1, 1) := by decide +kernel
theorem dX9_comesTo_143 : decode cX9_comesTo 143 = .ok (.iconst 3, 1) := by decide +kernel
theorem dX9_comesTo_144 : decode cX9_comesTo 144 = .ok (.invokevirtual 46, 3) := by decide +kernel
theorem dX9_comesTo_147 : decode cX9_comesTo 147 = .ok (.bipush 10, 2) := by decide +kernel
theorem dX9_comesTo_149 : decode cX9_comesTo 149 = .ok (.idiv, 1) := by decide +kernel
theorem dX9_comesTo_150 : decode cX9_comesTo 150 = .ok (.iload_n 3, 1) := by decide +kernel
theorem dX9_comesTo_151 : decode cX9_comesTo 151 = .ok (.if_icmp .eq 69, 3) := by decide +kernel
theorem dX9_comesTo_154 : decode cX9_comesTo 154 = .ok (.iload_n 2, 1) := by decide +kernel
theorem dX9_comesTo_155 : decode cX9_comesTo 155 = .ok (.bipush 10, 2) := by decide +kernel
theorem dX9_comesTo_157 : decode cX9_comesTo 157 = .ok (.irem, 1) := by decide +kernel
theorem dX9_comesTo_158 : decode cX9_comesTo 158 = .ok (.ifCond .ne 62, 3) := by decide +kernel
theorem dX9_comesTo_161 : decode cX9_comesTo 161 = .ok (.aload_n 0, 1) := by decide +kernel
theorem dX9_comesTo_162 : decode cX9_comesTo 162 = .ok (.iconst 1, 1) := by decide +kernel
theorem dX9_comesTo_163 : decode cX9_comesTo 163 = .ok (.iload_n 3, 1) := by decide +kernel
theorem dX9_comesTo_164 : decode cX9_comesTo 164 = .ok (.isub, 1) := by decide +kernel
theorem dX9_comesTo_165 : decode cX9_comesTo 165 = .ok (.iconst 2, 1) := by decide +kernel
theorem dX9_comesTo_166 : decode cX9_comesTo 166 = .ok (.invokevirtual 91, 3) := by decide +kernel
theorem dX9_comesTo_169 : decode cX9_comesTo 169 = .ok (.iconst 3, 1) := by decide +kernel
theorem dX9_comesTo_170 : decode cX9_comesTo 170 = .ok (.if_icmp .ge 50, 3) := by decide +kernel
theorem dX9_comesTo_173 : decode cX9_comesTo 173 = .ok (.aload_n 0, 1) := by decide +kernel
theorem dX9_comesTo_174 : decode cX9_comesTo 174 = .ok (.iload_n 1, 1) := by decide +kernel
theorem dX9_comesTo_175 : decode cX9_comesTo 175 = .ok (.invokevirtual 63, 3) := by decide +kernel
theorem dX9_comesTo_178 : decode cX9_comesTo 178 = .ok (.aload_n 0, 1) := by decide +kernel
theorem dX9_comesTo_179 : decode cX9_comesTo 179 = .ok (.iload_n 1, 1) := by decide +kernel
theorem dX9_comesTo_180 : decode cX9_comesTo 180 = .ok (.bipush 6, 2) := by decide +kernel
theorem dX9_comesTo_182 : decode cX9_comesTo 182 = .ok (.iconst 2, 1) := by decide +kernel
theorem dX9_comesTo_183 : decode cX9_comesTo 183 = .ok (.invokevirtual 59, 3) := by decide +kernel
theorem dX9_comesTo_186 : decode cX9_comesTo 186 = .ok (.aload_n 0, 1) := by decide +kernel
theorem dX9_comesTo_187 : decode cX9_comesTo 187 = .ok (.iload_n 1, 1) := by decide +kernel
theorem dX9_comesTo_188 : decode cX9_comesTo 188 = .ok (.bipush 7, 2) := by decide +kernel
theorem dX9_comesTo_190 : decode cX9_comesTo 190 = .ok (.iconst 1, 1) := by decide +kernel
theorem dX9_comesTo_191 : decode cX9_comesTo 191 = .ok (.iload_n 3, 1) := by decide +kernel
theorem dX9_comesTo_192 : decode cX9_comesTo 192 = .ok (.isub, 1) := by decide +kernel
theorem dX9_comesTo_193 : decode cX9_comesTo 193 = .ok (.invokevirtual 59, 3) := by decide +kernel
theorem dX9_comesTo_196 : decode cX9_comesTo 196 = .ok (.aload_n 0, 1) := by decide +kernel
theorem dX9_comesTo_197 : decode cX9_comesTo 197 = .ok (.iload_n 1, 1) := by decide +kernel
theorem dX9_comesTo_198 : decode cX9_comesTo 198 = .ok (.bipush 15, 2) := by decide +kernel
theorem dX9_comesTo_200 : decode cX9_comesTo 200 = .ok (.aload_n 0, 1) := by decide +kernel
theorem dX9_comesTo_201 : decode cX9_comesTo 201 = .ok (.getfield 7, 3) := by decide +kernel
theorem dX9_comesTo_204 : decode cX9_comesTo 204 = .ok (.iconst 0, 1) := by decide +kernel
theorem dX9_comesTo_205 : decode cX9_comesTo 205 = .ok (.iaload, 1) := by decide +kernel
theorem dX9_comesTo_206 : decode cX9_comesTo 206 = .ok (.invokevirtual 59, 3) := by decide +kernel
theorem dX9_comesTo_209 : decode cX9_comesTo 209 = .ok (.aload_n 0, 1) := by decide +kernel
theorem dX9_comesTo_210 : decode cX9_comesTo 210 = .ok (.iconst 3, 1) := by decide +kernel
theorem dX9_comesTo_211 : decode cX9_comesTo 211 = .ok (.iload_n 1, 1) := by decide +kernel
theorem dX9_comesTo_212 : decode cX9_comesTo 212 = .ok (.iload_n 3, 1) := by decide +kernel
theorem dX9_comesTo_213 : decode cX9_comesTo 213 = .ok (.iload_n 2, 1) := by decide +kernel
theorem dX9_comesTo_214 : decode cX9_comesTo 214 = .ok (.invokevirtual 67, 3) := by decide +kernel
theorem dX9_comesTo_217 : decode cX9_comesTo 217 = .ok (.goto 62, 3) := by decide +kernel
theorem dX9_comesTo_220 : decode cX9_comesTo 220 = .ok (.aload_n 0, 1) := by decide +kernel
theorem dX9_comesTo_221 : decode cX9_comesTo 221 = .ok (.iload_n 1, 1) := by decide +kernel
theorem dX9_comesTo_222 : decode cX9_comesTo 222 = .ok (.bipush 16, 2) := by decide +kernel
theorem dX9_comesTo_224 : decode cX9_comesTo 224 = .ok (.invokevirtual 46, 3) := by decide +kernel
theorem dX9_comesTo_227 : decode cX9_comesTo 227 = .ok (.iload_n 2, 1) := by decide +kernel
theorem dX9_comesTo_228 : decode cX9_comesTo 228 = .ok (.bipush 10, 2) := by decide +kernel
theorem dX9_comesTo_230 : decode cX9_comesTo 230 = .ok (.irem, 1) := by decide +kernel
theorem dX9_comesTo_231 : decode cX9_comesTo 231 = .ok (.if_icmp .ne 48, 3) := by decide +kernel
theorem dX9_comesTo_234 : decode cX9_comesTo 234 = .ok (.aload_n 0, 1) := by decide +kernel
theorem dX9_comesTo_235 : decode cX9_comesTo 235 = .ok (.iload_n 1, 1) := by decide +kernel
theorem dX9_comesTo_236 : decode cX9_comesTo 236 = .ok (.iconst 4, 1) := by decide +kernel
theorem dX9_comesTo_237 : decode cX9_comesTo 237 = .ok (.aload_n 0, 1) := by decide +kernel
theorem dX9_comesTo_238 : decode cX9_comesTo 238 = .ok (.iload_n 1, 1) := by decide +kernel
theorem dX9_comesTo_239 : decode cX9_comesTo 239 = .ok (.iconst 4, 1) := by decide +kernel
theorem dX9_comesTo_240 : decode cX9_comesTo 240 = .ok (.invokevirtual 46, 3) := by decide +kernel
theorem dX9_comesTo_243 : decode cX9_comesTo 243 = .ok (.iconst 1, 1) := by decide +kernel
theorem dX9_comesTo_244 : decode cX9_comesTo 244 = .ok (.isub, 1) := by decide +kernel
theorem dX9_comesTo_245 : decode cX9_comesTo 245 = .ok (.invokevirtual 59, 3) := by decide +kernel
theorem dX9_comesTo_248 : decode cX9_comesTo 248 = .ok (.aload_n 0, 1) := by decide +kernel
theorem dX9_comesTo_249 : decode cX9_comesTo 249 = .ok (.iload_n 1, 1) := by decide +kernel
theorem dX9_comesTo_250 : decode cX9_comesTo 250 = .ok (.iconst 4, 1) := by decide +kernel
theorem dX9_comesTo_251 : decode cX9_comesTo 251 = .ok (.invokevirtual 46, 3) := by decide +kernel
theorem dX9_comesTo_254 : decode cX9_comesTo 254 = .ok (.ifCond .ne 25, 3) := by decide +kernel
theorem dX9_comesTo_257 : decode cX9_comesTo 257 = .ok (.aload_n 0, 1) := by decide +kernel
theorem dX9_comesTo_258 : decode cX9_comesTo 258 = .ok (.iload_n 1, 1) := by decide +kernel
theorem dX9_comesTo_259 : decode cX9_comesTo 259 = .ok (.bipush 6, 2) := by decide +kernel
theorem dX9_comesTo_261 : decode cX9_comesTo 261 = .ok (.iload_n 2, 1) := by decide +kernel
theorem dX9_comesTo_262 : decode cX9_comesTo 262 = .ok (.aload_n 0, 1) := by decide +kernel
theorem dX9_comesTo_263 : decode cX9_comesTo 263 = .ok (.iload_n 1, 1) := by decide +kernel
theorem dX9_comesTo_264 : decode cX9_comesTo 264 = .ok (.iconst 5, 1) := by decide +kernel
theorem dX9_comesTo_265 : decode cX9_comesTo 265 = .ok (.invokevirtual 46, 3) := by decide +kernel
theorem dX9_comesTo_268 : decode cX9_comesTo 268 = .ok (.invokevirtual 81, 3) := by decide +kernel
theorem dX9_comesTo_271 : decode cX9_comesTo 271 = .ok (.aload_n 0, 1) := by decide +kernel
theorem dX9_comesTo_272 : decode cX9_comesTo 272 = .ok (.iconst 4, 1) := by decide +kernel
theorem dX9_comesTo_273 : decode cX9_comesTo 273 = .ok (.iload_n 1, 1) := by decide +kernel
theorem dX9_comesTo_274 : decode cX9_comesTo 274 = .ok (.iload_n 3, 1) := by decide +kernel
theorem dX9_comesTo_275 : decode cX9_comesTo 275 = .ok (.iload_n 2, 1) := by decide +kernel
theorem dX9_comesTo_276 : decode cX9_comesTo 276 = .ok (.invokevirtual 67, 3) := by decide +kernel
theorem dX9_comesTo_279 : decode cX9_comesTo 279 = .ok (.return_, 1) := by decide +kernel
