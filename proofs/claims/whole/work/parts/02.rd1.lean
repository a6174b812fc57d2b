set_option maxRecDepth 20000 in
theorem ggX9_shoves_X9_of : GoodIn wsX9_shoves wsX9_of := goodIn_r _ [6, 1, 26, 27, 28, 29, 30, 31, 32, 33, 34, 35, 36, 37, 38, 39, 40] (by decide +kernel) (by decide +kernel)
set_option maxRecDepth 20000 in
theorem gX9_shoves_X9_of : GoodIn wsX9_shoves (wsV RX9 46 RX9 yX9_of wsX9_of) := goodIn_app (goodIn_of _ (by decide +kernel)) ggX9_shoves_X9_of
set_option maxRecDepth 20000 in
theorem ggX9_shoves_X9_ends : GoodIn wsX9_shoves wsX9_ends := goodIn_r _ [10, 1, 11, 12, 13, 5, 14, 2, 3, 4, 6, 15, 16, 17, 18, 26, 27, 28, 29, 30, 31, 32, 33, 34, 35, 36, 37, 38, 39, 40] (by decide +kernel) (by decide +kernel)
set_option maxRecDepth 20000 in
theorem gX9_shoves_X9_ends : GoodIn wsX9_shoves (wsV RX9 81 RX9 yX9_ends wsX9_ends) := goodIn_app (goodIn_of _ (by decide +kernel)) ggX9_shoves_X9_ends
set_option maxRecDepth 20000 in
theorem ggX9_shoves_X9_put : GoodIn wsX9_shoves wsX9_put := goodIn_r _ [18, 1, 26, 27, 28, 29, 30, 31, 32, 33, 34, 35, 36, 37, 38, 39, 40] (by decide +kernel) (by decide +kernel)
set_option maxRecDepth 20000 in
theorem gX9_shoves_X9_put : GoodIn wsX9_shoves (wsV RX9 59 RX9 yX9_put wsX9_put) := goodIn_app (goodIn_of _ (by decide +kernel)) ggX9_shoves_X9_put
set_option maxRecDepth 20000 in
theorem ggX9_shoves_X9_stationAt : GoodIn wsX9_shoves wsX9_stationAt := goodIn_r _ [21] (by decide +kernel) (by decide +kernel)
set_option maxRecDepth 20000 in
theorem gX9_shoves_X9_stationAt : GoodIn wsX9_shoves (va_wsS RX9 42 yX9_stationAt wsX9_stationAt) := goodIn_app (goodIn_of _ (by decide +kernel)) ggX9_shoves_X9_stationAt
set_option maxRecDepth 20000 in
theorem ggX9_shoves_X9_logs : GoodIn wsX9_shoves wsX9_logs := goodIn_r _ [25, 1, 26, 27, 28, 29, 30, 31, 32, 33, 34, 35, 36, 37, 38, 39, 40] (by decide +kernel) (by decide +kernel)
set_option maxRecDepth 20000 in
theorem gX9_shoves_X9_logs : GoodIn wsX9_shoves (wsV RX9 67 RX9 yX9_logs wsX9_logs) := goodIn_app (goodIn_of _ (by decide +kernel)) ggX9_shoves_X9_logs
theorem dX9_shoves_0 : decode cX9_shoves 0 = .ok (.aload_n 0, 1) := by decide +kernel
theorem dX9_shoves_1 : decode cX9_shoves 1 = .ok (.iload_n 1, 1) := by decide +kernel
theorem dX9_shoves_2 : decode cX9_shoves 2 = .ok (.iconst 5, 1) := by decide +kernel
theorem dX9_shoves_3 : decode cX9_shoves 3 = .ok (.iload_n 3, 1) := by decide +kernel
theorem dX9_shoves_4 : decode cX9_shoves 4 = .ok (.aload_n 0, 1) := by decide +kernel
theorem dX9_shoves_5 : decode cX9_shoves 5 = .ok (.iload_n 1, 1) := by decide +kernel
theorem dX9_shoves_6 : decode cX9_shoves 6 = .ok (.iconst 5, 1) := by decide +kernel
theorem dX9_shoves_7 : decode cX9_shoves 7 = .ok (.invokevirtual 46, 3) := by decide +kernel
theorem dX9_shoves_10 : decode cX9_shoves 10 = .ok (.invokevirtual 81, 3) := by decide +kernel
theorem dX9_shoves_13 : decode cX9_shoves 13 = .ok (.aload_n 0, 1) := by decide +kernel
theorem dX9_shoves_14 : decode cX9_shoves 14 = .ok (.iload_n 1, 1) := by decide +kernel
theorem dX9_shoves_15 : decode cX9_shoves 15 = .ok (.bipush 13, 2) := by decide +kernel
theorem dX9_shoves_17 : decode cX9_shoves 17 = .ok (.iload_n 2, 1) := by decide +kernel
theorem dX9_shoves_18 : decode cX9_shoves 18 = .ok (.invokevirtual 59, 3) := by decide +kernel
theorem dX9_shoves_21 : decode cX9_shoves 21 = .ok (.aload_n 0, 1) := by decide +kernel
theorem dX9_shoves_22 : decode cX9_shoves 22 = .ok (.getfield 7, 3) := by decide +kernel
theorem dX9_shoves_25 : decode cX9_shoves 25 = .ok (.iload_n 3, 1) := by decide +kernel
theorem dX9_shoves_26 : decode cX9_shoves 26 = .ok (.invokestatic 42, 3) := by decide +kernel
theorem dX9_shoves_29 : decode cX9_shoves 29 = .ok (.iconst 4, 1) := by decide +kernel
theorem dX9_shoves_30 : decode cX9_shoves 30 = .ok (.iadd, 1) := by decide +kernel
theorem dX9_shoves_31 : decode cX9_shoves 31 = .ok (.dup2, 1) := by decide +kernel
theorem dX9_shoves_32 : decode cX9_shoves 32 = .ok (.iaload, 1) := by decide +kernel
theorem dX9_shoves_33 : decode cX9_shoves 33 = .ok (.iconst 1, 1) := by decide +kernel
theorem dX9_shoves_34 : decode cX9_shoves 34 = .ok (.iadd, 1) := by decide +kernel
theorem dX9_shoves_35 : decode cX9_shoves 35 = .ok (.iastore, 1) := by decide +kernel
theorem dX9_shoves_36 : decode cX9_shoves 36 = .ok (.aload_n 0, 1) := by decide +kernel
theorem dX9_shoves_37 : decode cX9_shoves 37 = .ok (.iconst 5, 1) := by decide +kernel
theorem dX9_shoves_38 : decode cX9_shoves 38 = .ok (.iload_n 1, 1) := by decide +kernel
theorem dX9_shoves_39 : decode cX9_shoves 39 = .ok (.iload_n 3, 1) := by decide +kernel
theorem dX9_shoves_40 : decode cX9_shoves 40 = .ok (.bipush 10, 2) := by decide +kernel
theorem dX9_shoves_42 : decode cX9_shoves 42 = .ok (.idiv, 1) := by decide +kernel
theorem dX9_shoves_43 : decode cX9_shoves 43 = .ok (.iload_n 3, 1) := by decide +kernel
theorem dX9_shoves_44 : decode cX9_shoves 44 = .ok (.invokevirtual 67, 3) := by decide +kernel
theorem dX9_shoves_47 : decode cX9_shoves 47 = .ok (.return_, 1) := by decide +kernel
set_option maxRecDepth 20000 in
theorem ggX9_goStation_X9_slotAt : GoodIn wsX9_goStation wsX9_slotAt := goodIn_r _ [6, 1, 7, 8, 9, 5, 10, 11, 12, 13, 79, 80, 81, 82, 83, 84, 85, 86, 87, 88, 89, 90, 91, 92, 93] (by decide +kernel) (by decide +kernel)
set_option maxRecDepth 20000 in
theorem gX9_goStation_X9_slotAt : GoodIn wsX9_goStation (wsV RX9 94 RX9 yX9_slotAt wsX9_slotAt) := goodIn_app (goodIn_of _ (by decide +kernel)) ggX9_goStation_X9_slotAt
set_option maxRecDepth 20000 in
theorem ggX9_goStation_X9_seat : GoodIn wsX9_goStation wsX9_seat := goodIn_r _ [17, 1, 79, 80, 81, 82, 83, 84, 85, 86, 87, 88, 89, 90, 91, 92, 93] (by decide +kernel) (by decide +kernel)
set_option maxRecDepth 20000 in
theorem gX9_goStation_X9_seat : GoodIn wsX9_goStation (wsV RX9 97 RX9 yX9_seat wsX9_seat) := goodIn_app (goodIn_of _ (by decide +kernel)) ggX9_goStation_X9_seat
set_option maxRecDepth 20000 in
theorem ggX9_goStation_X9_comesTo : GoodIn wsX9_goStation wsX9_comesTo := goodIn_r _ [21, 1, 22, 23, 24, 25, 5, 26, 27, 28, 29, 30, 11, 12, 13, 31, 32, 33, 34, 35, 36, 37, 38, 39, 40, 41, 42, 43, 44, 45, 46, 47, 48, 49, 50, 51, 52, 53, 54, 79, 80, 81, 82, 83, 84, 85, 86, 87, 88, 89, 90, 91, 92, 93] (by decide +kernel) (by decide +kernel)
set_option maxRecDepth 20000 in
theorem gX9_goStation_X9_comesTo : GoodIn wsX9_goStation (wsV RX9 100 RX9 yX9_comesTo wsX9_comesTo) := goodIn_app (goodIn_of _ (by decide +kernel)) ggX9_goStation_X9_comesTo
set_option maxRecDepth 20000 in
theorem ggX9_goStation_X9_nextAt : GoodIn wsX9_goStation wsX9_nextAt := goodIn_r _ [58, 59, 60, 61, 5, 62, 1, 23, 24, 25, 26, 63, 64, 65, 66, 67, 68, 69, 70, 79, 80, 81, 82, 83, 84, 85, 86, 87, 88, 89, 90, 91, 92, 93] (by decide +kernel) (by decide +kernel)
set_option maxRecDepth 20000 in
theorem gX9_goStation_X9_nextAt : GoodIn wsX9_goStation (wsV RX9 103 RX9 yX9_nextAt wsX9_nextAt) := goodIn_app (goodIn_of _ (by decide +kernel)) ggX9_goStation_X9_nextAt
set_option maxRecDepth 20000 in
theorem ggX9_goStation_X9_boards : GoodIn wsX9_goStation wsX9_boards := goodIn_r _ [74, 1, 39, 40, 41, 5, 42, 23, 24, 25, 26, 11, 12, 13, 43, 44, 45, 46, 79, 80, 81, 82, 83, 84, 85, 86, 87, 88, 89, 90, 91, 92, 93] (by decide +kernel) (by decide +kernel)
set_option maxRecDepth 20000 in
theorem gX9_goStation_X9_boards : GoodIn wsX9_goStation (wsV RX9 106 RX9 yX9_boards wsX9_boards) := goodIn_app (goodIn_of _ (by decide +kernel)) ggX9_goStation_X9_boards
set_option maxRecDepth 20000 in
theorem ggX9_goStation_X9_of : GoodIn wsX9_goStation wsX9_of := goodIn_r _ [26, 1, 79, 80, 81, 82, 83, 84, 85, 86, 87, 88, 89, 90, 91, 92, 93] (by decide +kernel) (by decide +kernel)
set_option maxRecDepth 20000 in
theorem gX9_goStation_X9_of : GoodIn wsX9_goStation (wsV RX9 46 RX9 yX9_of wsX9_of) := goodIn_app (goodIn_of _ (by decide +kernel)) ggX9_goStation_X9_of
set_option maxRecDepth 20000 in
theorem ggX9_goStation_X9_shoves : GoodIn wsX9_goStation wsX9_shoves := goodIn_r _ [78, 1, 23, 24, 25, 5, 26, 31, 32, 33, 34, 35, 36, 37, 38, 39, 40, 41, 42, 11, 12, 13, 43, 44, 45, 46, 79, 80, 81, 82, 83, 84, 85, 86, 87, 88, 89, 90, 91, 92, 93] (by decide +kernel) (by decide +kernel)
set_option maxRecDepth 20000 in
theorem gX9_goStation_X9_shoves : GoodIn wsX9_goStation (wsV RX9 109 RX9 yX9_shoves wsX9_shoves) := goodIn_app (goodIn_of _ (by decide +kernel)) ggX9_goStation_X9_shoves
theorem dX9_goStation_0 : decode cX9_goStation 0 = .ok (.iload_n 1, 1) := by decide +kernel
theorem dX9_goStation_1 : decode cX9_goStation 1 = .ok (.bipush 10, 2) := by decide +kernel
theorem dX9_goStation_3 : decode cX9_goStation 3 = .ok (.idiv, 1) := by decide +kernel
theorem dX9_goStation_4 : decode cX9_goStation 4 = .ok (.istore_n 2, 1) := by decide +kernel
theorem dX9_goStation_5 : decode cX9_goStation 5 = .ok (.aload_n 0, 1) := by decide +kernel
theorem dX9_goStation_6 : decode cX9_goStation 6 = .ok (.iload_n 1, 1) := by decide +kernel
theorem dX9_goStation_7 : decode cX9_goStation 7 = .ok (.invokevirtual 94, 3) := by decide +kernel
theorem dX9_goStation_10 : decode cX9_goStation 10 = .ok (.istore_n 3, 1) := by decide +kernel
theorem dX9_goStation_11 : decode cX9_goStation 11 = .ok (.aload_n 0, 1) := by decide +kernel
theorem dX9_goStation_12 : decode cX9_goStation 12 = .ok (.iload_n 2, 1) := by decide +kernel
theorem dX9_goStation_13 : decode cX9_goStation 13 = .ok (.iload_n 3, 1) := by decide +kernel
theorem dX9_goStation_14 : decode cX9_goStation 14 = .ok (.invokevirtual 97, 3) := by decide +kernel
theorem dX9_goStation_17 : decode cX9_goStation 17 = .ok (.bipush (-5), 2) := by decide +kernel
theorem dX9_goStation_19 : decode cX9_goStation 19 = .ok (.if_icmp .eq 14, 3) := by decide +kernel
theorem dX9_goStation_22 : decode cX9_goStation 22 = .ok (.aload_n 0, 1) := by decide +kernel
theorem dX9_goStation_23 : decode cX9_goStation 23 = .ok (.aload_n 0, 1) := by decide +kernel
theorem dX9_goStation_24 : decode cX9_goStation 24 = .ok (.iload_n 2, 1) := by decide +kernel
theorem dX9_goStation_25 : decode cX9_goStation 25 = .ok (.iload_n 3, 1) := by decide +kernel
theorem dX9_goStation_26 : decode cX9_goStation 26 = .ok (.invokevirtual 97, 3) := by decide +kernel
theorem dX9_goStation_29 : decode cX9_goStation 29 = .ok (.iload_n 1, 1) := by decide +kernel
theorem dX9_goStation_30 : decode cX9_goStation 30 = .ok (.invokevirtual 100, 3) := by decide +kernel
theorem dX9_goStation_33 : decode cX9_goStation 33 = .ok (.aload_n 0, 1) := by decide +kernel
theorem dX9_goStation_34 : decode cX9_goStation 34 = .ok (.iload_n 1, 1) := by decide +kernel
theorem dX9_goStation_35 : decode cX9_goStation 35 = .ok (.invokevirtual 103, 3) := by decide +kernel
theorem dX9_goStation_38 : decode cX9_goStation 38 = .ok (.istore 4, 2) := by decide +kernel
theorem dX9_goStation_40 : decode cX9_goStation 40 = .ok (.iload 4, 2) := by decide +kernel
theorem dX9_goStation_42 : decode cX9_goStation 42 = .ok (.bipush (-5), 2) := by decide +kernel
theorem dX9_goStation_44 : decode cX9_goStation 44 = .ok (.if_icmp .ne 4, 3) := by decide +kernel
theorem dX9_goStation_47 : decode cX9_goStation 47 = .ok (.return_, 1) := by decide +kernel
theorem dX9_goStation_48 : decode cX9_goStation 48 = .ok (.aload_n 0, 1) := by decide +kernel
theorem dX9_goStation_49 : decode cX9_goStation 49 = .ok (.iload_n 2, 1) := by decide +kernel
theorem dX9_goStation_50 : decode cX9_goStation 50 = .ok (.iload_n 3, 1) := by decide +kernel
theorem dX9_goStation_51 : decode cX9_goStation 51 = .ok (.invokevirtual 97, 3) := by decide +kernel
theorem dX9_goStation_54 : decode cX9_goStation 54 = .ok (.istore 5, 2) := by decide +kernel
theorem dX9_goStation_56 : decode cX9_goStation 56 = .ok (.iload 5, 2) := by decide +kernel
theorem dX9_goStation_58 : decode cX9_goStation 58 = .ok (.bipush (-5), 2) := by decide +kernel
theorem dX9_goStation_60 : decode cX9_goStation 60 = .ok (.if_icmp .ne 14, 3) := by decide +kernel
theorem dX9_goStation_63 : decode cX9_goStation 63 = .ok (.aload_n 0, 1) := by decide +kernel
theorem dX9_goStation_64 : decode cX9_goStation 64 = .ok (.iload 4, 2) := by decide +kernel
theorem dX9_goStation_66 : decode cX9_goStation 66 = .ok (.iload_n 1, 1) := by decide +kernel
theorem dX9_goStation_67 : decode cX9_goStation 67 = .ok (.iload_n 3, 1) := by decide +kernel
theorem dX9_goStation_68 : decode cX9_goStation 68 = .ok (.invokevirtual 106, 3) := by decide +kernel
theorem dX9_goStation_71 : decode cX9_goStation 71 = .ok (.goto 62, 3) := by decide +kernel
theorem dX9_goStation_74 : decode cX9_goStation 74 = .ok (.aload_n 0, 1) := by decide +kernel
theorem dX9_goStation_75 : decode cX9_goStation 75 = .ok (.iload 4, 2) := by decide +kernel
theorem dX9_goStation_77 : decode cX9_goStation 77 = .ok (.iconst 1, 1) := by decide +kernel
theorem dX9_goStation_78 : decode cX9_goStation 78 = .ok (.invokevirtual 46, 3) := by decide +kernel
theorem dX9_goStation_81 : decode cX9_goStation 81 = .ok (.aload_n 0, 1) := by decide +kernel
theorem dX9_goStation_82 : decode cX9_goStation 82 = .ok (.iload 5, 2) := by decide +kernel
theorem dX9_goStation_84 : decode cX9_goStation 84 = .ok (.iconst 1, 1) := by decide +kernel
theorem dX9_goStation_85 : decode cX9_goStation 85 = .ok (.invokevirtual 46, 3) := by decide +kernel
theorem dX9_goStation_88 : decode cX9_goStation 88 = .ok (.if_icmp .le 45, 3) := by decide +kernel
theorem dX9_goStation_91 : decode cX9_goStation 91 = .ok (.aload_n 0, 1) := by decide +kernel
theorem dX9_goStation_92 : decode cX9_goStation 92 = .ok (.getfield 7, 3) := by decide +kernel
theorem dX9_goStation_95 : decode cX9_goStation 95 = .ok (.iconst 0, 1) := by decide +kernel
theorem dX9_goStation_96 : decode cX9_goStation 96 = .ok (.iaload, 1) := by decide +kernel
theorem dX9_goStation_97 : decode cX9_goStation 97 = .ok (.aload_n 0, 1) := by decide +kernel
theorem dX9_goStation_98 : decode cX9_goStation 98 = .ok (.iload 4, 2) := by decide +kernel
theorem dX9_goStation_100 : decode cX9_goStation 100 = .ok (.bipush 15, 2) := by decide +kernel
theorem dX9_goStation_102 : decode cX9_goStation 102 = .ok (.invokevirtual 46, 3) := by decide +kernel
theorem dX9_goStation_105 : decode cX9_goStation 105 = .ok (.isub, 1) := by decide +kernel
theorem dX9_goStation_106 : decode cX9_goStation 106 = .ok (.aload_n 0, 1) := by decide +kernel
theorem dX9_goStation_107 : decode cX9_goStation 107 = .ok (.getfield 7, 3) := by decide +kernel
theorem dX9_goStation_110 : decode cX9_goStation 110 = .ok (.bipush 7, 2) := by decide +kernel
theorem dX9_goStation_112 : decode cX9_goStation 112 = .ok (.iaload, 1) := by decide +kernel
theorem dX9_goStation_113 : decode cX9_goStation 113 = .ok (.if_icmp .lt 20, 3) := by decide +kernel
theorem dX9_goStation_116 : decode cX9_goStation 116 = .ok (.aload_n 0, 1) := by decide +kernel
theorem dX9_goStation_117 : decode cX9_goStation 117 = .ok (.iload 5, 2) := by decide +kernel
theorem dX9_goStation_119 : decode cX9_goStation 119 = .ok (.iload 4, 2) := by decide +kernel
theorem dX9_goStation_121 : decode cX9_goStation 121 = .ok (.iload_n 1, 1) := by decide +kernel
theorem dX9_goStation_122 : decode cX9_goStation 122 = .ok (.invokevirtual 109, 3) := by decide +kernel
theorem dX9_goStation_125 : decode cX9_goStation 125 = .ok (.aload_n 0, 1) := by decide +kernel
theorem dX9_goStation_126 : decode cX9_goStation 126 = .ok (.iload 4, 2) := by decide +kernel
theorem dX9_goStation_128 : decode cX9_goStation 128 = .ok (.iload_n 1, 1) := by decide +kernel
theorem dX9_goStation_129 : decode cX9_goStation 129 = .ok (.iload_n 3, 1) := by decide +kernel
theorem dX9_goStation_130 : decode cX9_goStation 130 = .ok (.invokevirtual 106, 3) := by decide +kernel
theorem dX9_goStation_133 : decode cX9_goStation 133 = .ok (.return_, 1) := by decide +kernel
set_option maxRecDepth 20000 in
theorem ggX9_goLine_X9_logs : GoodIn wsX9_goLine wsX9_logs := goodIn_r _ [6, 1, 7, 8, 9, 10, 11, 12, 13, 14, 15, 16, 17, 18, 19, 20, 21] (by decide +kernel) (by decide +kernel)
set_option maxRecDepth 20000 in
theorem gX9_goLine_X9_logs : GoodIn wsX9_goLine (wsV RX9 67 RX9 yX9_logs wsX9_logs) := goodIn_app (goodIn_of _ (by decide +kernel)) ggX9_goLine_X9_logs
theorem dX9_goLine_0 : decode cX9_goLine 0 = .ok (.bipush 10, 2) := by decide +kernel
theorem dX9_goLine_2 : decode cX9_goLine 2 = .ok (.bipush 8, 2) := by decide +kernel
theorem dX9_goLine_4 : decode cX9_goLine 4 = .ok (.iload_n 1, 1) := by decide +kernel
theorem dX9_goLine_5 : decode cX9_goLine 5 = .ok (.imul, 1) := by decide +kernel
theorem dX9_goLine_6 : decode cX9_goLine 6 = .ok (.iadd, 1) := by decide +kernel
theorem dX9_goLine_7 : decode cX9_goLine 7 = .ok (.istore_n 2, 1) := by decide +kernel
theorem dX9_goLine_8 : decode cX9_goLine 8 = .ok (.aload_n 0, 1) := by decide +kernel
theorem dX9_goLine_9 : decode cX9_goLine 9 = .ok (.getfield 7, 3) := by decide +kernel
theorem dX9_goLine_12 : decode cX9_goLine 12 = .ok (.iload_n 2, 1) := by decide +kernel
theorem dX9_goLine_13 : decode cX9_goLine 13 = .ok (.iconst 2, 1) := by decide +kernel
theorem dX9_goLine_14 : decode cX9_goLine 14 = .ok (.iadd, 1) := by decide +kernel
theorem dX9_goLine_15 : decode cX9_goLine 15 = .ok (.iaload, 1) := by decide +kernel
theorem dX9_goLine_16 : decode cX9_goLine 16 = .ok (.aload_n 0, 1) := by decide +kernel
theorem dX9_goLine_17 : decode cX9_goLine 17 = .ok (.getfield 7, 3) := by decide +kernel
theorem dX9_goLine_20 : decode cX9_goLine 20 = .ok (.iload_n 2, 1) := by decide +kernel
theorem dX9_goLine_21 : decode cX9_goLine 21 = .ok (.iconst 3, 1) := by decide +kernel
theorem dX9_goLine_22 : decode cX9_goLine 22 = .ok (.iadd, 1) := by decide +kernel
theorem dX9_goLine_23 : decode cX9_goLine 23 = .ok (.iaload, 1) := by decide +kernel
theorem dX9_goLine_24 : decode cX9_goLine 24 = .ok (.iadd, 1) := by decide +kernel
theorem dX9_goLine_25 : decode cX9_goLine 25 = .ok (.istore_n 3, 1) := by decide +kernel
theorem dX9_goLine_26 : decode cX9_goLine 26 = .ok (.iload_n 3, 1) := by decide +kernel
theorem dX9_goLine_27 : decode cX9_goLine 27 = .ok (.bipush 10, 2) := by decide +kernel
theorem dX9_goLine_29 : decode cX9_goLine 29 = .ok (.if_icmp .lt 7, 3) := by decide +kernel
theorem dX9_goLine_32 : decode cX9_goLine 32 = .ok (.iconst 0, 1) := by decide +kernel
theorem dX9_goLine_33 : decode cX9_goLine 33 = .ok (.goto 14, 3) := by decide +kernel
theorem dX9_goLine_36 : decode cX9_goLine 36 = .ok (.iload_n 3, 1) := by decide +kernel
theorem dX9_goLine_37 : decode cX9_goLine 37 = .ok (.bipush (-10), 2) := by decide +kernel
theorem dX9_goLine_39 : decode cX9_goLine 39 = .ok (.if_icmp .gt 7, 3) := by decide +kernel
theorem dX9_goLine_42 : decode cX9_goLine 42 = .ok (.iconst 2, 1) := by decide +kernel
theorem dX9_goLine_43 : decode cX9_goLine 43 = .ok (.goto 4, 3) := by decide +kernel
theorem dX9_goLine_46 : decode cX9_goLine 46 = .ok (.iconst 1, 1) := by decide +kernel
theorem dX9_goLine_47 : decode cX9_goLine 47 = .ok (.istore 4, 2) := by decide +kernel
theorem dX9_goLine_49 : decode cX9_goLine 49 = .ok (.aload_n 0, 1) := by decide +kernel
theorem dX9_goLine_50 : decode cX9_goLine 50 = .ok (.getfield 7, 3) := by decide +kernel
theorem dX9_goLine_53 : decode cX9_goLine 53 = .ok (.iload_n 2, 1) := by decide +kernel
theorem dX9_goLine_54 : decode cX9_goLine 54 = .ok (.iconst 2, 1) := by decide +kernel
theorem dX9_goLine_55 : decode cX9_goLine 55 = .ok (.iadd, 1) := by decide +kernel
theorem dX9_goLine_56 : decode cX9_goLine 56 = .ok (.iload 4, 2) := by decide +kernel
theorem dX9_goLine_58 : decode cX9_goLine 58 = .ok (.ifCond .ne 10, 3) := by decide +kernel
theorem dX9_goLine_61 : decode cX9_goLine 61 = .ok (.iload_n 3, 1) := by decide +kernel
theorem dX9_goLine_62 : decode cX9_goLine 62 = .ok (.bipush 10, 2) := by decide +kernel
theorem dX9_goLine_64 : decode cX9_goLine 64 = .ok (.isub, 1) := by decide +kernel
theorem dX9_goLine_65 : decode cX9_goLine 65 = .ok (.goto 17, 3) := by decide +kernel
theorem dX9_goLine_68 : decode cX9_goLine 68 = .ok (.iload 4, 2) := by decide +kernel
theorem dX9_goLine_70 : decode cX9_goLine 70 = .ok (.iconst 2, 1) := by decide +kernel
theorem dX9_goLine_71 : decode cX9_goLine 71 = .ok (.if_icmp .ne 10, 3) := by decide +kernel
theorem dX9_goLine_74 : decode cX9_goLine 74 = .ok (.iload_n 3, 1) := by decide +kernel
theorem dX9_goLine_75 : decode cX9_goLine 75 = .ok (.bipush 10, 2) := by decide +kernel
theorem dX9_goLine_77 : decode cX9_goLine 77 = .ok (.iadd, 1) := by decide +kernel
theorem dX9_goLine_78 : decode cX9_goLine 78 = .ok (.goto 4, 3) := by decide +kernel
theorem dX9_goLine_81 : decode cX9_goLine 81 = .ok (.iload_n 3, 1) := by decide +kernel
theorem dX9_goLine_82 : decode cX9_goLine 82 = .ok (.iastore, 1) := by decide +kernel
theorem dX9_goLine_83 : decode cX9_goLine 83 = .ok (.aload_n 0, 1) := by decide +kernel
theorem dX9_goLine_84 : decode cX9_goLine 84 = .ok (.getfield 7, 3) := by decide +kernel
theorem dX9_goLine_87 : decode cX9_goLine 87 = .ok (.iload_n 2, 1) := by decide +kernel
theorem dX9_goLine_88 : decode cX9_goLine 88 = .ok (.iconst 1, 1) := by decide +kernel
theorem dX9_goLine_89 : decode cX9_goLine 89 = .ok (.iadd, 1) := by decide +kernel
theorem dX9_goLine_90 : decode cX9_goLine 90 = .ok (.aload_n 0, 1) := by decide +kernel
theorem dX9_goLine_91 : decode cX9_goLine 91 = .ok (.getfield 7, 3) := by decide +kernel
theorem dX9_goLine_94 : decode cX9_goLine 94 = .ok (.iload_n 2, 1) := by decide +kernel
theorem dX9_goLine_95 : decode cX9_goLine 95 = .ok (.iconst 1, 1) := by decide +kernel
theorem dX9_goLine_96 : decode cX9_goLine 96 = .ok (.iadd, 1) := by decide +kernel
theorem dX9_goLine_97 : decode cX9_goLine 97 = .ok (.iaload, 1) := by decide +kernel
theorem dX9_goLine_98 : decode cX9_goLine 98 = .ok (.iload 4, 2) := by decide +kernel
theorem dX9_goLine_100 : decode cX9_goLine 100 = .ok (.iadd, 1) := by decide +kernel
theorem dX9_goLine_101 : decode cX9_goLine 101 = .ok (.aload_n 0, 1) := by decide +kernel
theorem dX9_goLine_102 : decode cX9_goLine 102 = .ok (.getfield 7, 3) := by decide +kernel
theorem dX9_goLine_105 : decode cX9_goLine 105 = .ok (.iload_n 2, 1) := by decide +kernel
theorem dX9_goLine_106 : decode cX9_goLine 106 = .ok (.iconst 0, 1) := by decide +kernel
theorem dX9_goLine_107 : decode cX9_goLine 107 = .ok (.iadd, 1) := by decide +kernel
theorem dX9_goLine_108 : decode cX9_goLine 108 = .ok (.iaload, 1) := by decide +kernel
theorem dX9_goLine_109 : decode cX9_goLine 109 = .ok (.irem, 1) := by decide +kernel
theorem dX9_goLine_110 : decode cX9_goLine 110 = .ok (.iastore, 1) := by decide +kernel
theorem dX9_goLine_111 : decode cX9_goLine 111 = .ok (.iload 4, 2) := by decide +kernel
theorem dX9_goLine_113 : decode cX9_goLine 113 = .ok (.ifCond .ne 29, 3) := by decide +kernel
theorem dX9_goLine_116 : decode cX9_goLine 116 = .ok (.aload_n 0, 1) := by decide +kernel
theorem dX9_goLine_117 : decode cX9_goLine 117 = .ok (.getfield 7, 3) := by decide +kernel
theorem dX9_goLine_120 : decode cX9_goLine 120 = .ok (.iload_n 2, 1) := by decide +kernel
theorem dX9_goLine_121 : decode cX9_goLine 121 = .ok (.iconst 5, 1) := by decide +kernel
theorem dX9_goLine_122 : decode cX9_goLine 122 = .ok (.iadd, 1) := by decide +kernel
theorem dX9_goLine_123 : decode cX9_goLine 123 = .ok (.dup2, 1) := by decide +kernel
theorem dX9_goLine_124 : decode cX9_goLine 124 = .ok (.iaload, 1) := by decide +kernel
theorem dX9_goLine_125 : decode cX9_goLine 125 = .ok (.iconst 1, 1) := by decide +kernel
theorem dX9_goLine_126 : decode cX9_goLine 126 = .ok (.iadd, 1) := by decide +kernel
theorem dX9_goLine_127 : decode cX9_goLine 127 = .ok (.iastore, 1) := by decide +kernel
theorem dX9_goLine_128 : decode cX9_goLine 128 = .ok (.aload_n 0, 1) := by decide +kernel
theorem dX9_goLine_129 : decode cX9_goLine 129 = .ok (.bipush 6, 2) := by decide +kernel
theorem dX9_goLine_131 : decode cX9_goLine 131 = .ok (.bipush (-5), 2) := by decide +kernel
theorem dX9_goLine_133 : decode cX9_goLine 133 = .ok (.iload_n 1, 1) := by decide +kernel
theorem dX9_goLine_134 : decode cX9_goLine 134 = .ok (.bipush (-5), 2) := by decide +kernel
theorem dX9_goLine_136 : decode cX9_goLine 136 = .ok (.invokevirtual 67, 3) := by decide +kernel
theorem dX9_goLine_139 : decode cX9_goLine 139 = .ok (.goto 33, 3) := by decide +kernel
theorem dX9_goLine_142 : decode cX9_goLine 142 = .ok (.iload 4, 2) := by decide +kernel
theorem dX9_goLine_144 : decode cX9_goLine 144 = .ok (.iconst 2, 1) := by decide +kernel
theorem dX9_goLine_145 : decode cX9_goLine 145 = .ok (.if_icmp .ne 27, 3) := by decide +kernel
theorem dX9_goLine_148 : decode cX9_goLine 148 = .ok (.aload_n 0, 1) := by decide +kernel
theorem dX9_goLine_149 : decode cX9_goLine 149 = .ok (.getfield 7, 3) := by decide +kernel
theorem dX9_goLine_152 : decode cX9_goLine 152 = .ok (.iload_n 2, 1) := by decide +kernel
theorem dX9_goLine_153 : decode cX9_goLine 153 = .ok (.bipush 6, 2) := by decide +kernel
theorem dX9_goLine_155 : decode cX9_goLine 155 = .ok (.iadd, 1) := by decide +kernel
theorem dX9_goLine_156 : decode cX9_goLine 156 = .ok (.dup2, 1) := by decide +kernel
theorem dX9_goLine_157 : decode cX9_goLine 157 = .ok (.iaload, 1) := by decide +kernel
theorem dX9_goLine_158 : decode cX9_goLine 158 = .ok (.iconst 1, 1) := by decide +kernel
theorem dX9_goLine_159 : decode cX9_goLine 159 = .ok (.iadd, 1) := by decide +kernel
theorem dX9_goLine_160 : decode cX9_goLine 160 = .ok (.iastore, 1) := by decide +kernel
theorem dX9_goLine_161 : decode cX9_goLine 161 = .ok (.aload_n 0, 1) := by decide +kernel
theorem dX9_goLine_162 : decode cX9_goLine 162 = .ok (.bipush 7, 2) := by decide +kernel
theorem dX9_goLine_164 : decode cX9_goLine 164 = .ok (.bipush (-5), 2) := by decide +kernel
theorem dX9_goLine_166 : decode cX9_goLine 166 = .ok (.iload_n 1, 1) := by decide +kernel
theorem dX9_goLine_167 : decode cX9_goLine 167 = .ok (.bipush (-5), 2) := by decide +kernel
theorem dX9_goLine_169 : decode cX9_goLine 169 = .ok (.invokevirtual 67, 3) := by decide +kernel
theorem dX9_goLine_172 : decode cX9_goLine 172 = .ok (.return_, 1) := by decide +kernel
set_option maxRecDepth 20000 in
theorem ggX9_goTick_X9_goOrders : GoodIn wsX9_goTick wsX9_goOrders := goodIn_r _ [6, 1, 7, 8, 9, 5, 10, 11, 12, 13, 14, 15, 16, 17, 18, 19, 20, 21, 22, 99, 100, 101, 102, 103, 104, 105, 106, 107, 108, 109, 110, 111, 112, 113] (by decide +kernel) (by decide +kernel)
set_option maxRecDepth 20000 in
theorem gX9_goTick_X9_goOrders : GoodIn wsX9_goTick (wsV RX9 112 RX9 yX9_goOrders wsX9_goOrders) := goodIn_app (goodIn_of _ (by decide +kernel)) ggX9_goTick_X9_goOrders
set_option maxRecDepth 20000 in
theorem ggX9_goTick_X9_ofLine : GoodIn wsX9_goTick wsX9_ofLine := goodIn_r _ [26, 1, 99, 100, 101, 102, 103, 104, 105, 106, 107, 108, 109, 110, 111, 112, 113] (by decide +kernel) (by decide +kernel)
set_option maxRecDepth 20000 in
theorem gX9_goTick_X9_ofLine : GoodIn wsX9_goTick (wsV RX9 37 RX9 yX9_ofLine wsX9_ofLine) := goodIn_app (goodIn_of _ (by decide +kernel)) ggX9_goTick_X9_ofLine
set_option maxRecDepth 20000 in
theorem ggX9_goTick_X9_goStation : GoodIn wsX9_goTick wsX9_goStation := goodIn_r _ [30, 1, 31, 32, 33, 5, 34, 23, 24, 25, 26, 35, 36, 37, 38, 39, 40, 41, 42, 43, 44, 45, 46, 19, 20, 21, 22, 47, 48, 49, 50, 51, 52, 53, 54, 55, 56, 57, 58, 11, 12, 13, 14, 59, 60, 61, 62, 63, 64, 65, 66, 67, 68, 69, 70, 71, 72, 73, 74, 75, 76, 77, 78, 79, 80, 81, 82, 83, 84, 85, 86, 87, 88, 89, 90, 91, 92, 93, 94, 99, 100, 101, 102, 103, 104, 105, 106, 107, 108, 109, 110, 111, 112, 113] (by decide +kernel) (by decide +kernel)
set_option maxRecDepth 20000 in
theorem gX9_goTick_X9_goStation : GoodIn wsX9_goTick (wsV RX9 115 RX9 yX9_goStation wsX9_goStation) := goodIn_app (goodIn_of _ (by decide +kernel)) ggX9_goTick_X9_goStation
set_option maxRecDepth 20000 in
theorem ggX9_goTick_X9_goLine : GoodIn wsX9_goTick wsX9_goLine := goodIn_r _ [98, 1, 59, 60, 61, 5, 62, 99, 100, 101, 102, 103, 104, 105, 106, 107, 108, 109, 110, 111, 112, 113] (by decide +kernel) (by decide +kernel)
set_option maxRecDepth 20000 in
theorem gX9_goTick_X9_goLine : GoodIn wsX9_goTick (wsV RX9 118 RX9 yX9_goLine wsX9_goLine) := goodIn_app (goodIn_of _ (by decide +kernel)) ggX9_goTick_X9_goLine
theorem dX9_goTick_0 : decode cX9_goTick 0 = .ok (.aload_n 0, 1) := by decide +kernel
theorem dX9_goTick_1 : decode cX9_goTick 1 = .ok (.invokevirtual 112, 3) := by decide +kernel
theorem dX9_goTick_4 : decode cX9_goTick 4 = .ok (.iconst 0, 1) := by decide +kernel
theorem dX9_goTick_5 : decode cX9_goTick 5 = .ok (.istore_n 1, 1) := by decide +kernel
theorem dX9_goTick_6 : decode cX9_goTick 6 = .ok (.iload_n 1, 1) := by decide +kernel
theorem dX9_goTick_7 : decode cX9_goTick 7 = .ok (.iconst 2, 1) := by decide +kernel
theorem dX9_goTick_8 : decode cX9_goTick 8 = .ok (.if_icmp .ge 37, 3) := by decide +kernel
theorem dX9_goTick_11 : decode cX9_goTick 11 = .ok (.iconst 0, 1) := by decide +kernel
theorem dX9_goTick_12 : decode cX9_goTick 12 = .ok (.istore_n 2, 1) := by decide +kernel
theorem dX9_goTick_13 : decode cX9_goTick 13 = .ok (.iload_n 2, 1) := by decide +kernel
theorem dX9_goTick_14 : decode cX9_goTick 14 = .ok (.aload_n 0, 1) := by decide +kernel
theorem dX9_goTick_15 : decode cX9_goTick 15 = .ok (.iload_n 1, 1) := by decide +kernel
theorem dX9_goTick_16 : decode cX9_goTick 16 = .ok (.iconst 4, 1) := by decide +kernel
theorem dX9_goTick_17 : decode cX9_goTick 17 = .ok (.invokevirtual 37, 3) := by decide +kernel
theorem dX9_goTick_20 : decode cX9_goTick 20 = .ok (.if_icmp .ge 19, 3) := by decide +kernel
theorem dX9_goTick_23 : decode cX9_goTick 23 = .ok (.aload_n 0, 1) := by decide +kernel
theorem dX9_goTick_24 : decode cX9_goTick 24 = .ok (.bipush 10, 2) := by decide +kernel
theorem dX9_goTick_26 : decode cX9_goTick 26 = .ok (.iload_n 1, 1) := by decide +kernel
theorem dX9_goTick_27 : decode cX9_goTick 27 = .ok (.imul, 1) := by decide +kernel
theorem dX9_goTick_28 : decode cX9_goTick 28 = .ok (.iload_n 2, 1) := by decide +kernel
theorem dX9_goTick_29 : decode cX9_goTick 29 = .ok (.iadd, 1) := by decide +kernel
theorem dX9_goTick_30 : decode cX9_goTick 30 = .ok (.invokevirtual 115, 3) := by decide +kernel
theorem dX9_goTick_33 : decode cX9_goTick 33 = .ok (.iinc 2 1, 3) := by decide +kernel
theorem dX9_goTick_36 : decode cX9_goTick 36 = .ok (.goto (-23), 3) := by decide +kernel
theorem dX9_goTick_39 : decode cX9_goTick 39 = .ok (.iinc 1 1, 3) := by decide +kernel
theorem dX9_goTick_42 : decode cX9_goTick 42 = .ok (.goto (-36), 3) := by decide +kernel
theorem dX9_goTick_45 : decode cX9_goTick 45 = .ok (.aload_n 0, 1) := by decide +kernel
theorem dX9_goTick_46 : decode cX9_goTick 46 = .ok (.iconst 0, 1) := by decide +kernel
theorem dX9_goTick_47 : decode cX9_goTick 47 = .ok (.invokevirtual 118, 3) := by decide +kernel
theorem dX9_goTick_50 : decode cX9_goTick 50 = .ok (.aload_n 0, 1) := by decide +kernel
theorem dX9_goTick_51 : decode cX9_goTick 51 = .ok (.iconst 1, 1) := by decide +kernel
theorem dX9_goTick_52 : decode cX9_goTick 52 = .ok (.invokevirtual 118, 3) := by decide +kernel
theorem dX9_goTick_55 : decode cX9_goTick 55 = .ok (.aload_n 0, 1) := by decide +kernel
theorem dX9_goTick_56 : decode cX9_goTick 56 = .ok (.getfield 7, 3) := by decide +kernel
theorem dX9_goTick_59 : decode cX9_goTick 59 = .ok (.iconst 0, 1) := by decide +kernel
theorem dX9_goTick_60 : decode cX9_goTick 60 = .ok (.dup2, 1) := by decide +kernel
theorem dX9_goTick_61 : decode cX9_goTick 61 = .ok (.iaload, 1) := by decide +kernel
theorem dX9_goTick_62 : decode cX9_goTick 62 = .ok (.iconst 1, 1) := by decide +kernel
theorem dX9_goTick_63 : decode cX9_goTick 63 = .ok (.iadd, 1) := by decide +kernel
theorem dX9_goTick_64 : decode cX9_goTick 64 = .ok (.iastore, 1) := by decide +kernel
theorem dX9_goTick_65 : decode cX9_goTick 65 = .ok (.return_, 1) := by decide +kernel
set_option maxRecDepth 20000 in
theorem ggX9_build_X9_isLine : GoodIn wsX9_build wsX9_isLine := goodIn_r _ [5, 6, 7, 4, 8] (by decide +kernel) (by decide +kernel)
set_option maxRecDepth 20000 in
theorem gX9_build_X9_isLine : GoodIn wsX9_build (va_wsS RX9 121 yX9_isLine wsX9_isLine) := goodIn_app (goodIn_of _ (by decide +kernel)) ggX9_build_X9_isLine
set_option maxRecDepth 20000 in
theorem ggX9_build_X9_in : GoodIn wsX9_build wsX9_in := goodIn_r _ [8] (by decide +kernel) (by decide +kernel)
set_option maxRecDepth 20000 in
theorem gX9_build_X9_in : GoodIn wsX9_build (va_wsS RX9 33 yX9_in wsX9_in) := goodIn_app (goodIn_of _ (by decide +kernel)) ggX9_build_X9_in
set_option maxRecDepth 20000 in
theorem ggX9_build_X9_on : GoodIn wsX9_build wsX9_on := goodIn_r _ [12, 1, 13, 14, 15, 4, 16, 30, 31, 32, 33, 34, 35, 36, 37, 38, 39, 40, 41, 42, 43, 44] (by decide +kernel) (by decide +kernel)
set_option maxRecDepth 20000 in
theorem gX9_build_X9_on : GoodIn wsX9_build (wsV RX9 91 RX9 yX9_on wsX9_on) := goodIn_app (goodIn_of _ (by decide +kernel)) ggX9_build_X9_on
set_option maxRecDepth 20000 in
theorem ggX9_build_X9_ofLine : GoodIn wsX9_build wsX9_ofLine := goodIn_r _ [20, 1, 30, 31, 32, 33, 34, 35, 36, 37, 38, 39, 40, 41, 42, 43, 44] (by decide +kernel) (by decide +kernel)
set_option maxRecDepth 20000 in
theorem gX9_build_X9_ofLine : GoodIn wsX9_build (wsV RX9 37 RX9 yX9_ofLine wsX9_ofLine) := goodIn_app (goodIn_of _ (by decide +kernel)) ggX9_build_X9_ofLine
set_option maxRecDepth 20000 in
theorem ggX9_build_X9_stationAt : GoodIn wsX9_build wsX9_stationAt := goodIn_r _ [23] (by decide +kernel) (by decide +kernel)
set_option maxRecDepth 20000 in
theorem gX9_build_X9_stationAt : GoodIn wsX9_build (va_wsS RX9 42 yX9_stationAt wsX9_stationAt) := goodIn_app (goodIn_of _ (by decide +kernel)) ggX9_build_X9_stationAt
set_option maxRecDepth 20000 in
theorem ggX9_build_X9_records : GoodIn wsX9_build wsX9_records := goodIn_r _ [27, 28, 29, 1, 30, 31, 32, 33, 34, 35, 36, 37, 38, 39, 40, 41, 42, 43, 44] (by decide +kernel) (by decide +kernel)
set_option maxRecDepth 20000 in
theorem gX9_build_X9_records : GoodIn wsX9_build (wsV RX9 125 RX9 yX9_records wsX9_records) := goodIn_app (goodIn_of _ (by decide +kernel)) ggX9_build_X9_records
theorem dX9_build_0 : decode cX9_build 0 = .ok (.iload_n 1, 1) := by decide +kernel
theorem dX9_build_1 : decode cX9_build 1 = .ok (.invokestatic 121, 3) := by decide +kernel
theorem dX9_build_4 : decode cX9_build 4 = .ok (.ifCond .ne 5, 3) := by decide +kernel
theorem dX9_build_7 : decode cX9_build 7 = .ok (.iconst (-1), 1) := by decide +kernel
theorem dX9_build_8 : decode cX9_build 8 = .ok (.ireturn, 1) := by decide +kernel
theorem dX9_build_9 : decode cX9_build 9 = .ok (.iload_n 2, 1) := by decide +kernel
theorem dX9_build_10 : decode cX9_build 10 = .ok (.iconst 2, 1) := by decide +kernel
theorem dX9_build_11 : decode cX9_build 11 = .ok (.bipush 24, 2) := by decide +kernel
theorem dX9_build_13 : decode cX9_build 13 = .ok (.invokestatic 33, 3) := by decide +kernel
theorem dX9_build_16 : decode cX9_build 16 = .ok (.ifCond .ne 6, 3) := by decide +kernel
theorem dX9_build_19 : decode cX9_build 19 = .ok (.bipush (-2), 2) := by decide +kernel
theorem dX9_build_21 : decode cX9_build 21 = .ok (.ireturn, 1) := by decide +kernel
theorem dX9_build_22 : decode cX9_build 22 = .ok (.aload_n 0, 1) := by decide +kernel
theorem dX9_build_23 : decode cX9_build 23 = .ok (.iload_n 1, 1) := by decide +kernel
theorem dX9_build_24 : decode cX9_build 24 = .ok (.iconst 1, 1) := by decide +kernel
theorem dX9_build_25 : decode cX9_build 25 = .ok (.invokevirtual 91, 3) := by decide +kernel
theorem dX9_build_28 : decode cX9_build 28 = .ok (.ifCond .ne 7, 3) := by decide +kernel
theorem dX9_build_31 : decode cX9_build 31 = .ok (.iconst 1, 1) := by decide +kernel
theorem dX9_build_32 : decode cX9_build 32 = .ok (.goto 4, 3) := by decide +kernel
theorem dX9_build_35 : decode cX9_build 35 = .ok (.iconst 0, 1) := by decide +kernel
theorem dX9_build_36 : decode cX9_build 36 = .ok (.istore_n 3, 1) := by decide +kernel
theorem dX9_build_37 : decode cX9_build 37 = .ok (.iconst 0, 1) := by decide +kernel
theorem dX9_build_38 : decode cX9_build 38 = .ok (.istore 4, 2) := by decide +kernel
theorem dX9_build_40 : decode cX9_build 40 = .ok (.iload 4, 2) := by decide +kernel
theorem dX9_build_42 : decode cX9_build 42 = .ok (.aload_n 0, 1) := by decide +kernel
theorem dX9_build_43 : decode cX9_build 43 = .ok (.iload_n 1, 1) := by decide +kernel
theorem dX9_build_44 : decode cX9_build 44 = .ok (.iconst 4, 1) := by decide +kernel
theorem dX9_build_45 : decode cX9_build 45 = .ok (.invokevirtual 37, 3) := by decide +kernel
theorem dX9_build_48 : decode cX9_build 48 = .ok (.if_icmp .ge 40, 3) := by decide +kernel
theorem dX9_build_51 : decode cX9_build 51 = .ok (.iload_n 3, 1) := by decide +kernel
theorem dX9_build_52 : decode cX9_build 52 = .ok (.ifCond .eq 28, 3) := by decide +kernel
theorem dX9_build_55 : decode cX9_build 55 = .ok (.aload_n 0, 1) := by decide +kernel
theorem dX9_build_56 : decode cX9_build 56 = .ok (.getfield 7, 3) := by decide +kernel
theorem dX9_build_59 : decode cX9_build 59 = .ok (.bipush 10, 2) := by decide +kernel
theorem dX9_build_61 : decode cX9_build 61 = .ok (.iload_n 1, 1) := by decide +kernel
theorem dX9_build_62 : decode cX9_build 62 = .ok (.imul, 1) := by decide +kernel
theorem dX9_build_63 : decode cX9_build 63 = .ok (.iload 4, 2) := by decide +kernel
theorem dX9_build_65 : decode cX9_build 65 = .ok (.iadd, 1) := by decide +kernel
theorem dX9_build_66 : decode cX9_build 66 = .ok (.invokestatic 42, 3) := by decide +kernel
theorem dX9_build_69 : decode cX9_build 69 = .ok (.iconst 0, 1) := by decide +kernel
theorem dX9_build_70 : decode cX9_build 70 = .ok (.iadd, 1) := by decide +kernel
theorem dX9_build_71 : decode cX9_build 71 = .ok (.iaload, 1) := by decide +kernel
theorem dX9_build_72 : decode cX9_build 72 = .ok (.iload_n 2, 1) := by decide +kernel
theorem dX9_build_73 : decode cX9_build 73 = .ok (.if_icmp .ge 7, 3) := by decide +kernel
theorem dX9_build_76 : decode cX9_build 76 = .ok (.iconst 1, 1) := by decide +kernel
theorem dX9_build_77 : decode cX9_build 77 = .ok (.goto 4, 3) := by decide +kernel
theorem dX9_build_80 : decode cX9_build 80 = .ok (.iconst 0, 1) := by decide +kernel
theorem dX9_build_81 : decode cX9_build 81 = .ok (.istore_n 3, 1) := by decide +kernel
theorem dX9_build_82 : decode cX9_build 82 = .ok (.iinc 4 1, 3) := by decide +kernel
theorem dX9_build_85 : decode cX9_build 85 = .ok (.goto (-45), 3) := by decide +kernel
theorem dX9_build_88 : decode cX9_build 88 = .ok (.iload_n 3, 1) := by decide +kernel
theorem dX9_build_89 : decode cX9_build 89 = .ok (.ifCond .ne 6, 3) := by decide +kernel
theorem dX9_build_92 : decode cX9_build 92 = .ok (.bipush (-4), 2) := by decide +kernel
theorem dX9_build_94 : decode cX9_build 94 = .ok (.ireturn, 1) := by decide +kernel
theorem dX9_build_95 : decode cX9_build 95 = .ok (.aload_n 0, 1) := by decide +kernel
theorem dX9_build_96 : decode cX9_build 96 = .ok (.iload_n 1, 1) := by decide +kernel
theorem dX9_build_97 : decode cX9_build 97 = .ok (.iconst 0, 1) := by decide +kernel
theorem dX9_build_98 : decode cX9_build 98 = .ok (.invokevirtual 37, 3) := by decide +kernel
theorem dX9_build_101 : decode cX9_build 101 = .ok (.istore 4, 2) := by decide +kernel
theorem dX9_build_103 : decode cX9_build 103 = .ok (.iload 4, 2) := by decide +kernel
theorem dX9_build_105 : decode cX9_build 105 = .ok (.iload_n 2, 1) := by decide +kernel
theorem dX9_build_106 : decode cX9_build 106 = .ok (.if_icmp .ne 6, 3) := by decide +kernel
theorem dX9_build_109 : decode cX9_build 109 = .ok (.bipush (-5), 2) := by decide +kernel
theorem dX9_build_111 : decode cX9_build 111 = .ok (.ireturn, 1) := by decide +kernel
theorem dX9_build_112 : decode cX9_build 112 = .ok (.aload_n 0, 1) := by decide +kernel
theorem dX9_build_113 : decode cX9_build 113 = .ok (.invokevirtual 125, 3) := by decide +kernel
theorem dX9_build_116 : decode cX9_build 116 = .ok (.aload_n 0, 1) := by decide +kernel
theorem dX9_build_117 : decode cX9_build 117 = .ok (.getfield 7, 3) := by decide +kernel
theorem dX9_build_120 : decode cX9_build 120 = .ok (.bipush 10, 2) := by decide +kernel
theorem dX9_build_122 : decode cX9_build 122 = .ok (.bipush 8, 2) := by decide +kernel
theorem dX9_build_124 : decode cX9_build 124 = .ok (.iload_n 1, 1) := by decide +kernel
theorem dX9_build_125 : decode cX9_build 125 = .ok (.imul, 1) := by decide +kernel
theorem dX9_build_126 : decode cX9_build 126 = .ok (.iadd, 1) := by decide +kernel
theorem dX9_build_127 : decode cX9_build 127 = .ok (.iconst 0, 1) := by decide +kernel
theorem dX9_build_128 : decode cX9_build 128 = .ok (.iadd, 1) := by decide +kernel
theorem dX9_build_129 : decode cX9_build 129 = .ok (.iload_n 2, 1) := by decide +kernel
theorem dX9_build_130 : decode cX9_build 130 = .ok (.iastore, 1) := by decide +kernel
theorem dX9_build_131 : decode cX9_build 131 = .ok (.aload_n 0, 1) := by decide +kernel
theorem dX9_build_132 : decode cX9_build 132 = .ok (.getfield 7, 3) := by decide +kernel
theorem dX9_build_135 : decode cX9_build 135 = .ok (.bipush 10, 2) := by decide +kernel
theorem dX9_build_137 : decode cX9_build 137 = .ok (.bipush 8, 2) := by decide +kernel
theorem dX9_build_139 : decode cX9_build 139 = .ok (.iload_n 1, 1) := by decide +kernel
theorem dX9_build_140 : decode cX9_build 140 = .ok (.imul, 1) := by decide +kernel
theorem dX9_build_141 : decode cX9_build 141 = .ok (.iadd, 1) := by decide +kernel
theorem dX9_build_142 : decode cX9_build 142 = .ok (.iconst 1, 1) := by decide +kernel
theorem dX9_build_143 : decode cX9_build 143 = .ok (.iadd, 1) := by decide +kernel
theorem dX9_build_144 : decode cX9_build 144 = .ok (.iconst 0, 1) := by decide +kernel
theorem dX9_build_145 : decode cX9_build 145 = .ok (.iastore, 1) := by decide +kernel
theorem dX9_build_146 : decode cX9_build 146 = .ok (.aload_n 0, 1) := by decide +kernel
theorem dX9_build_147 : decode cX9_build 147 = .ok (.getfield 7, 3) := by decide +kernel
theorem dX9_build_150 : decode cX9_build 150 = .ok (.bipush 10, 2) := by decide +kernel
theorem dX9_build_152 : decode cX9_build 152 = .ok (.bipush 8, 2) := by decide +kernel
theorem dX9_build_154 : decode cX9_build 154 = .ok (.iload_n 1, 1) := by decide +kernel
theorem dX9_build_155 : decode cX9_build 155 = .ok (.imul, 1) := by decide +kernel
theorem dX9_build_156 : decode cX9_build 156 = .ok (.iadd, 1) := by decide +kernel
theorem dX9_build_157 : decode cX9_build 157 = .ok (.iconst 2, 1) := by decide +kernel
theorem dX9_build_158 : decode cX9_build 158 = .ok (.iadd, 1) := by decide +kernel
theorem dX9_build_159 : decode cX9_build 159 = .ok (.iconst 0, 1) := by decide +kernel
theorem dX9_build_160 : decode cX9_build 160 = .ok (.iastore, 1) := by decide +kernel
theorem dX9_build_161 : decode cX9_build 161 = .ok (.iload 4, 2) := by decide +kernel
theorem dX9_build_163 : decode cX9_build 163 = .ok (.ireturn, 1) := by decide +kernel
set_option maxRecDepth 20000 in
theorem ggX9_addStation_X9_isLine : GoodIn wsX9_addStation wsX9_isLine := goodIn_r _ [5, 6, 7, 4, 8] (by decide +kernel) (by decide +kernel)
set_option maxRecDepth 20000 in
theorem gX9_addStation_X9_isLine : GoodIn wsX9_addStation (va_wsS RX9 121 yX9_isLine wsX9_isLine) := goodIn_app (goodIn_of _ (by decide +kernel)) ggX9_addStation_X9_isLine
set_option maxRecDepth 20000 in
theorem ggX9_addStation_X9_ofLine : GoodIn wsX9_addStation wsX9_ofLine := goodIn_r _ [12, 1, 22, 23, 24, 25, 26, 27, 28, 29, 30, 31, 32, 33, 34, 35, 36] (by decide +kernel) (by decide +kernel)
set_option maxRecDepth 20000 in
theorem gX9_addStation_X9_ofLine : GoodIn wsX9_addStation (wsV RX9 37 RX9 yX9_ofLine wsX9_ofLine) := goodIn_app (goodIn_of _ (by decide +kernel)) ggX9_addStation_X9_ofLine
set_option maxRecDepth 20000 in
theorem ggX9_addStation_X9_in : GoodIn wsX9_addStation wsX9_in := goodIn_r _ [8] (by decide +kernel) (by decide +kernel)
set_option maxRecDepth 20000 in
theorem gX9_addStation_X9_in : GoodIn wsX9_addStation (va_wsS RX9 33 yX9_in wsX9_in) := goodIn_app (goodIn_of _ (by decide +kernel)) ggX9_addStation_X9_in
set_option maxRecDepth 20000 in
theorem ggX9_addStation_X9_stationAt : GoodIn wsX9_addStation wsX9_stationAt := goodIn_r _ [15] (by decide +kernel) (by decide +kernel)
set_option maxRecDepth 20000 in
theorem gX9_addStation_X9_stationAt : GoodIn wsX9_addStation (va_wsS RX9 42 yX9_stationAt wsX9_stationAt) := goodIn_app (goodIn_of _ (by decide +kernel)) ggX9_addStation_X9_stationAt
set_option maxRecDepth 20000 in
theorem ggX9_addStation_X9_records : GoodIn wsX9_addStation wsX9_records := goodIn_r _ [19, 20, 21, 1, 22, 23, 24, 25, 26, 27, 28, 29, 30, 31, 32, 33, 34, 35, 36] (by decide +kernel) (by decide +kernel)
set_option maxRecDepth 20000 in
theorem gX9_addStation_X9_records : GoodIn wsX9_addStation (wsV RX9 125 RX9 yX9_records wsX9_records) := goodIn_app (goodIn_of _ (by decide +kernel)) ggX9_addStation_X9_records
theorem dX9_addStation_0 : decode cX9_addStation 0 = .ok (.iload_n 1, 1) := by decide +kernel
theorem dX9_addStation_1 : decode cX9_addStation 1 = .ok (.invokestatic 121, 3) := by decide +kernel
theorem dX9_addStation_4 : decode cX9_addStation 4 = .ok (.ifCond .ne 5, 3) := by decide +kernel
theorem dX9_addStation_7 : decode cX9_addStation 7 = .ok (.iconst (-1), 1) := by decide +kernel
theorem dX9_addStation_8 : decode cX9_addStation 8 = .ok (.ireturn, 1) := by decide +kernel
theorem dX9_addStation_9 : decode cX9_addStation 9 = .ok (.iload_n 2, 1) := by decide +kernel
theorem dX9_addStation_10 : decode cX9_addStation 10 = .ok (.iconst 0, 1) := by decide +kernel
theorem dX9_addStation_11 : decode cX9_addStation 11 = .ok (.aload_n 0, 1) := by decide +kernel
theorem dX9_addStation_12 : decode cX9_addStation 12 = .ok (.iload_n 1, 1) := by decide +kernel
theorem dX9_addStation_13 : decode cX9_addStation 13 = .ok (.iconst 0, 1) := by decide +kernel
theorem dX9_addStation_14 : decode cX9_addStation 14 = .ok (.invokevirtual 37, 3) := by decide +kernel
theorem dX9_addStation_17 : decode cX9_addStation 17 = .ok (.iconst 1, 1) := by decide +kernel
theorem dX9_addStation_18 : decode cX9_addStation 18 = .ok (.isub, 1) := by decide +kernel
theorem dX9_addStation_19 : decode cX9_addStation 19 = .ok (.invokestatic 33, 3) := by decide +kernel
theorem dX9_addStation_22 : decode cX9_addStation 22 = .ok (.ifCond .ne 6, 3) := by decide +kernel
theorem dX9_addStation_25 : decode cX9_addStation 25 = .ok (.bipush (-2), 2) := by decide +kernel
theorem dX9_addStation_27 : decode cX9_addStation 27 = .ok (.ireturn, 1) := by decide +kernel
theorem dX9_addStation_28 : decode cX9_addStation 28 = .ok (.aload_n 0, 1) := by decide +kernel
theorem dX9_addStation_29 : decode cX9_addStation 29 = .ok (.iload_n 1, 1) := by decide +kernel
theorem dX9_addStation_30 : decode cX9_addStation 30 = .ok (.iconst 4, 1) := by decide +kernel
theorem dX9_addStation_31 : decode cX9_addStation 31 = .ok (.invokevirtual 37, 3) := by decide +kernel
theorem dX9_addStation_34 : decode cX9_addStation 34 = .ok (.istore_n 3, 1) := by decide +kernel
theorem dX9_addStation_35 : decode cX9_addStation 35 = .ok (.iconst 0, 1) := by decide +kernel
theorem dX9_addStation_36 : decode cX9_addStation 36 = .ok (.istore 4, 2) := by decide +kernel
theorem dX9_addStation_38 : decode cX9_addStation 38 = .ok (.iload 4, 2) := by decide +kernel
theorem dX9_addStation_40 : decode cX9_addStation 40 = .ok (.iload_n 3, 1) := by decide +kernel
theorem dX9_addStation_41 : decode cX9_addStation 41 = .ok (.if_icmp .ge 33, 3) := by decide +kernel
theorem dX9_addStation_44 : decode cX9_addStation 44 = .ok (.aload_n 0, 1) := by decide +kernel
theorem dX9_addStation_45 : decode cX9_addStation 45 = .ok (.getfield 7, 3) := by decide +kernel
theorem dX9_addStation_48 : decode cX9_addStation 48 = .ok (.bipush 10, 2) := by decide +kernel
theorem dX9_addStation_50 : decode cX9_addStation 50 = .ok (.iload_n 1, 1) := by decide +kernel
theorem dX9_addStation_51 : decode cX9_addStation 51 = .ok (.imul, 1) := by decide +kernel
theorem dX9_addStation_52 : decode cX9_addStation 52 = .ok (.iload 4, 2) := by decide +kernel
theorem dX9_addStation_54 : decode cX9_addStation 54 = .ok (.iadd, 1) := by decide +kernel
theorem dX9_addStation_55 : decode cX9_addStation 55 = .ok (.invokestatic 42, 3) := by decide +kernel
theorem dX9_addStation_58 : decode cX9_addStation 58 = .ok (.iconst 0, 1) := by decide +kernel
theorem dX9_addStation_59 : decode cX9_addStation 59 = .ok (.iadd, 1) := by decide +kernel
theorem dX9_addStation_60 : decode cX9_addStation 60 = .ok (.iaload, 1) := by decide +kernel
theorem dX9_addStation_61 : decode cX9_addStation 61 = .ok (.iload_n 2, 1) := by decide +kernel
theorem dX9_addStation_62 : decode cX9_addStation 62 = .ok (.if_icmp .ne 6, 3) := by decide +kernel
theorem dX9_addStation_65 : decode cX9_addStation 65 = .ok (.bipush (-4), 2) := by decide +kernel
theorem dX9_addStation_67 : decode cX9_addStation 67 = .ok (.ireturn, 1) := by decide +kernel
theorem dX9_addStation_68 : decode cX9_addStation 68 = .ok (.iinc 4 1, 3) := by decide +kernel
theorem dX9_addStation_71 : decode cX9_addStation 71 = .ok (.goto (-33), 3) := by decide +kernel
theorem dX9_addStation_74 : decode cX9_addStation 74 = .ok (.iload_n 3, 1) := by decide +kernel
theorem dX9_addStation_75 : decode cX9_addStation 75 = .ok (.bipush 6, 2) := by decide +kernel
theorem dX9_addStation_77 : decode cX9_addStation 77 = .ok (.if_icmp .ne 6, 3) := by decide +kernel
theorem dX9_addStation_80 : decode cX9_addStation 80 = .ok (.bipush (-3), 2) := by decide +kernel
theorem dX9_addStation_82 : decode cX9_addStation 82 = .ok (.ireturn, 1) := by decide +kernel
theorem dX9_addStation_83 : decode cX9_addStation 83 = .ok (.aload_n 0, 1) := by decide +kernel
theorem dX9_addStation_84 : decode cX9_addStation 84 = .ok (.invokevirtual 125, 3) := by decide +kernel
theorem dX9_addStation_87 : decode cX9_addStation 87 = .ok (.bipush 10, 2) := by decide +kernel
theorem dX9_addStation_89 : decode cX9_addStation 89 = .ok (.iload_n 1, 1) := by decide +kernel
theorem dX9_addStation_90 : decode cX9_addStation 90 = .ok (.imul, 1) := by decide +kernel
theorem dX9_addStation_91 : decode cX9_addStation 91 = .ok (.iload_n 3, 1) := by decide +kernel
theorem dX9_addStation_92 : decode cX9_addStation 92 = .ok (.iadd, 1) := by decide +kernel
theorem dX9_addStation_93 : decode cX9_addStation 93 = .ok (.invokestatic 42, 3) := by decide +kernel
theorem dX9_addStation_96 : decode cX9_addStation 96 = .ok (.istore 4, 2) := by decide +kernel
theorem dX9_addStation_98 : decode cX9_addStation 98 = .ok (.iconst 0, 1) := by decide +kernel
theorem dX9_addStation_99 : decode cX9_addStation 99 = .ok (.istore 5, 2) := by decide +kernel
theorem dX9_addStation_101 : decode cX9_addStation 101 = .ok (.iload 5, 2) := by decide +kernel
theorem dX9_addStation_103 : decode cX9_addStation 103 = .ok (.bipush 10, 2) := by decide +kernel
theorem dX9_addStation_105 : decode cX9_addStation 105 = .ok (.if_icmp .ge 20, 3) := by decide +kernel
theorem dX9_addStation_108 : decode cX9_addStation 108 = .ok (.aload_n 0, 1) := by decide +kernel
theorem dX9_addStation_109 : decode cX9_addStation 109 = .ok (.getfield 7, 3) := by decide +kernel
theorem dX9_addStation_112 : decode cX9_addStation 112 = .ok (.iload 4, 2) := by decide +kernel
theorem dX9_addStation_114 : decode cX9_addStation 114 = .ok (.iload 5, 2) := by decide +kernel
theorem dX9_addStation_116 : decode cX9_addStation 116 = .ok (.iadd, 1) := by decide +kernel
theorem dX9_addStation_117 : decode cX9_addStation 117 = .ok (.iconst 0, 1) := by decide +kernel
theorem dX9_addStation_118 : decode cX9_addStation 118 = .ok (.iastore, 1) := by decide +kernel
theorem dX9_addStation_119 : decode cX9_addStation 119 = .ok (.iinc 5 1, 3) := by decide +kernel
theorem dX9_addStation_122 : decode cX9_addStation 122 = .ok (.goto (-21), 3) := by decide +kernel
theorem dX9_addStation_125 : decode cX9_addStation 125 = .ok (.aload_n 0, 1) := by decide +kernel
theorem dX9_addStation_126 : decode cX9_addStation 126 = .ok (.getfield 7, 3) := by decide +kernel
theorem dX9_addStation_129 : decode cX9_addStation 129 = .ok (.iload 4, 2) := by decide +kernel
theorem dX9_addStation_131 : decode cX9_addStation 131 = .ok (.iconst 0, 1) := by decide +kernel
theorem dX9_addStation_132 : decode cX9_addStation 132 = .ok (.iadd, 1) := by decide +kernel
theorem dX9_addStation_133 : decode cX9_addStation 133 = .ok (.iload_n 2, 1) := by decide +kernel
theorem dX9_addStation_134 : decode cX9_addStation 134 = .ok (.iastore, 1) := by decide +kernel
theorem dX9_addStation_135 : decode cX9_addStation 135 = .ok (.aload_n 0, 1) := by decide +kernel
theorem dX9_addStation_136 : decode cX9_addStation 136 = .ok (.getfield 7, 3) := by decide +kernel
theorem dX9_addStation_139 : decode cX9_addStation 139 = .ok (.bipush 10, 2) := by decide +kernel
theorem dX9_addStation_141 : decode cX9_addStation 141 = .ok (.bipush 8, 2) := by decide +kernel
theorem dX9_addStation_143 : decode cX9_addStation 143 = .ok (.iload_n 1, 1) := by decide +kernel
theorem dX9_addStation_144 : decode cX9_addStation 144 = .ok (.imul, 1) := by decide +kernel
theorem dX9_addStation_145 : decode cX9_addStation 145 = .ok (.iadd, 1) := by decide +kernel
theorem dX9_addStation_146 : decode cX9_addStation 146 = .ok (.iconst 4, 1) := by decide +kernel
theorem dX9_addStation_147 : decode cX9_addStation 147 = .ok (.iadd, 1) := by decide +kernel
theorem dX9_addStation_148 : decode cX9_addStation 148 = .ok (.dup2, 1) := by decide +kernel
theorem dX9_addStation_149 : decode cX9_addStation 149 = .ok (.iaload, 1) := by decide +kernel
theorem dX9_addStation_150 : decode cX9_addStation 150 = .ok (.iconst 1, 1) := by decide +kernel
theorem dX9_addStation_151 : decode cX9_addStation 151 = .ok (.iadd, 1) := by decide +kernel
theorem dX9_addStation_152 : decode cX9_addStation 152 = .ok (.iastore, 1) := by decide +kernel
theorem dX9_addStation_153 : decode cX9_addStation 153 = .ok (.iload_n 3, 1) := by decide +kernel
theorem dX9_addStation_154 : decode cX9_addStation 154 = .ok (.ireturn, 1) := by decide +kernel
set_option maxRecDepth 20000 in
theorem ggX9_setHeat_X9_isLine : GoodIn wsX9_setHeat wsX9_isLine := goodIn_r _ [5, 6, 7, 4, 8] (by decide +kernel) (by decide +kernel)
set_option maxRecDepth 20000 in
theorem gX9_setHeat_X9_isLine : GoodIn wsX9_setHeat (va_wsS RX9 121 yX9_isLine wsX9_isLine) := goodIn_app (goodIn_of _ (by decide +kernel)) ggX9_setHeat_X9_isLine
set_option maxRecDepth 20000 in
theorem ggX9_setHeat_X9_in : GoodIn wsX9_setHeat wsX9_in := goodIn_r _ [8] (by decide +kernel) (by decide +kernel)
set_option maxRecDepth 20000 in
theorem gX9_setHeat_X9_in : GoodIn wsX9_setHeat (va_wsS RX9 33 yX9_in wsX9_in) := goodIn_app (goodIn_of _ (by decide +kernel)) ggX9_setHeat_X9_in
set_option maxRecDepth 20000 in
theorem ggX9_setHeat_X9_ofLine : GoodIn wsX9_setHeat wsX9_ofLine := goodIn_r _ [12, 1, 19, 20, 21, 22, 23, 24, 25, 26, 27, 28, 29, 30, 31, 32, 33] (by decide +kernel) (by decide +kernel)
set_option maxRecDepth 20000 in
theorem gX9_setHeat_X9_ofLine : GoodIn wsX9_setHeat (wsV RX9 37 RX9 yX9_ofLine wsX9_ofLine) := goodIn_app (goodIn_of _ (by decide +kernel)) ggX9_setHeat_X9_ofLine
set_option maxRecDepth 20000 in
theorem ggX9_setHeat_X9_records : GoodIn wsX9_setHeat wsX9_records := goodIn_r _ [16, 17, 18, 1, 19, 20, 21, 22, 23, 24, 25, 26, 27, 28, 29, 30, 31, 32, 33] (by decide +kernel) (by decide +kernel)
set_option maxRecDepth 20000 in
theorem gX9_setHeat_X9_records : GoodIn wsX9_setHeat (wsV RX9 125 RX9 yX9_records wsX9_records) := goodIn_app (goodIn_of _ (by decide +kernel)) ggX9_setHeat_X9_records
theorem dX9_setHeat_0 : decode cX9_setHeat 0 = .ok (.iload_n 1, 1) := by decide +kernel
theorem dX9_setHeat_1 : decode cX9_setHeat 1 = .ok (.invokestatic 121, 3) := by decide +kernel
theorem dX9_setHeat_4 : decode cX9_setHeat 4 = .ok (.ifCond .ne 5, 3) := by decide +kernel
theorem dX9_setHeat_7 : decode cX9_setHeat 7 = .ok (.iconst (-1), 1) := by decide +kernel
theorem dX9_setHeat_8 : decode cX9_setHeat 8 = .ok (.ireturn, 1) := by decide +kernel
theorem dX9_setHeat_9 : decode cX9_setHeat 9 = .ok (.iload_n 2, 1) := by decide +kernel
theorem dX9_setHeat_10 : decode cX9_setHeat 10 = .ok (.bipush (-10), 2) := by decide +kernel
theorem dX9_setHeat_12 : decode cX9_setHeat 12 = .ok (.bipush 10, 2) := by decide +kernel
theorem dX9_setHeat_14 : decode cX9_setHeat 14 = .ok (.invokestatic 33, 3) := by decide +kernel
theorem dX9_setHeat_17 : decode cX9_setHeat 17 = .ok (.ifCond .ne 6, 3) := by decide +kernel
theorem dX9_setHeat_20 : decode cX9_setHeat 20 = .ok (.bipush (-2), 2) := by decide +kernel
theorem dX9_setHeat_22 : decode cX9_setHeat 22 = .ok (.ireturn, 1) := by decide +kernel
theorem dX9_setHeat_23 : decode cX9_setHeat 23 = .ok (.iload_n 2, 1) := by decide +kernel
theorem dX9_setHeat_24 : decode cX9_setHeat 24 = .ok (.aload_n 0, 1) := by decide +kernel
theorem dX9_setHeat_25 : decode cX9_setHeat 25 = .ok (.iload_n 1, 1) := by decide +kernel
theorem dX9_setHeat_26 : decode cX9_setHeat 26 = .ok (.iconst 3, 1) := by decide +kernel
theorem dX9_setHeat_27 : decode cX9_setHeat 27 = .ok (.invokevirtual 37, 3) := by decide +kernel
theorem dX9_setHeat_30 : decode cX9_setHeat 30 = .ok (.isub, 1) := by decide +kernel
theorem dX9_setHeat_31 : decode cX9_setHeat 31 = .ok (.istore_n 3, 1) := by decide +kernel
theorem dX9_setHeat_32 : decode cX9_setHeat 32 = .ok (.iload_n 3, 1) := by decide +kernel
theorem dX9_setHeat_33 : decode cX9_setHeat 33 = .ok (.ifCond .ne 6, 3) := by decide +kernel
theorem dX9_setHeat_36 : decode cX9_setHeat 36 = .ok (.bipush (-5), 2) := by decide +kernel
theorem dX9_setHeat_38 : decode cX9_setHeat 38 = .ok (.ireturn, 1) := by decide +kernel
theorem dX9_setHeat_39 : decode cX9_setHeat 39 = .ok (.aload_n 0, 1) := by decide +kernel
theorem dX9_setHeat_40 : decode cX9_setHeat 40 = .ok (.invokevirtual 125, 3) := by decide +kernel
theorem dX9_setHeat_43 : decode cX9_setHeat 43 = .ok (.aload_n 0, 1) := by decide +kernel
theorem dX9_setHeat_44 : decode cX9_setHeat 44 = .ok (.getfield 7, 3) := by decide +kernel
theorem dX9_setHeat_47 : decode cX9_setHeat 47 = .ok (.bipush 10, 2) := by decide +kernel
theorem dX9_setHeat_49 : decode cX9_setHeat 49 = .ok (.bipush 8, 2) := by decide +kernel
theorem dX9_setHeat_51 : decode cX9_setHeat 51 = .ok (.iload_n 1, 1) := by decide +kernel
theorem dX9_setHeat_52 : decode cX9_setHeat 52 = .ok (.imul, 1) := by decide +kernel
theorem dX9_setHeat_53 : decode cX9_setHeat 53 = .ok (.iadd, 1) := by decide +kernel
theorem dX9_setHeat_54 : decode cX9_setHeat 54 = .ok (.iconst 3, 1) := by decide +kernel
theorem dX9_setHeat_55 : decode cX9_setHeat 55 = .ok (.iadd, 1) := by decide +kernel
theorem dX9_setHeat_56 : decode cX9_setHeat 56 = .ok (.iload_n 2, 1) := by decide +kernel
theorem dX9_setHeat_57 : decode cX9_setHeat 57 = .ok (.iastore, 1) := by decide +kernel
theorem dX9_setHeat_58 : decode cX9_setHeat 58 = .ok (.iload_n 3, 1) := by decide +kernel
theorem dX9_setHeat_59 : decode cX9_setHeat 59 = .ok (.ifCond .ge 8, 3) := by decide +kernel
theorem dX9_setHeat_62 : decode cX9_setHeat 62 = .ok (.iload_n 3, 1) := by decide +kernel
theorem dX9_setHeat_63 : decode cX9_setHeat 63 = .ok (.ineg, 1) := by decide +kernel
theorem dX9_setHeat_64 : decode cX9_setHeat 64 = .ok (.goto 4, 3) := by decide +kernel
theorem dX9_setHeat_67 : decode cX9_setHeat 67 = .ok (.iload_n 3, 1) := by decide +kernel
theorem dX9_setHeat_68 : decode cX9_setHeat 68 = .ok (.ireturn, 1) := by decide +kernel
set_option maxRecDepth 20000 in
theorem ggX9_sets_X9_records : GoodIn wsX9_sets wsX9_records := goodIn_r _ [6, 7, 8, 1, 9, 10, 11, 12, 13, 14, 15, 16, 17, 18, 19, 20, 21, 22, 23] (by decide +kernel) (by decide +kernel)
set_option maxRecDepth 20000 in
theorem gX9_sets_X9_records : GoodIn wsX9_sets (wsV RX9 125 RX9 yX9_records wsX9_records) := goodIn_app (goodIn_of _ (by decide +kernel)) ggX9_sets_X9_records
theorem dX9_sets_0 : decode cX9_sets 0 = .ok (.aload_n 0, 1) := by decide +kernel
theorem dX9_sets_1 : decode cX9_sets 1 = .ok (.getfield 7, 3) := by decide +kernel
theorem dX9_sets_4 : decode cX9_sets 4 = .ok (.iload_n 1, 1) := by decide +kernel
theorem dX9_sets_5 : decode cX9_sets 5 = .ok (.iaload, 1) := by decide +kernel
theorem dX9_sets_6 : decode cX9_sets 6 = .ok (.istore_n 3, 1) := by decide +kernel
theorem dX9_sets_7 : decode cX9_sets 7 = .ok (.iload_n 3, 1) := by decide +kernel
theorem dX9_sets_8 : decode cX9_sets 8 = .ok (.iload_n 2, 1) := by decide +kernel
theorem dX9_sets_9 : decode cX9_sets 9 = .ok (.if_icmp .ne 6, 3) := by decide +kernel
theorem dX9_sets_12 : decode cX9_sets 12 = .ok (.bipush (-5), 2) := by decide +kernel
theorem dX9_sets_14 : decode cX9_sets 14 = .ok (.ireturn, 1) := by decide +kernel
theorem dX9_sets_15 : decode cX9_sets 15 = .ok (.aload_n 0, 1) := by decide +kernel
theorem dX9_sets_16 : decode cX9_sets 16 = .ok (.invokevirtual 125, 3) := by decide +kernel
theorem dX9_sets_19 : decode cX9_sets 19 = .ok (.aload_n 0, 1) := by decide +kernel
theorem dX9_sets_20 : decode cX9_sets 20 = .ok (.getfield 7, 3) := by decide +kernel
theorem dX9_sets_23 : decode cX9_sets 23 = .ok (.iload_n 1, 1) := by decide +kernel
theorem dX9_sets_24 : decode cX9_sets 24 = .ok (.iload_n 2, 1) := by decide +kernel
theorem dX9_sets_25 : decode cX9_sets 25 = .ok (.iastore, 1) := by decide +kernel
theorem dX9_sets_26 : decode cX9_sets 26 = .ok (.iload_n 3, 1) := by decide +kernel
theorem dX9_sets_27 : decode cX9_sets 27 = .ok (.ireturn, 1) := by decide +kernel
set_option maxRecDepth 20000 in
theorem ggX9_setFare_X9_in : GoodIn wsX9_setFare wsX9_in := goodIn_r _ [4] (by decide +kernel) (by decide +kernel)
set_option maxRecDepth 20000 in
theorem gX9_setFare_X9_in : GoodIn wsX9_setFare (va_wsS RX9 33 yX9_in wsX9_in) := goodIn_app (goodIn_of _ (by decide +kernel)) ggX9_setFare_X9_in
set_option maxRecDepth 20000 in
theorem ggX9_setFare_X9_sets : GoodIn wsX9_setFare wsX9_sets := goodIn_r _ [8, 9, 10, 11, 12, 3, 13, 14, 15, 16, 17, 18, 19, 20, 21, 22, 23, 24, 25, 26, 27, 28, 29, 30] (by decide +kernel) (by decide +kernel)
set_option maxRecDepth 20000 in
theorem gX9_setFare_X9_sets : GoodIn wsX9_setFare (wsV RX9 128 RX9 yX9_sets wsX9_sets) := goodIn_app (goodIn_of _ (by decide +kernel)) ggX9_setFare_X9_sets
theorem dX9_setFare_0 : decode cX9_setFare 0 = .ok (.iload_n 1, 1) := by decide +kernel
theorem dX9_setFare_1 : decode cX9_setFare 1 = .ok (.iconst 1, 1) := by decide +kernel
theorem dX9_setFare_2 : decode cX9_setFare 2 = .ok (.bipush 99, 2) := by decide +kernel
theorem dX9_setFare_4 : decode cX9_setFare 4 = .ok (.invokestatic 33, 3) := by decide +kernel
theorem dX9_setFare_7 : decode cX9_setFare 7 = .ok (.ifCond .eq 13, 3) := by decide +kernel
theorem dX9_setFare_10 : decode cX9_setFare 10 = .ok (.aload_n 0, 1) := by decide +kernel
theorem dX9_setFare_11 : decode cX9_setFare 11 = .ok (.bipush 6, 2) := by decide +kernel
theorem dX9_setFare_13 : decode cX9_setFare 13 = .ok (.iload_n 1, 1) := by decide +kernel
theorem dX9_setFare_14 : decode cX9_setFare 14 = .ok (.invokevirtual 128, 3) := by decide +kernel
theorem dX9_setFare_17 : decode cX9_setFare 17 = .ok (.goto 5, 3) := by decide +kernel
theorem dX9_setFare_20 : decode cX9_setFare 20 = .ok (.bipush (-2), 2) := by decide +kernel
theorem dX9_setFare_22 : decode cX9_setFare 22 = .ok (.ireturn, 1) := by decide +kernel
set_option maxRecDepth 20000 in
theorem ggX9_setPatience_X9_in : GoodIn wsX9_setPatience wsX9_in := goodIn_r _ [4] (by decide +kernel) (by decide +kernel)
set_option maxRecDepth 20000 in
theorem gX9_setPatience_X9_in : GoodIn wsX9_setPatience (va_wsS RX9 33 yX9_in wsX9_in) := goodIn_app (goodIn_of _ (by decide +kernel)) ggX9_setPatience_X9_in
set_option maxRecDepth 20000 in
theorem ggX9_setPatience_X9_sets : GoodIn wsX9_setPatience wsX9_sets := goodIn_r _ [8, 9, 10, 11, 12, 3, 13, 14, 15, 16, 17, 18, 19, 20, 21, 22, 23, 24, 25, 26, 27, 28, 29, 30] (by decide +kernel) (by decide +kernel)
set_option maxRecDepth 20000 in
theorem gX9_setPatience_X9_sets : GoodIn wsX9_setPatience (wsV RX9 128 RX9 yX9_sets wsX9_sets) := goodIn_app (goodIn_of _ (by decide +kernel)) ggX9_setPatience_X9_sets
theorem dX9_setPatience_0 : decode cX9_setPatience 0 = .ok (.iload_n 1, 1) := by decide +kernel
theorem dX9_setPatience_1 : decode cX9_setPatience 1 = .ok (.iconst 0, 1) := by decide +kernel
theorem dX9_setPatience_2 : decode cX9_setPatience 2 = .ok (.bipush 50, 2) := by decide +kernel
theorem dX9_setPatience_4 : decode cX9_setPatience 4 = .ok (.invokestatic 33, 3) := by decide +kernel
theorem dX9_setPatience_7 : decode cX9_setPatience 7 = .ok (.ifCond .eq 13, 3) := by decide +kernel
theorem dX9_setPatience_10 : decode cX9_setPatience 10 = .ok (.aload_n 0, 1) := by decide +kernel
theorem dX9_setPatience_11 : decode cX9_setPatience 11 = .ok (.bipush 7, 2) := by decide +kernel
theorem dX9_setPatience_13 : decode cX9_setPatience 13 = .ok (.iload_n 1, 1) := by decide +kernel
theorem dX9_setPatience_14 : decode cX9_setPatience 14 = .ok (.invokevirtual 128, 3) := by decide +kernel
theorem dX9_setPatience_17 : decode cX9_setPatience 17 = .ok (.goto 5, 3) := by decide +kernel
theorem dX9_setPatience_20 : decode cX9_setPatience 20 = .ok (.bipush (-2), 2) := by decide +kernel
theorem dX9_setPatience_22 : decode cX9_setPatience 22 = .ok (.ireturn, 1) := by decide +kernel
set_option maxRecDepth 20000 in
theorem ggX9_drain_X9_isLine : GoodIn wsX9_drain wsX9_isLine := goodIn_r _ [4, 5, 6, 3, 7] (by decide +kernel) (by decide +kernel)
set_option maxRecDepth 20000 in
theorem gX9_drain_X9_isLine : GoodIn wsX9_drain (va_wsS RX9 121 yX9_isLine wsX9_isLine) := goodIn_app (goodIn_of _ (by decide +kernel)) ggX9_drain_X9_isLine
set_option maxRecDepth 20000 in
theorem ggX9_drain_X9_on : GoodIn wsX9_drain wsX9_on := goodIn_r _ [11, 12, 13, 14, 15, 3, 16, 47, 48, 49, 50, 51, 52, 53, 54, 55, 56, 57, 58, 59, 60, 61] (by decide +kernel) (by decide +kernel)
set_option maxRecDepth 20000 in
theorem gX9_drain_X9_on : GoodIn wsX9_drain (wsV RX9 91 RX9 yX9_on wsX9_on) := goodIn_app (goodIn_of _ (by decide +kernel)) ggX9_drain_X9_on
set_option maxRecDepth 20000 in
theorem ggX9_drain_X9_records : GoodIn wsX9_drain wsX9_records := goodIn_r _ [20, 21, 22, 12, 47, 48, 49, 50, 51, 52, 53, 54, 55, 56, 57, 58, 59, 60, 61] (by decide +kernel) (by decide +kernel)
set_option maxRecDepth 20000 in
theorem gX9_drain_X9_records : GoodIn wsX9_drain (wsV RX9 125 RX9 yX9_records wsX9_records) := goodIn_app (goodIn_of _ (by decide +kernel)) ggX9_drain_X9_records
set_option maxRecDepth 20000 in
theorem ggX9_drain_X9_ofLine : GoodIn wsX9_drain wsX9_ofLine := goodIn_r _ [26, 12, 47, 48, 49, 50, 51, 52, 53, 54, 55, 56, 57, 58, 59, 60, 61] (by decide +kernel) (by decide +kernel)
set_option maxRecDepth 20000 in
theorem gX9_drain_X9_ofLine : GoodIn wsX9_drain (wsV RX9 37 RX9 yX9_ofLine wsX9_ofLine) := goodIn_app (goodIn_of _ (by decide +kernel)) ggX9_drain_X9_ofLine
set_option maxRecDepth 20000 in
theorem ggX9_drain_X9_seat : GoodIn wsX9_drain wsX9_seat := goodIn_r _ [30, 12, 47, 48, 49, 50, 51, 52, 53, 54, 55, 56, 57, 58, 59, 60, 61] (by decide +kernel) (by decide +kernel)
set_option maxRecDepth 20000 in
theorem gX9_drain_X9_seat : GoodIn wsX9_drain (wsV RX9 97 RX9 yX9_seat wsX9_seat) := goodIn_app (goodIn_of _ (by decide +kernel)) ggX9_drain_X9_seat
set_option maxRecDepth 20000 in
theorem ggX9_drain_X9_of : GoodIn wsX9_drain wsX9_of := goodIn_r _ [16, 12, 47, 48, 49, 50, 51, 52, 53, 54, 55, 56, 57, 58, 59, 60, 61] (by decide +kernel) (by decide +kernel)
set_option maxRecDepth 20000 in
theorem gX9_drain_X9_of : GoodIn wsX9_drain (wsV RX9 46 RX9 yX9_of wsX9_of) := goodIn_app (goodIn_of _ (by decide +kernel)) ggX9_drain_X9_of
set_option maxRecDepth 20000 in
theorem ggX9_drain_X9_ends : GoodIn wsX9_drain wsX9_ends := goodIn_r _ [34, 12, 35, 36, 37, 3, 38, 13, 14, 15, 16, 39, 40, 41, 42, 47, 48, 49, 50, 51, 52, 53, 54, 55, 56, 57, 58, 59, 60, 61] (by decide +kernel) (by decide +kernel)
set_option maxRecDepth 20000 in
theorem gX9_drain_X9_ends : GoodIn wsX9_drain (wsV RX9 81 RX9 yX9_ends wsX9_ends) := goodIn_app (goodIn_of _ (by decide +kernel)) ggX9_drain_X9_ends
set_option maxRecDepth 20000 in
theorem ggX9_drain_X9_logs : GoodIn wsX9_drain wsX9_logs := goodIn_r _ [46, 12, 47, 48, 49, 50, 51, 52, 53, 54, 55, 56, 57, 58, 59, 60, 61] (by decide +kernel) (by decide +kernel)
set_option maxRecDepth 20000 in
theorem gX9_drain_X9_logs : GoodIn wsX9_drain (wsV RX9 67 RX9 yX9_logs wsX9_logs) := goodIn_app (goodIn_of _ (by decide +kernel)) ggX9_drain_X9_logs
theorem dX9_drain_0 : decode cX9_drain 0 = .ok (.iload_n 1, 1) := by decide +kernel
theorem dX9_drain_1 : decode cX9_drain 1 = .ok (.invokestatic 121, 3) := by decide +kernel
theorem dX9_drain_4 : decode cX9_drain 4 = .ok (.ifCond .ne 5, 3) := by decide +kernel
theorem dX9_drain_7 : decode cX9_drain 7 = .ok (.iconst (-1), 1) := by decide +kernel
theorem dX9_drain_8 : decode cX9_drain 8 = .ok (.ireturn, 1) := by decide +kernel
theorem dX9_drain_9 : decode cX9_drain 9 = .ok (.aload_n 0, 1) := by decide +kernel
theorem dX9_drain_10 : decode cX9_drain 10 = .ok (.iload_n 1, 1) := by decide +kernel
theorem dX9_drain_11 : decode cX9_drain 11 = .ok (.iconst 1, 1) := by decide +kernel
theorem dX9_drain_12 : decode cX9_drain 12 = .ok (.invokevirtual 91, 3) := by decide +kernel
theorem dX9_drain_15 : decode cX9_drain 15 = .ok (.istore_n 2, 1) := by decide +kernel
theorem dX9_drain_16 : decode cX9_drain 16 = .ok (.iload_n 2, 1) := by decide +kernel
theorem dX9_drain_17 : decode cX9_drain 17 = .ok (.ifCond .ne 6, 3) := by decide +kernel
theorem dX9_drain_20 : decode cX9_drain 20 = .ok (.bipush (-5), 2) := by decide +kernel
theorem dX9_drain_22 : decode cX9_drain 22 = .ok (.ireturn, 1) := by decide +kernel
theorem dX9_drain_23 : decode cX9_drain 23 = .ok (.aload_n 0, 1) := by decide +kernel
theorem dX9_drain_24 : decode cX9_drain 24 = .ok (.invokevirtual 125, 3) := by decide +kernel
theorem dX9_drain_27 : decode cX9_drain 27 = .ok (.iconst 0, 1) := by decide +kernel
theorem dX9_drain_28 : decode cX9_drain 28 = .ok (.istore_n 3, 1) := by decide +kernel
theorem dX9_drain_29 : decode cX9_drain 29 = .ok (.iload_n 3, 1) := by decide +kernel
theorem dX9_drain_30 : decode cX9_drain 30 = .ok (.aload_n 0, 1) := by decide +kernel
theorem dX9_drain_31 : decode cX9_drain 31 = .ok (.iload_n 1, 1) := by decide +kernel
theorem dX9_drain_32 : decode cX9_drain 32 = .ok (.iconst 0, 1) := by decide +kernel
theorem dX9_drain_33 : decode cX9_drain 33 = .ok (.invokevirtual 37, 3) := by decide +kernel
theorem dX9_drain_36 : decode cX9_drain 36 = .ok (.if_icmp .ge 52, 3) := by decide +kernel
theorem dX9_drain_39 : decode cX9_drain 39 = .ok (.aload_n 0, 1) := by decide +kernel
theorem dX9_drain_40 : decode cX9_drain 40 = .ok (.iload_n 1, 1) := by decide +kernel
theorem dX9_drain_41 : decode cX9_drain 41 = .ok (.iload_n 3, 1) := by decide +kernel
theorem dX9_drain_42 : decode cX9_drain 42 = .ok (.invokevirtual 97, 3) := by decide +kernel
theorem dX9_drain_45 : decode cX9_drain 45 = .ok (.istore 4, 2) := by decide +kernel
theorem dX9_drain_47 : decode cX9_drain 47 = .ok (.iload 4, 2) := by decide +kernel
theorem dX9_drain_49 : decode cX9_drain 49 = .ok (.bipush (-5), 2) := by decide +kernel
theorem dX9_drain_51 : decode cX9_drain 51 = .ok (.if_icmp .eq 31, 3) := by decide +kernel
theorem dX9_drain_54 : decode cX9_drain 54 = .ok (.aload_n 0, 1) := by decide +kernel
theorem dX9_drain_55 : decode cX9_drain 55 = .ok (.iload 4, 2) := by decide +kernel
theorem dX9_drain_57 : decode cX9_drain 57 = .ok (.bipush 7, 2) := by decide +kernel
theorem dX9_drain_59 : decode cX9_drain 59 = .ok (.bipush (-5), 2) := by decide +kernel
theorem dX9_drain_61 : decode cX9_drain 61 = .ok (.aload_n 0, 1) := by decide +kernel
theorem dX9_drain_62 : decode cX9_drain 62 = .ok (.iload 4, 2) := by decide +kernel
theorem dX9_drain_64 : decode cX9_drain 64 = .ok (.iconst 5, 1) := by decide +kernel
theorem dX9_drain_65 : decode cX9_drain 65 = .ok (.invokevirtual 46, 3) := by decide +kernel
theorem dX9_drain_68 : decode cX9_drain 68 = .ok (.invokevirtual 81, 3) := by decide +kernel
theorem dX9_drain_71 : decode cX9_drain 71 = .ok (.aload_n 0, 1) := by decide +kernel
theorem dX9_drain_72 : decode cX9_drain 72 = .ok (.bipush 8, 2) := by decide +kernel
theorem dX9_drain_74 : decode cX9_drain 74 = .ok (.iload 4, 2) := by decide +kernel
theorem dX9_drain_76 : decode cX9_drain 76 = .ok (.iload_n 1, 1) := by decide +kernel
theorem dX9_drain_77 : decode cX9_drain 77 = .ok (.bipush (-5), 2) := by decide +kernel
theorem dX9_drain_79 : decode cX9_drain 79 = .ok (.invokevirtual 67, 3) := by decide +kernel
theorem dX9_drain_82 : decode cX9_drain 82 = .ok (.iinc 3 1, 3) := by decide +kernel
theorem dX9_drain_85 : decode cX9_drain 85 = .ok (.goto (-56), 3) := by decide +kernel
theorem dX9_drain_88 : decode cX9_drain 88 = .ok (.iload_n 2, 1) := by decide +kernel
theorem dX9_drain_89 : decode cX9_drain 89 = .ok (.ireturn, 1) := by decide +kernel
set_option maxRecDepth 20000 in
theorem ggX9_against_X9_isStation : GoodIn wsX9_against wsX9_isStation := goodIn_r _ [5, 6, 7, 4, 8, 9, 10, 11, 12, 13, 18, 19, 20, 21, 22, 23, 24, 25, 26, 27, 28, 29, 30, 31, 32] (by decide +kernel) (by decide +kernel)
set_option maxRecDepth 20000 in
theorem gX9_against_X9_isStation : GoodIn wsX9_against (wsV RX9 131 RX9 yX9_isStation wsX9_isStation) := goodIn_app (goodIn_of _ (by decide +kernel)) ggX9_against_X9_isStation
set_option maxRecDepth 20000 in
theorem ggX9_against_X9_isWord : GoodIn wsX9_against wsX9_isWord := goodIn_r _ [16, 17, 6, 7, 4, 8] (by decide +kernel) (by decide +kernel)
set_option maxRecDepth 20000 in
theorem gX9_against_X9_isWord : GoodIn wsX9_against (va_wsS RX9 134 yX9_isWord wsX9_isWord) := goodIn_app (goodIn_of _ (by decide +kernel)) ggX9_against_X9_isWord
set_option maxRecDepth 20000 in
theorem ggX9_against_X9_in : GoodIn wsX9_against wsX9_in := goodIn_r _ [8] (by decide +kernel) (by decide +kernel)
set_option maxRecDepth 20000 in
theorem gX9_against_X9_in : GoodIn wsX9_against (va_wsS RX9 33 yX9_in wsX9_in) := goodIn_app (goodIn_of _ (by decide +kernel)) ggX9_against_X9_in
theorem dX9_against_0 : decode cX9_against 0 = .ok (.aload_n 0, 1) := by decide +kernel
theorem dX9_against_1 : decode cX9_against 1 = .ok (.iload_n 3, 1) := by decide +kernel
theorem dX9_against_2 : decode cX9_against 2 = .ok (.invokevirtual 131, 3) := by decide +kernel
theorem dX9_against_5 : decode cX9_against 5 = .ok (.ifCond .eq 12, 3) := by decide +kernel
theorem dX9_against_8 : decode cX9_against 8 = .ok (.aload_n 0, 1) := by decide +kernel
theorem dX9_against_9 : decode cX9_against 9 = .ok (.iload 4, 2) := by decide +kernel
theorem dX9_against_11 : decode cX9_against 11 = .ok (.invokevirtual 131, 3) := by decide +kernel
theorem dX9_against_14 : decode cX9_against 14 = .ok (.ifCond .ne 5, 3) := by decide +kernel
theorem dX9_against_17 : decode cX9_against 17 = .ok (.iconst (-1), 1) := by decide +kernel
theorem dX9_against_18 : decode cX9_against 18 = .ok (.ireturn, 1) := by decide +kernel
theorem dX9_against_19 : decode cX9_against 19 = .ok (.iload_n 1, 1) := by decide +kernel
theorem dX9_against_20 : decode cX9_against 20 = .ok (.invokestatic 134, 3) := by decide +kernel
theorem dX9_against_23 : decode cX9_against 23 = .ok (.ifCond .eq 33, 3) := by decide +kernel
theorem dX9_against_26 : decode cX9_against 26 = .ok (.iload_n 2, 1) := by decide +kernel
theorem dX9_against_27 : decode cX9_against 27 = .ok (.iconst 1, 1) := by decide +kernel
theorem dX9_against_28 : decode cX9_against 28 = .ok (.iconst 3, 1) := by decide +kernel
theorem dX9_against_29 : decode cX9_against 29 = .ok (.invokestatic 33, 3) := by decide +kernel
theorem dX9_against_32 : decode cX9_against 32 = .ok (.ifCond .eq 24, 3) := by decide +kernel
theorem dX9_against_35 : decode cX9_against 35 = .ok (.iload 5, 2) := by decide +kernel
theorem dX9_against_37 : decode cX9_against 37 = .ok (.iconst 1, 1) := by decide +kernel
theorem dX9_against_38 : decode cX9_against 38 = .ok (.bipush 9, 2) := by decide +kernel
theorem dX9_against_40 : decode cX9_against 40 = .ok (.invokestatic 33, 3) := by decide +kernel
theorem dX9_against_43 : decode cX9_against 43 = .ok (.ifCond .eq 13, 3) := by decide +kernel
theorem dX9_against_46 : decode cX9_against 46 = .ok (.iload_n 3, 1) := by decide +kernel
theorem dX9_against_47 : decode cX9_against 47 = .ok (.iload 4, 2) := by decide +kernel
theorem dX9_against_49 : decode cX9_against 49 = .ok (.if_icmp .eq 7, 3) := by decide +kernel
theorem dX9_against_52 : decode cX9_against 52 = .ok (.iconst 0, 1) := by decide +kernel
theorem dX9_against_53 : decode cX9_against 53 = .ok (.goto 5, 3) := by decide +kernel
theorem dX9_against_56 : decode cX9_against 56 = .ok (.bipush (-2), 2) := by decide +kernel
theorem dX9_against_58 : decode cX9_against 58 = .ok (.ireturn, 1) := by decide +kernel
set_option maxRecDepth 20000 in
theorem ggX9_book_X9_against : GoodIn wsX9_book wsX9_against := goodIn_r _ [6, 7, 8, 9, 5, 10, 11, 12, 13, 14, 15, 16, 17, 1, 18, 19, 20, 21, 44, 45, 46, 47, 48, 49, 50, 51, 52, 53, 54, 55, 56, 57, 58] (by decide +kernel) (by decide +kernel)
set_option maxRecDepth 20000 in
theorem gX9_book_X9_against : GoodIn wsX9_book (wsV RX9 137 RX9 yX9_against wsX9_against) := goodIn_app (goodIn_of _ (by decide +kernel)) ggX9_book_X9_against
set_option maxRecDepth 20000 in
theorem ggX9_book_X9_records : GoodIn wsX9_book wsX9_records := goodIn_r _ [25, 26, 27, 1, 44, 45, 46, 47, 48, 49, 50, 51, 52, 53, 54, 55, 56, 57, 58] (by decide +kernel) (by decide +kernel)
set_option maxRecDepth 20000 in
theorem gX9_book_X9_records : GoodIn wsX9_book (wsV RX9 125 RX9 yX9_records wsX9_records) := goodIn_app (goodIn_of _ (by decide +kernel)) ggX9_book_X9_records
set_option maxRecDepth 20000 in
theorem ggX9_book_X9_comes : GoodIn wsX9_book wsX9_comes := goodIn_r _ [31, 1, 32, 33, 34, 5, 35, 36, 37, 38, 39, 40, 41, 42, 43, 44, 45, 46, 47, 48, 49, 50, 51, 52, 53, 54, 55, 56, 57, 58] (by decide +kernel) (by decide +kernel)
set_option maxRecDepth 20000 in
theorem gX9_book_X9_comes : GoodIn wsX9_book (wsV RX9 74 RX9 yX9_comes wsX9_comes) := goodIn_app (goodIn_of _ (by decide +kernel)) ggX9_book_X9_comes
theorem dX9_book_0 : decode cX9_book 0 = .ok (.aload_n 0, 1) := by decide +kernel
theorem dX9_book_1 : decode cX9_book 1 = .ok (.iload_n 1, 1) := by decide +kernel
theorem dX9_book_2 : decode cX9_book 2 = .ok (.iload_n 2, 1) := by decide +kernel
theorem dX9_book_3 : decode cX9_book 3 = .ok (.iload_n 3, 1) := by decide +kernel
theorem dX9_book_4 : decode cX9_book 4 = .ok (.iload 4, 2) := by decide +kernel
theorem dX9_book_6 : decode cX9_book 6 = .ok (.iload 5, 2) := by decide +kernel
theorem dX9_book_8 : decode cX9_book 8 = .ok (.invokevirtual 137, 3) := by decide +kernel
theorem dX9_book_11 : decode cX9_book 11 = .ok (.istore 6, 2) := by decide +kernel
theorem dX9_book_13 : decode cX9_book 13 = .ok (.iload 6, 2) := by decide +kernel
theorem dX9_book_15 : decode cX9_book 15 = .ok (.ifCond .ge 6, 3) := by decide +kernel
theorem dX9_book_18 : decode cX9_book 18 = .ok (.iload 6, 2) := by decide +kernel
theorem dX9_book_20 : decode cX9_book 20 = .ok (.ireturn, 1) := by decide +kernel
theorem dX9_book_21 : decode cX9_book 21 = .ok (.aload_n 0, 1) := by decide +kernel
theorem dX9_book_22 : decode cX9_book 22 = .ok (.getfield 7, 3) := by decide +kernel
theorem dX9_book_25 : decode cX9_book 25 = .ok (.iconst 1, 1) := by decide +kernel
theorem dX9_book_26 : decode cX9_book 26 = .ok (.iaload, 1) := by decide +kernel
theorem dX9_book_27 : decode cX9_book 27 = .ok (.bipush 40, 2) := by decide +kernel
theorem dX9_book_29 : decode cX9_book 29 = .ok (.if_icmp .ne 6, 3) := by decide +kernel
theorem dX9_book_32 : decode cX9_book 32 = .ok (.bipush (-3), 2) := by decide +kernel
theorem dX9_book_34 : decode cX9_book 34 = .ok (.ireturn, 1) := by decide +kernel
theorem dX9_book_35 : decode cX9_book 35 = .ok (.aload_n 0, 1) := by decide +kernel
theorem dX9_book_36 : decode cX9_book 36 = .ok (.invokevirtual 125, 3) := by decide +kernel
theorem dX9_book_39 : decode cX9_book 39 = .ok (.aload_n 0, 1) := by decide +kernel
theorem dX9_book_40 : decode cX9_book 40 = .ok (.iload_n 1, 1) := by decide +kernel
theorem dX9_book_41 : decode cX9_book 41 = .ok (.iload_n 2, 1) := by decide +kernel
theorem dX9_book_42 : decode cX9_book 42 = .ok (.iload_n 3, 1) := by decide +kernel
theorem dX9_book_43 : decode cX9_book 43 = .ok (.iload 4, 2) := by decide +kernel
theorem dX9_book_45 : decode cX9_book 45 = .ok (.iload 5, 2) := by decide +kernel
theorem dX9_book_47 : decode cX9_book 47 = .ok (.invokevirtual 74, 3) := by decide +kernel
theorem dX9_book_50 : decode cX9_book 50 = .ok (.ireturn, 1) := by decide +kernel
set_option maxRecDepth 20000 in
theorem ggX9_cancel_X9_isTicket : GoodIn wsX9_cancel wsX9_isTicket := goodIn_r _ [5, 6, 7, 8, 4, 9, 32, 33, 34, 35, 36, 37, 38, 39, 40, 41, 42, 43, 44, 45, 46] (by decide +kernel) (by decide +kernel)
set_option maxRecDepth 20000 in
theorem gX9_cancel_X9_isTicket : GoodIn wsX9_cancel (wsV RX9 140 RX9 yX9_isTicket wsX9_isTicket) := goodIn_app (goodIn_of _ (by decide +kernel)) ggX9_cancel_X9_isTicket
set_option maxRecDepth 20000 in
theorem ggX9_cancel_X9_of : GoodIn wsX9_cancel wsX9_of := goodIn_r _ [13, 6, 32, 33, 34, 35, 36, 37, 38, 39, 40, 41, 42, 43, 44, 45, 46] (by decide +kernel) (by decide +kernel)
set_option maxRecDepth 20000 in
theorem gX9_cancel_X9_of : GoodIn wsX9_cancel (wsV RX9 46 RX9 yX9_of wsX9_of) := goodIn_app (goodIn_of _ (by decide +kernel)) ggX9_cancel_X9_of
set_option maxRecDepth 20000 in
theorem ggX9_cancel_X9_records : GoodIn wsX9_cancel wsX9_records := goodIn_r _ [17, 18, 19, 6, 32, 33, 34, 35, 36, 37, 38, 39, 40, 41, 42, 43, 44, 45, 46] (by decide +kernel) (by decide +kernel)
set_option maxRecDepth 20000 in
theorem gX9_cancel_X9_records : GoodIn wsX9_cancel (wsV RX9 125 RX9 yX9_records wsX9_records) := goodIn_app (goodIn_of _ (by decide +kernel)) ggX9_cancel_X9_records
set_option maxRecDepth 20000 in
theorem ggX9_cancel_X9_ends : GoodIn wsX9_cancel wsX9_ends := goodIn_r _ [23, 6, 24, 25, 26, 4, 27, 10, 11, 12, 13, 28, 29, 30, 31, 32, 33, 34, 35, 36, 37, 38, 39, 40, 41, 42, 43, 44, 45, 46] (by decide +kernel) (by decide +kernel)
set_option maxRecDepth 20000 in
theorem gX9_cancel_X9_ends : GoodIn wsX9_cancel (wsV RX9 81 RX9 yX9_ends wsX9_ends) := goodIn_app (goodIn_of _ (by decide +kernel)) ggX9_cancel_X9_ends
theorem dX9_cancel_0 : decode cX9_cancel 0 = .ok (.aload_n 0, 1) := by decide +kernel
theorem dX9_cancel_1 : decode cX9_cancel 1 = .ok (.iload_n 1, 1) := by decide +kernel
theorem dX9_cancel_2 : decode cX9_cancel 2 = .ok (.invokevirtual 140, 3) := by decide +kernel
theorem dX9_cancel_5 : decode cX9_cancel 5 = .ok (.ifCond .ne 5, 3) := by decide +kernel
theorem dX9_cancel_8 : decode cX9_cancel 8 = .ok (.iconst (-1), 1) := by decide +kernel
theorem dX9_cancel_9 : decode cX9_cancel 9 = .ok (.ireturn, 1) := by decide +kernel
theorem dX9_cancel_10 : decode cX9_cancel 10 = .ok (.aload_n 0, 1) := by decide +kernel
theorem dX9_cancel_11 : decode cX9_cancel 11 = .ok (.iload_n 1, 1) := by decide +kernel
theorem dX9_cancel_12 : decode cX9_cancel 12 = .ok (.bipush 6, 2) := by decide +kernel
theorem dX9_cancel_14 : decode cX9_cancel 14 = .ok (.invokevirtual 46, 3) := by decide +kernel
theorem dX9_cancel_17 : decode cX9_cancel 17 = .ok (.iconst 3, 1) := by decide +kernel
theorem dX9_cancel_18 : decode cX9_cancel 18 = .ok (.if_icmp .lt 6, 3) := by decide +kernel
theorem dX9_cancel_21 : decode cX9_cancel 21 = .ok (.bipush (-4), 2) := by decide +kernel
theorem dX9_cancel_23 : decode cX9_cancel 23 = .ok (.ireturn, 1) := by decide +kernel
theorem dX9_cancel_24 : decode cX9_cancel 24 = .ok (.aload_n 0, 1) := by decide +kernel
theorem dX9_cancel_25 : decode cX9_cancel 25 = .ok (.invokevirtual 125, 3) := by decide +kernel
theorem dX9_cancel_28 : decode cX9_cancel 28 = .ok (.aload_n 0, 1) := by decide +kernel
theorem dX9_cancel_29 : decode cX9_cancel 29 = .ok (.iload_n 1, 1) := by decide +kernel
theorem dX9_cancel_30 : decode cX9_cancel 30 = .ok (.bipush 6, 2) := by decide +kernel
theorem dX9_cancel_32 : decode cX9_cancel 32 = .ok (.invokevirtual 46, 3) := by decide +kernel
theorem dX9_cancel_35 : decode cX9_cancel 35 = .ok (.iconst 1, 1) := by decide +kernel
theorem dX9_cancel_36 : decode cX9_cancel 36 = .ok (.if_icmp .ne 14, 3) := by decide +kernel
theorem dX9_cancel_39 : decode cX9_cancel 39 = .ok (.aload_n 0, 1) := by decide +kernel
theorem dX9_cancel_40 : decode cX9_cancel 40 = .ok (.iload_n 1, 1) := by decide +kernel
theorem dX9_cancel_41 : decode cX9_cancel 41 = .ok (.iconst 5, 1) := by decide +kernel
theorem dX9_cancel_42 : decode cX9_cancel 42 = .ok (.invokevirtual 46, 3) := by decide +kernel
theorem dX9_cancel_45 : decode cX9_cancel 45 = .ok (.iconst 2, 1) := by decide +kernel
theorem dX9_cancel_46 : decode cX9_cancel 46 = .ok (.idiv, 1) := by decide +kernel
theorem dX9_cancel_47 : decode cX9_cancel 47 = .ok (.goto 9, 3) := by decide +kernel
theorem dX9_cancel_50 : decode cX9_cancel 50 = .ok (.aload_n 0, 1) := by decide +kernel
theorem dX9_cancel_51 : decode cX9_cancel 51 = .ok (.iload_n 1, 1) := by decide +kernel
theorem dX9_cancel_52 : decode cX9_cancel 52 = .ok (.iconst 5, 1) := by decide +kernel
theorem dX9_cancel_53 : decode cX9_cancel 53 = .ok (.invokevirtual 46, 3) := by decide +kernel
theorem dX9_cancel_56 : decode cX9_cancel 56 = .ok (.istore_n 2, 1) := by decide +kernel
theorem dX9_cancel_57 : decode cX9_cancel 57 = .ok (.aload_n 0, 1) := by decide +kernel
theorem dX9_cancel_58 : decode cX9_cancel 58 = .ok (.iload_n 1, 1) := by decide +kernel
theorem dX9_cancel_59 : decode cX9_cancel 59 = .ok (.bipush 8, 2) := by decide +kernel
theorem dX9_cancel_61 : decode cX9_cancel 61 = .ok (.bipush (-5), 2) := by decide +kernel
theorem dX9_cancel_63 : decode cX9_cancel 63 = .ok (.iload_n 2, 1) := by decide +kernel
theorem dX9_cancel_64 : decode cX9_cancel 64 = .ok (.invokevirtual 81, 3) := by decide +kernel
theorem dX9_cancel_67 : decode cX9_cancel 67 = .ok (.iload_n 2, 1) := by decide +kernel
theorem dX9_cancel_68 : decode cX9_cancel 68 = .ok (.ireturn, 1) := by decide +kernel
set_option maxRecDepth 20000 in
theorem ggX9_call_X9_isStation : GoodIn wsX9_call wsX9_isStation := goodIn_r _ [6, 7, 8, 5, 9, 10, 11, 12, 13, 1, 27, 28, 29, 30, 31, 32, 33, 34, 35, 36, 37, 38, 39, 40, 41] (by decide +kernel) (by decide +kernel)
set_option maxRecDepth 20000 in
theorem gX9_call_X9_isStation : GoodIn wsX9_call (wsV RX9 131 RX9 yX9_isStation wsX9_isStation) := goodIn_app (goodIn_of _ (by decide +kernel)) ggX9_call_X9_isStation
set_option maxRecDepth 20000 in
theorem ggX9_call_X9_isWord : GoodIn wsX9_call wsX9_isWord := goodIn_r _ [16, 17, 7, 8, 5, 9] (by decide +kernel) (by decide +kernel)
set_option maxRecDepth 20000 in
theorem gX9_call_X9_isWord : GoodIn wsX9_call (va_wsS RX9 134 yX9_isWord wsX9_isWord) := goodIn_app (goodIn_of _ (by decide +kernel)) ggX9_call_X9_isWord
set_option maxRecDepth 20000 in
theorem ggX9_call_X9_stationAt : GoodIn wsX9_call wsX9_stationAt := goodIn_r _ [20] (by decide +kernel) (by decide +kernel)
set_option maxRecDepth 20000 in
theorem gX9_call_X9_stationAt : GoodIn wsX9_call (va_wsS RX9 42 yX9_stationAt wsX9_stationAt) := goodIn_app (goodIn_of _ (by decide +kernel)) ggX9_call_X9_stationAt
set_option maxRecDepth 20000 in
theorem ggX9_call_X9_records : GoodIn wsX9_call wsX9_records := goodIn_r _ [24, 25, 26, 1, 27, 28, 29, 30, 31, 32, 33, 34, 35, 36, 37, 38, 39, 40, 41] (by decide +kernel) (by decide +kernel)
set_option maxRecDepth 20000 in
theorem gX9_call_X9_records : GoodIn wsX9_call (wsV RX9 125 RX9 yX9_records wsX9_records) := goodIn_app (goodIn_of _ (by decide +kernel)) ggX9_call_X9_records
theorem dX9_call_0 : decode cX9_call 0 = .ok (.aload_n 0, 1) := by decide +kernel
theorem dX9_call_1 : decode cX9_call 1 = .ok (.iload_n 1, 1) := by decide +kernel
theorem dX9_call_2 : decode cX9_call 2 = .ok (.invokevirtual 131, 3) := by decide +kernel
theorem dX9_call_5 : decode cX9_call 5 = .ok (.ifCond .ne 5, 3) := by decide +kernel
theorem dX9_call_8 : decode cX9_call 8 = .ok (.iconst (-1), 1) := by decide +kernel
theorem dX9_call_9 : decode cX9_call 9 = .ok (.ireturn, 1) := by decide +kernel
theorem dX9_call_10 : decode cX9_call 10 = .ok (.iload_n 2, 1) := by decide +kernel
theorem dX9_call_11 : decode cX9_call 11 = .ok (.invokestatic 134, 3) := by decide +kernel
theorem dX9_call_14 : decode cX9_call 14 = .ok (.ifCond .ne 6, 3) := by decide +kernel
theorem dX9_call_17 : decode cX9_call 17 = .ok (.bipush (-2), 2) := by decide +kernel
theorem dX9_call_19 : decode cX9_call 19 = .ok (.ireturn, 1) := by decide +kernel
theorem dX9_call_20 : decode cX9_call 20 = .ok (.iload_n 1, 1) := by decide +kernel
theorem dX9_call_21 : decode cX9_call 21 = .ok (.invokestatic 42, 3) := by decide +kernel
theorem dX9_call_24 : decode cX9_call 24 = .ok (.istore_n 3, 1) := by decide +kernel
theorem dX9_call_25 : decode cX9_call 25 = .ok (.aload_n 0, 1) := by decide +kernel
theorem dX9_call_26 : decode cX9_call 26 = .ok (.getfield 7, 3) := by decide +kernel
theorem dX9_call_29 : decode cX9_call 29 = .ok (.iload_n 3, 1) := by decide +kernel
theorem dX9_call_30 : decode cX9_call 30 = .ok (.iconst 5, 1) := by decide +kernel
theorem dX9_call_31 : decode cX9_call 31 = .ok (.iadd, 1) := by decide +kernel
theorem dX9_call_32 : decode cX9_call 32 = .ok (.iaload, 1) := by decide +kernel
theorem dX9_call_33 : decode cX9_call 33 = .ok (.iconst 3, 1) := by decide +kernel
theorem dX9_call_34 : decode cX9_call 34 = .ok (.if_icmp .ne 6, 3) := by decide +kernel
theorem dX9_call_37 : decode cX9_call 37 = .ok (.bipush (-3), 2) := by decide +kernel
theorem dX9_call_39 : decode cX9_call 39 = .ok (.ireturn, 1) := by decide +kernel
theorem dX9_call_40 : decode cX9_call 40 = .ok (.aload_n 0, 1) := by decide +kernel
theorem dX9_call_41 : decode cX9_call 41 = .ok (.invokevirtual 125, 3) := by decide +kernel
theorem dX9_call_44 : decode cX9_call 44 = .ok (.aload_n 0, 1) := by decide +kernel
theorem dX9_call_45 : decode cX9_call 45 = .ok (.getfield 7, 3) := by decide +kernel
theorem dX9_call_48 : decode cX9_call 48 = .ok (.iload_n 3, 1) := by decide +kernel
theorem dX9_call_49 : decode cX9_call 49 = .ok (.bipush 6, 2) := by decide +kernel
theorem dX9_call_51 : decode cX9_call 51 = .ok (.iadd, 1) := by decide +kernel
theorem dX9_call_52 : decode cX9_call 52 = .ok (.aload_n 0, 1) := by decide +kernel
theorem dX9_call_53 : decode cX9_call 53 = .ok (.getfield 7, 3) := by decide +kernel
theorem dX9_call_56 : decode cX9_call 56 = .ok (.iload_n 3, 1) := by decide +kernel
theorem dX9_call_57 : decode cX9_call 57 = .ok (.iconst 5, 1) := by decide +kernel
theorem dX9_call_58 : decode cX9_call 58 = .ok (.iadd, 1) := by decide +kernel
theorem dX9_call_59 : decode cX9_call 59 = .ok (.iaload, 1) := by decide +kernel
theorem dX9_call_60 : decode cX9_call 60 = .ok (.iadd, 1) := by decide +kernel
theorem dX9_call_61 : decode cX9_call 61 = .ok (.iload_n 2, 1) := by decide +kernel
theorem dX9_call_62 : decode cX9_call 62 = .ok (.iastore, 1) := by decide +kernel
theorem dX9_call_63 : decode cX9_call 63 = .ok (.aload_n 0, 1) := by decide +kernel
theorem dX9_call_64 : decode cX9_call 64 = .ok (.getfield 7, 3) := by decide +kernel
theorem dX9_call_67 : decode cX9_call 67 = .ok (.iload_n 3, 1) := by decide +kernel
theorem dX9_call_68 : decode cX9_call 68 = .ok (.iconst 5, 1) := by decide +kernel
theorem dX9_call_69 : decode cX9_call 69 = .ok (.iadd, 1) := by decide +kernel
theorem dX9_call_70 : decode cX9_call 70 = .ok (.dup2, 1) := by decide +kernel
theorem dX9_call_71 : decode cX9_call 71 = .ok (.iaload, 1) := by decide +kernel
theorem dX9_call_72 : decode cX9_call 72 = .ok (.iconst 1, 1) := by decide +kernel
theorem dX9_call_73 : decode cX9_call 73 = .ok (.iadd, 1) := by decide +kernel
theorem dX9_call_74 : decode cX9_call 74 = .ok (.iastore, 1) := by decide +kernel
theorem dX9_call_75 : decode cX9_call 75 = .ok (.aload_n 0, 1) := by decide +kernel
theorem dX9_call_76 : decode cX9_call 76 = .ok (.getfield 7, 3) := by decide +kernel
theorem dX9_call_79 : decode cX9_call 79 = .ok (.iload_n 3, 1) := by decide +kernel
theorem dX9_call_80 : decode cX9_call 80 = .ok (.iconst 5, 1) := by decide +kernel
theorem dX9_call_81 : decode cX9_call 81 = .ok (.iadd, 1) := by decide +kernel
theorem dX9_call_82 : decode cX9_call 82 = .ok (.iaload, 1) := by decide +kernel
theorem dX9_call_83 : decode cX9_call 83 = .ok (.ireturn, 1) := by decide +kernel
set_option maxRecDepth 20000 in
theorem ggX9_callBack_X9_isStation : GoodIn wsX9_callBack wsX9_isStation := goodIn_r _ [6, 7, 8, 5, 9, 10, 11, 12, 13, 1, 27, 28, 29, 30, 31, 32, 33, 34, 35, 36, 37, 38, 39, 40, 41] (by decide +kernel) (by decide +kernel)
set_option maxRecDepth 20000 in
theorem gX9_callBack_X9_isStation : GoodIn wsX9_callBack (wsV RX9 131 RX9 yX9_isStation wsX9_isStation) := goodIn_app (goodIn_of _ (by decide +kernel)) ggX9_callBack_X9_isStation
set_option maxRecDepth 20000 in
theorem ggX9_callBack_X9_stationAt : GoodIn wsX9_callBack wsX9_stationAt := goodIn_r _ [16] (by decide +kernel) (by decide +kernel)
set_option maxRecDepth 20000 in
theorem gX9_callBack_X9_stationAt : GoodIn wsX9_callBack (va_wsS RX9 42 yX9_stationAt wsX9_stationAt) := goodIn_app (goodIn_of _ (by decide +kernel)) ggX9_callBack_X9_stationAt
set_option maxRecDepth 20000 in
theorem ggX9_callBack_X9_records : GoodIn wsX9_callBack wsX9_records := goodIn_r _ [20, 21, 22, 1, 27, 28, 29, 30, 31, 32, 33, 34, 35, 36, 37, 38, 39, 40, 41] (by decide +kernel) (by decide +kernel)
set_option maxRecDepth 20000 in
theorem gX9_callBack_X9_records : GoodIn wsX9_callBack (wsV RX9 125 RX9 yX9_records wsX9_records) := goodIn_app (goodIn_of _ (by decide +kernel)) ggX9_callBack_X9_records
set_option maxRecDepth 20000 in
theorem ggX9_callBack_X9_dropCall : GoodIn wsX9_callBack wsX9_dropCall := goodIn_r _ [26, 1, 14, 15, 5, 16, 27, 28, 29, 30, 31, 32, 33, 34, 35, 36, 37, 38, 39, 40, 41] (by decide +kernel) (by decide +kernel)
set_option maxRecDepth 20000 in
theorem gX9_callBack_X9_dropCall : GoodIn wsX9_callBack (wsV RX9 87 RX9 yX9_dropCall wsX9_dropCall) := goodIn_app (goodIn_of _ (by decide +kernel)) ggX9_callBack_X9_dropCall
theorem dX9_callBack_0 : decode cX9_callBack 0 = .ok (.aload_n 0, 1) := by decide +kernel
theorem dX9_callBack_1 : decode cX9_callBack 1 = .ok (.iload_n 1, 1) := by decide +kernel
theorem dX9_callBack_2 : decode cX9_callBack 2 = .ok (.invokevirtual 131, 3) := by decide +kernel
theorem dX9_callBack_5 : decode cX9_callBack 5 = .ok (.ifCond .ne 5, 3) := by decide +kernel
theorem dX9_callBack_8 : decode cX9_callBack 8 = .ok (.iconst (-1), 1) := by decide +kernel
theorem dX9_callBack_9 : decode cX9_callBack 9 = .ok (.ireturn, 1) := by decide +kernel
theorem dX9_callBack_10 : decode cX9_callBack 10 = .ok (.iload_n 1, 1) := by decide +kernel
theorem dX9_callBack_11 : decode cX9_callBack 11 = .ok (.invokestatic 42, 3) := by decide +kernel
theorem dX9_callBack_14 : decode cX9_callBack 14 = .ok (.istore_n 2, 1) := by decide +kernel
theorem dX9_callBack_15 : decode cX9_callBack 15 = .ok (.aload_n 0, 1) := by decide +kernel
theorem dX9_callBack_16 : decode cX9_callBack 16 = .ok (.getfield 7, 3) := by decide +kernel
theorem dX9_callBack_19 : decode cX9_callBack 19 = .ok (.iload_n 2, 1) := by decide +kernel
theorem dX9_callBack_20 : decode cX9_callBack 20 = .ok (.iconst 5, 1) := by decide +kernel
theorem dX9_callBack_21 : decode cX9_callBack 21 = .ok (.iadd, 1) := by decide +kernel
theorem dX9_callBack_22 : decode cX9_callBack 22 = .ok (.iaload, 1) := by decide +kernel
theorem dX9_callBack_23 : decode cX9_callBack 23 = .ok (.ifCond .ne 6, 3) := by decide +kernel
theorem dX9_callBack_26 : decode cX9_callBack 26 = .ok (.bipush (-5), 2) := by decide +kernel
theorem dX9_callBack_28 : decode cX9_callBack 28 = .ok (.ireturn, 1) := by decide +kernel
theorem dX9_callBack_29 : decode cX9_callBack 29 = .ok (.aload_n 0, 1) := by decide +kernel
theorem dX9_callBack_30 : decode cX9_callBack 30 = .ok (.invokevirtual 125, 3) := by decide +kernel
theorem dX9_callBack_33 : decode cX9_callBack 33 = .ok (.aload_n 0, 1) := by decide +kernel
theorem dX9_callBack_34 : decode cX9_callBack 34 = .ok (.getfield 7, 3) := by decide +kernel
theorem dX9_callBack_37 : decode cX9_callBack 37 = .ok (.iload_n 2, 1) := by decide +kernel
theorem dX9_callBack_38 : decode cX9_callBack 38 = .ok (.bipush 6, 2) := by decide +kernel
theorem dX9_callBack_40 : decode cX9_callBack 40 = .ok (.iadd, 1) := by decide +kernel
theorem dX9_callBack_41 : decode cX9_callBack 41 = .ok (.iaload, 1) := by decide +kernel
theorem dX9_callBack_42 : decode cX9_callBack 42 = .ok (.istore_n 3, 1) := by decide +kernel
theorem dX9_callBack_43 : decode cX9_callBack 43 = .ok (.aload_n 0, 1) := by decide +kernel
theorem dX9_callBack_44 : decode cX9_callBack 44 = .ok (.iload_n 1, 1) := by decide +kernel
theorem dX9_callBack_45 : decode cX9_callBack 45 = .ok (.iconst 0, 1) := by decide +kernel
theorem dX9_callBack_46 : decode cX9_callBack 46 = .ok (.invokevirtual 87, 3) := by decide +kernel
theorem dX9_callBack_49 : decode cX9_callBack 49 = .ok (.iload_n 3, 1) := by decide +kernel
theorem dX9_callBack_50 : decode cX9_callBack 50 = .ok (.ireturn, 1) := by decide +kernel
set_option maxRecDepth 20000 in
theorem ggX9_order_X9_isTicket : GoodIn wsX9_order wsX9_isTicket := goodIn_r _ [6, 1, 7, 8, 5, 9, 20, 21, 22, 23, 24, 25, 26, 27, 28, 29, 30, 31, 32, 33, 34] (by decide +kernel) (by decide +kernel)
set_option maxRecDepth 20000 in
theorem gX9_order_X9_isTicket : GoodIn wsX9_order (wsV RX9 140 RX9 yX9_isTicket wsX9_isTicket) := goodIn_app (goodIn_of _ (by decide +kernel)) ggX9_order_X9_isTicket
set_option maxRecDepth 20000 in
theorem ggX9_order_X9_in : GoodIn wsX9_order wsX9_in := goodIn_r _ [9] (by decide +kernel) (by decide +kernel)
set_option maxRecDepth 20000 in
theorem gX9_order_X9_in : GoodIn wsX9_order (va_wsS RX9 33 yX9_in wsX9_in) := goodIn_app (goodIn_of _ (by decide +kernel)) ggX9_order_X9_in
set_option maxRecDepth 20000 in
theorem ggX9_order_X9_records : GoodIn wsX9_order wsX9_records := goodIn_r _ [13, 14, 15, 1, 20, 21, 22, 23, 24, 25, 26, 27, 28, 29, 30, 31, 32, 33, 34] (by decide +kernel) (by decide +kernel)
set_option maxRecDepth 20000 in
theorem gX9_order_X9_records : GoodIn wsX9_order (wsV RX9 125 RX9 yX9_records wsX9_records) := goodIn_app (goodIn_of _ (by decide +kernel)) ggX9_order_X9_records
set_option maxRecDepth 20000 in
theorem ggX9_order_X9_of : GoodIn wsX9_order wsX9_of := goodIn_r _ [19, 1, 20, 21, 22, 23, 24, 25, 26, 27, 28, 29, 30, 31, 32, 33, 34] (by decide +kernel) (by decide +kernel)
set_option maxRecDepth 20000 in
theorem gX9_order_X9_of : GoodIn wsX9_order (wsV RX9 46 RX9 yX9_of wsX9_of) := goodIn_app (goodIn_of _ (by decide +kernel)) ggX9_order_X9_of
theorem dX9_order_0 : decode cX9_order 0 = .ok (.aload_n 0, 1) := by decide +kernel
theorem dX9_order_1 : decode cX9_order 1 = .ok (.iload_n 1, 1) := by decide +kernel
theorem dX9_order_2 : decode cX9_order 2 = .ok (.invokevirtual 140, 3) := by decide +kernel
theorem dX9_order_5 : decode cX9_order 5 = .ok (.ifCond .ne 5, 3) := by decide +kernel
theorem dX9_order_8 : decode cX9_order 8 = .ok (.iconst (-1), 1) := by decide +kernel
theorem dX9_order_9 : decode cX9_order 9 = .ok (.ireturn, 1) := by decide +kernel
theorem dX9_order_10 : decode cX9_order 10 = .ok (.iload_n 2, 1) := by decide +kernel
theorem dX9_order_11 : decode cX9_order 11 = .ok (.iconst 1, 1) := by decide +kernel
theorem dX9_order_12 : decode cX9_order 12 = .ok (.bipush 50, 2) := by decide +kernel
theorem dX9_order_14 : decode cX9_order 14 = .ok (.invokestatic 33, 3) := by decide +kernel
theorem dX9_order_17 : decode cX9_order 17 = .ok (.ifCond .ne 6, 3) := by decide +kernel
theorem dX9_order_20 : decode cX9_order 20 = .ok (.bipush (-2), 2) := by decide +kernel
theorem dX9_order_22 : decode cX9_order 22 = .ok (.ireturn, 1) := by decide +kernel
theorem dX9_order_23 : decode cX9_order 23 = .ok (.aload_n 0, 1) := by decide +kernel
theorem dX9_order_24 : decode cX9_order 24 = .ok (.getfield 7, 3) := by decide +kernel
theorem dX9_order_27 : decode cX9_order 27 = .ok (.iconst 2, 1) := by decide +kernel
theorem dX9_order_28 : decode cX9_order 28 = .ok (.iaload, 1) := by decide +kernel
theorem dX9_order_29 : decode cX9_order 29 = .ok (.iconst 4, 1) := by decide +kernel
theorem dX9_order_30 : decode cX9_order 30 = .ok (.if_icmp .ne 6, 3) := by decide +kernel
theorem dX9_order_33 : decode cX9_order 33 = .ok (.bipush (-3), 2) := by decide +kernel
theorem dX9_order_35 : decode cX9_order 35 = .ok (.ireturn, 1) := by decide +kernel
theorem dX9_order_36 : decode cX9_order 36 = .ok (.aload_n 0, 1) := by decide +kernel
theorem dX9_order_37 : decode cX9_order 37 = .ok (.invokevirtual 125, 3) := by decide +kernel
theorem dX9_order_40 : decode cX9_order 40 = .ok (.sipush 194, 3) := by decide +kernel
theorem dX9_order_43 : decode cX9_order 43 = .ok (.bipush 10, 2) := by decide +kernel
theorem dX9_order_45 : decode cX9_order 45 = .ok (.aload_n 0, 1) := by decide +kernel
theorem dX9_order_46 : decode cX9_order 46 = .ok (.getfield 7, 3) := by decide +kernel
theorem dX9_order_49 : decode cX9_order 49 = .ok (.iconst 2, 1) := by decide +kernel
theorem dX9_order_50 : decode cX9_order 50 = .ok (.iaload, 1) := by decide +kernel
theorem dX9_order_51 : decode cX9_order 51 = .ok (.imul, 1) := by decide +kernel
theorem dX9_order_52 : decode cX9_order 52 = .ok (.iadd, 1) := by decide +kernel
theorem dX9_order_53 : decode cX9_order 53 = .ok (.istore_n 3, 1) := by decide +kernel
theorem dX9_order_54 : decode cX9_order 54 = .ok (.aload_n 0, 1) := by decide +kernel
theorem dX9_order_55 : decode cX9_order 55 = .ok (.getfield 7, 3) := by decide +kernel
theorem dX9_order_58 : decode cX9_order 58 = .ok (.iload_n 3, 1) := by decide +kernel
theorem dX9_order_59 : decode cX9_order 59 = .ok (.iconst 0, 1) := by decide +kernel
theorem dX9_order_60 : decode cX9_order 60 = .ok (.iadd, 1) := by decide +kernel
theorem dX9_order_61 : decode cX9_order 61 = .ok (.iload_n 2, 1) := by decide +kernel
theorem dX9_order_62 : decode cX9_order 62 = .ok (.iastore, 1) := by decide +kernel
theorem dX9_order_63 : decode cX9_order 63 = .ok (.aload_n 0, 1) := by decide +kernel
theorem dX9_order_64 : decode cX9_order 64 = .ok (.getfield 7, 3) := by decide +kernel
theorem dX9_order_67 : decode cX9_order 67 = .ok (.iload_n 3, 1) := by decide +kernel
theorem dX9_order_68 : decode cX9_order 68 = .ok (.iconst 1, 1) := by decide +kernel
theorem dX9_order_69 : decode cX9_order 69 = .ok (.iadd, 1) := by decide +kernel
theorem dX9_order_70 : decode cX9_order 70 = .ok (.aload_n 0, 1) := by decide +kernel
theorem dX9_order_71 : decode cX9_order 71 = .ok (.getfield 7, 3) := by decide +kernel
theorem dX9_order_74 : decode cX9_order 74 = .ok (.iconst 0, 1) := by decide +kernel
theorem dX9_order_75 : decode cX9_order 75 = .ok (.iaload, 1) := by decide +kernel
theorem dX9_order_76 : decode cX9_order 76 = .ok (.iastore, 1) := by decide +kernel
theorem dX9_order_77 : decode cX9_order 77 = .ok (.aload_n 0, 1) := by decide +kernel
theorem dX9_order_78 : decode cX9_order 78 = .ok (.getfield 7, 3) := by decide +kernel
theorem dX9_order_81 : decode cX9_order 81 = .ok (.iload_n 3, 1) := by decide +kernel
theorem dX9_order_82 : decode cX9_order 82 = .ok (.iconst 2, 1) := by decide +kernel
theorem dX9_order_83 : decode cX9_order 83 = .ok (.iadd, 1) := by decide +kernel
theorem dX9_order_84 : decode cX9_order 84 = .ok (.iconst 0, 1) := by decide +kernel
theorem dX9_order_85 : decode cX9_order 85 = .ok (.iastore, 1) := by decide +kernel
theorem dX9_order_86 : decode cX9_order 86 = .ok (.aload_n 0, 1) := by decide +kernel
theorem dX9_order_87 : decode cX9_order 87 = .ok (.getfield 7, 3) := by decide +kernel
theorem dX9_order_90 : decode cX9_order 90 = .ok (.iload_n 3, 1) := by decide +kernel
theorem dX9_order_91 : decode cX9_order 91 = .ok (.iconst 3, 1) := by decide +kernel
theorem dX9_order_92 : decode cX9_order 92 = .ok (.iadd, 1) := by decide +kernel
theorem dX9_order_93 : decode cX9_order 93 = .ok (.iconst 0, 1) := by decide +kernel
theorem dX9_order_94 : decode cX9_order 94 = .ok (.iastore, 1) := by decide +kernel
theorem dX9_order_95 : decode cX9_order 95 = .ok (.aload_n 0, 1) := by decide +kernel
theorem dX9_order_96 : decode cX9_order 96 = .ok (.getfield 7, 3) := by decide +kernel
theorem dX9_order_99 : decode cX9_order 99 = .ok (.iload_n 3, 1) := by decide +kernel
theorem dX9_order_100 : decode cX9_order 100 = .ok (.iconst 4, 1) := by decide +kernel
theorem dX9_order_101 : decode cX9_order 101 = .ok (.iadd, 1) := by decide +kernel
theorem dX9_order_102 : decode cX9_order 102 = .ok (.iconst 0, 1) := by decide +kernel
theorem dX9_order_103 : decode cX9_order 103 = .ok (.iastore, 1) := by decide +kernel
theorem dX9_order_104 : decode cX9_order 104 = .ok (.aload_n 0, 1) := by decide +kernel
theorem dX9_order_105 : decode cX9_order 105 = .ok (.getfield 7, 3) := by decide +kernel
theorem dX9_order_108 : decode cX9_order 108 = .ok (.iload_n 3, 1) := by decide +kernel
theorem dX9_order_109 : decode cX9_order 109 = .ok (.iconst 5, 1) := by decide +kernel
theorem dX9_order_110 : decode cX9_order 110 = .ok (.iadd, 1) := by decide +kernel
theorem dX9_order_111 : decode cX9_order 111 = .ok (.aload_n 0, 1) := by decide +kernel
theorem dX9_order_112 : decode cX9_order 112 = .ok (.iload_n 1, 1) := by decide +kernel
theorem dX9_order_113 : decode cX9_order 113 = .ok (.iconst 0, 1) := by decide +kernel
theorem dX9_order_114 : decode cX9_order 114 = .ok (.invokevirtual 46, 3) := by decide +kernel
theorem dX9_order_117 : decode cX9_order 117 = .ok (.iastore, 1) := by decide +kernel
theorem dX9_order_118 : decode cX9_order 118 = .ok (.aload_n 0, 1) := by decide +kernel
theorem dX9_order_119 : decode cX9_order 119 = .ok (.getfield 7, 3) := by decide +kernel
theorem dX9_order_122 : decode cX9_order 122 = .ok (.iload_n 3, 1) := by decide +kernel
theorem dX9_order_123 : decode cX9_order 123 = .ok (.bipush 6, 2) := by decide +kernel
theorem dX9_order_125 : decode cX9_order 125 = .ok (.iadd, 1) := by decide +kernel
theorem dX9_order_126 : decode cX9_order 126 = .ok (.aload_n 0, 1) := by decide +kernel
theorem dX9_order_127 : decode cX9_order 127 = .ok (.iload_n 1, 1) := by decide +kernel
theorem dX9_order_128 : decode cX9_order 128 = .ok (.iconst 2, 1) := by decide +kernel
theorem dX9_order_129 : decode cX9_order 129 = .ok (.invokevirtual 46, 3) := by decide +kernel
theorem dX9_order_132 : decode cX9_order 132 = .ok (.iastore, 1) := by decide +kernel
theorem dX9_order_133 : decode cX9_order 133 = .ok (.aload_n 0, 1) := by decide +kernel
theorem dX9_order_134 : decode cX9_order 134 = .ok (.getfield 7, 3) := by decide +kernel
theorem dX9_order_137 : decode cX9_order 137 = .ok (.iload_n 3, 1) := by decide +kernel
theorem dX9_order_138 : decode cX9_order 138 = .ok (.bipush 7, 2) := by decide +kernel
theorem dX9_order_140 : decode cX9_order 140 = .ok (.iadd, 1) := by decide +kernel
theorem dX9_order_141 : decode cX9_order 141 = .ok (.aload_n 0, 1) := by decide +kernel
theorem dX9_order_142 : decode cX9_order 142 = .ok (.iload_n 1, 1) := by decide +kernel
theorem dX9_order_143 : decode cX9_order 143 = .ok (.iconst 1, 1) := by decide +kernel
theorem dX9_order_144 : decode cX9_order 144 = .ok (.invokevirtual 46, 3) := by decide +kernel
theorem dX9_order_147 : decode cX9_order 147 = .ok (.iastore, 1) := by decide +kernel
theorem dX9_order_148 : decode cX9_order 148 = .ok (.aload_n 0, 1) := by decide +kernel
theorem dX9_order_149 : decode cX9_order 149 = .ok (.getfield 7, 3) := by decide +kernel
theorem dX9_order_152 : decode cX9_order 152 = .ok (.iload_n 3, 1) := by decide +kernel
theorem dX9_order_153 : decode cX9_order 153 = .ok (.bipush 8, 2) := by decide +kernel
theorem dX9_order_155 : decode cX9_order 155 = .ok (.iadd, 1) := by decide +kernel
theorem dX9_order_156 : decode cX9_order 156 = .ok (.aload_n 0, 1) := by decide +kernel
theorem dX9_order_157 : decode cX9_order 157 = .ok (.iload_n 1, 1) := by decide +kernel
theorem dX9_order_158 : decode cX9_order 158 = .ok (.iconst 3, 1) := by decide +kernel
theorem dX9_order_159 : decode cX9_order 159 = .ok (.invokevirtual 46, 3) := by decide +kernel
theorem dX9_order_162 : decode cX9_order 162 = .ok (.iastore, 1) := by decide +kernel
theorem dX9_order_163 : decode cX9_order 163 = .ok (.aload_n 0, 1) := by decide +kernel
theorem dX9_order_164 : decode cX9_order 164 = .ok (.getfield 7, 3) := by decide +kernel
theorem dX9_order_167 : decode cX9_order 167 = .ok (.iload_n 3, 1) := by decide +kernel
theorem dX9_order_168 : decode cX9_order 168 = .ok (.bipush 9, 2) := by decide +kernel
theorem dX9_order_170 : decode cX9_order 170 = .ok (.iadd, 1) := by decide +kernel
theorem dX9_order_171 : decode cX9_order 171 = .ok (.aload_n 0, 1) := by decide +kernel
theorem dX9_order_172 : decode cX9_order 172 = .ok (.iload_n 1, 1) := by decide +kernel
theorem dX9_order_173 : decode cX9_order 173 = .ok (.bipush 14, 2) := by decide +kernel
theorem dX9_order_175 : decode cX9_order 175 = .ok (.invokevirtual 46, 3) := by decide +kernel
theorem dX9_order_178 : decode cX9_order 178 = .ok (.iastore, 1) := by decide +kernel
theorem dX9_order_179 : decode cX9_order 179 = .ok (.aload_n 0, 1) := by decide +kernel
theorem dX9_order_180 : decode cX9_order 180 = .ok (.getfield 7, 3) := by decide +kernel
theorem dX9_order_183 : decode cX9_order 183 = .ok (.iconst 2, 1) := by decide +kernel
theorem dX9_order_184 : decode cX9_order 184 = .ok (.dup2, 1) := by decide +kernel
theorem dX9_order_185 : decode cX9_order 185 = .ok (.iaload, 1) := by decide +kernel
theorem dX9_order_186 : decode cX9_order 186 = .ok (.iconst 1, 1) := by decide +kernel
theorem dX9_order_187 : decode cX9_order 187 = .ok (.iadd, 1) := by decide +kernel
theorem dX9_order_188 : decode cX9_order 188 = .ok (.iastore, 1) := by decide +kernel
theorem dX9_order_189 : decode cX9_order 189 = .ok (.aload_n 0, 1) := by decide +kernel
theorem dX9_order_190 : decode cX9_order 190 = .ok (.getfield 7, 3) := by decide +kernel
theorem dX9_order_193 : decode cX9_order 193 = .ok (.iconst 2, 1) := by decide +kernel
theorem dX9_order_194 : decode cX9_order 194 = .ok (.iaload, 1) := by decide +kernel
theorem dX9_order_195 : decode cX9_order 195 = .ok (.iconst 1, 1) := by decide +kernel
theorem dX9_order_196 : decode cX9_order 196 = .ok (.isub, 1) := by decide +kernel
theorem dX9_order_197 : decode cX9_order 197 = .ok (.ireturn, 1) := by decide +kernel
set_option maxRecDepth 20000 in
theorem ggX9_endOrder_X9_isOrder : GoodIn wsX9_endOrder wsX9_isOrder := goodIn_r _ [6, 1, 7, 8, 5, 9, 16, 17, 18, 19, 20, 21, 22, 23, 24, 25, 26, 27, 28, 29, 30] (by decide +kernel) (by decide +kernel)
set_option maxRecDepth 20000 in
theorem gX9_endOrder_X9_isOrder : GoodIn wsX9_endOrder (wsV RX9 143 RX9 yX9_isOrder wsX9_isOrder) := goodIn_app (goodIn_of _ (by decide +kernel)) ggX9_endOrder_X9_isOrder
set_option maxRecDepth 20000 in
theorem ggX9_endOrder_X9_records : GoodIn wsX9_endOrder wsX9_records := goodIn_r _ [13, 14, 15, 1, 16, 17, 18, 19, 20, 21, 22, 23, 24, 25, 26, 27, 28, 29, 30] (by decide +kernel) (by decide +kernel)
set_option maxRecDepth 20000 in
theorem gX9_endOrder_X9_records : GoodIn wsX9_endOrder (wsV RX9 125 RX9 yX9_records wsX9_records) := goodIn_app (goodIn_of _ (by decide +kernel)) ggX9_endOrder_X9_records
theorem dX9_endOrder_0 : decode cX9_endOrder 0 = .ok (.aload_n 0, 1) := by decide +kernel
theorem dX9_endOrder_1 : decode cX9_endOrder 1 = .ok (.iload_n 1, 1) := by decide +kernel
theorem dX9_endOrder_2 : decode cX9_endOrder 2 = .ok (.invokevirtual 143, 3) := by decide +kernel
theorem dX9_endOrder_5 : decode cX9_endOrder 5 = .ok (.ifCond .ne 5, 3) := by decide +kernel
theorem dX9_endOrder_8 : decode cX9_endOrder 8 = .ok (.iconst (-1), 1) := by decide +kernel
theorem dX9_endOrder_9 : decode cX9_endOrder 9 = .ok (.ireturn, 1) := by decide +kernel
theorem dX9_endOrder_10 : decode cX9_endOrder 10 = .ok (.aload_n 0, 1) := by decide +kernel
theorem dX9_endOrder_11 : decode cX9_endOrder 11 = .ok (.getfield 7, 3) := by decide +kernel
theorem dX9_endOrder_14 : decode cX9_endOrder 14 = .ok (.sipush 194, 3) := by decide +kernel
theorem dX9_endOrder_17 : decode cX9_endOrder 17 = .ok (.bipush 10, 2) := by decide +kernel
theorem dX9_endOrder_19 : decode cX9_endOrder 19 = .ok (.iload_n 1, 1) := by decide +kernel
theorem dX9_endOrder_20 : decode cX9_endOrder 20 = .ok (.imul, 1) := by decide +kernel
theorem dX9_endOrder_21 : decode cX9_endOrder 21 = .ok (.iadd, 1) := by decide +kernel
theorem dX9_endOrder_22 : decode cX9_endOrder 22 = .ok (.iconst 4, 1) := by decide +kernel
theorem dX9_endOrder_23 : decode cX9_endOrder 23 = .ok (.iadd, 1) := by decide +kernel
theorem dX9_endOrder_24 : decode cX9_endOrder 24 = .ok (.iaload, 1) := by decide +kernel
theorem dX9_endOrder_25 : decode cX9_endOrder 25 = .ok (.iconst 1, 1) := by decide +kernel
theorem dX9_endOrder_26 : decode cX9_endOrder 26 = .ok (.if_icmp .ne 6, 3) := by decide +kernel
theorem dX9_endOrder_29 : decode cX9_endOrder 29 = .ok (.bipush (-5), 2) := by decide +kernel
theorem dX9_endOrder_31 : decode cX9_endOrder 31 = .ok (.ireturn, 1) := by decide +kernel
theorem dX9_endOrder_32 : decode cX9_endOrder 32 = .ok (.aload_n 0, 1) := by decide +kernel
theorem dX9_endOrder_33 : decode cX9_endOrder 33 = .ok (.invokevirtual 125, 3) := by decide +kernel
theorem dX9_endOrder_36 : decode cX9_endOrder 36 = .ok (.aload_n 0, 1) := by decide +kernel
theorem dX9_endOrder_37 : decode cX9_endOrder 37 = .ok (.getfield 7, 3) := by decide +kernel
theorem dX9_endOrder_40 : decode cX9_endOrder 40 = .ok (.sipush 194, 3) := by decide +kernel
theorem dX9_endOrder_43 : decode cX9_endOrder 43 = .ok (.bipush 10, 2) := by decide +kernel
theorem dX9_endOrder_45 : decode cX9_endOrder 45 = .ok (.iload_n 1, 1) := by decide +kernel
theorem dX9_endOrder_46 : decode cX9_endOrder 46 = .ok (.imul, 1) := by decide +kernel
theorem dX9_endOrder_47 : decode cX9_endOrder 47 = .ok (.iadd, 1) := by decide +kernel
theorem dX9_endOrder_48 : decode cX9_endOrder 48 = .ok (.iconst 4, 1) := by decide +kernel
theorem dX9_endOrder_49 : decode cX9_endOrder 49 = .ok (.iadd, 1) := by decide +kernel
theorem dX9_endOrder_50 : decode cX9_endOrder 50 = .ok (.iconst 1, 1) := by decide +kernel
theorem dX9_endOrder_51 : decode cX9_endOrder 51 = .ok (.iastore, 1) := by decide +kernel
theorem dX9_endOrder_52 : decode cX9_endOrder 52 = .ok (.aload_n 0, 1) := by decide +kernel
theorem dX9_endOrder_53 : decode cX9_endOrder 53 = .ok (.getfield 7, 3) := by decide +kernel
theorem dX9_endOrder_56 : decode cX9_endOrder 56 = .ok (.sipush 194, 3) := by decide +kernel
theorem dX9_endOrder_59 : decode cX9_endOrder 59 = .ok (.bipush 10, 2) := by decide +kernel
theorem dX9_endOrder_61 : decode cX9_endOrder 61 = .ok (.iload_n 1, 1) := by decide +kernel
theorem dX9_endOrder_62 : decode cX9_endOrder 62 = .ok (.imul, 1) := by decide +kernel
theorem dX9_endOrder_63 : decode cX9_endOrder 63 = .ok (.iadd, 1) := by decide +kernel
theorem dX9_endOrder_64 : decode cX9_endOrder 64 = .ok (.iconst 2, 1) := by decide +kernel
theorem dX9_endOrder_65 : decode cX9_endOrder 65 = .ok (.iadd, 1) := by decide +kernel
theorem dX9_endOrder_66 : decode cX9_endOrder 66 = .ok (.iaload, 1) := by decide +kernel
theorem dX9_endOrder_67 : decode cX9_endOrder 67 = .ok (.ireturn, 1) := by decide +kernel
set_option maxRecDepth 20000 in
theorem ggX9_tick_X9_in : GoodIn wsX9_tick wsX9_in := goodIn_r _ [5] (by decide +kernel) (by decide +kernel)
set_option maxRecDepth 20000 in
theorem gX9_tick_X9_in : GoodIn wsX9_tick (va_wsS RX9 33 yX9_in wsX9_in) := goodIn_app (goodIn_of _ (by decide +kernel)) ggX9_tick_X9_in
set_option maxRecDepth 20000 in
theorem ggX9_tick_X9_records : GoodIn wsX9_tick wsX9_records := goodIn_r _ [9, 10, 11, 12, 112, 113, 114, 115, 116, 117, 118, 119, 120, 121, 122, 123, 124, 125, 126] (by decide +kernel) (by decide +kernel)
set_option maxRecDepth 20000 in
theorem gX9_tick_X9_records : GoodIn wsX9_tick (wsV RX9 125 RX9 yX9_records wsX9_records) := goodIn_app (goodIn_of _ (by decide +kernel)) ggX9_tick_X9_records
set_option maxRecDepth 20000 in
theorem ggX9_tick_X9_goTick : GoodIn wsX9_tick wsX9_goTick := goodIn_r _ [16, 12, 17, 18, 19, 4, 20, 21, 22, 23, 24, 25, 26, 27, 28, 29, 30, 31, 32, 33, 34, 35, 36, 37, 38, 39, 40, 41, 42, 43, 44, 45, 46, 47, 48, 49, 50, 51, 52, 53, 54, 55, 56, 57, 58, 59, 1, 60, 61, 62, 63, 64, 65, 66, 67, 68, 69, 70, 71, 72, 73, 74, 75, 76, 77, 78, 79, 80, 81, 82, 83, 84, 85, 86, 87, 88, 89, 90, 91, 92, 93, 94, 95, 96, 97, 98, 99, 100, 101, 102, 103, 104, 105, 106, 107, 108, 109, 110, 111, 112, 113, 114, 115, 116, 117, 118, 119, 120, 121, 122, 123, 124, 125, 126] (by decide +kernel) (by decide +kernel)
set_option maxRecDepth 20000 in
theorem gX9_tick_X9_goTick : GoodIn wsX9_tick (wsV RX9 146 RX9 yX9_goTick wsX9_goTick) := goodIn_app (goodIn_of _ (by decide +kernel)) ggX9_tick_X9_goTick
theorem dX9_tick_0 : decode cX9_tick 0 = .ok (.iload_n 1, 1) := by decide +kernel
theorem dX9_tick_1 : decode cX9_tick 1 = .ok (.iconst 1, 1) := by decide +kernel
theorem dX9_tick_2 : decode cX9_tick 2 = .ok (.bipush 60, 2) := by decide +kernel
theorem dX9_tick_4 : decode cX9_tick 4 = .ok (.invokestatic 33, 3) := by decide +kernel
theorem dX9_tick_7 : decode cX9_tick 7 = .ok (.ifCond .ne 6, 3) := by decide +kernel
theorem dX9_tick_10 : decode cX9_tick 10 = .ok (.bipush (-2), 2) := by decide +kernel
theorem dX9_tick_12 : decode cX9_tick 12 = .ok (.ireturn, 1) := by decide +kernel
theorem dX9_tick_13 : decode cX9_tick 13 = .ok (.aload_n 0, 1) := by decide +kernel
theorem dX9_tick_14 : decode cX9_tick 14 = .ok (.invokevirtual 125, 3) := by decide +kernel
theorem dX9_tick_17 : decode cX9_tick 17 = .ok (.aload_n 0, 1) := by decide +kernel
theorem dX9_tick_18 : decode cX9_tick 18 = .ok (.iconst 0, 1) := by decide +kernel
theorem dX9_tick_19 : decode cX9_tick 19 = .ok (.putfield 84, 3) := by decide +kernel
theorem dX9_tick_22 : decode cX9_tick 22 = .ok (.iconst 0, 1) := by decide +kernel
theorem dX9_tick_23 : decode cX9_tick 23 = .ok (.istore_n 2, 1) := by decide +kernel
theorem dX9_tick_24 : decode cX9_tick 24 = .ok (.iload_n 2, 1) := by decide +kernel
theorem dX9_tick_25 : decode cX9_tick 25 = .ok (.iload_n 1, 1) := by decide +kernel
theorem dX9_tick_26 : decode cX9_tick 26 = .ok (.if_icmp .ge 13, 3) := by decide +kernel
theorem dX9_tick_29 : decode cX9_tick 29 = .ok (.aload_n 0, 1) := by decide +kernel
theorem dX9_tick_30 : decode cX9_tick 30 = .ok (.invokevirtual 146, 3) := by decide +kernel
theorem dX9_tick_33 : decode cX9_tick 33 = .ok (.iinc 2 1, 3) := by decide +kernel
theorem dX9_tick_36 : decode cX9_tick 36 = .ok (.goto (-12), 3) := by decide +kernel
theorem dX9_tick_39 : decode cX9_tick 39 = .ok (.aload_n 0, 1) := by decide +kernel
theorem dX9_tick_40 : decode cX9_tick 40 = .ok (.getfield 84, 3) := by decide +kernel
theorem dX9_tick_43 : decode cX9_tick 43 = .ok (.ireturn, 1) := by decide +kernel
theorem dX9_type_0 : decode cX9_type 0 = .ok (.aload_n 0, 1) := by decide +kernel
theorem dX9_type_1 : decode cX9_type 1 = .ok (.getfield 149, 3) := by decide +kernel
theorem dX9_type_4 : decode cX9_type 4 = .ok (.bipush 60, 2) := by decide +kernel
theorem dX9_type_6 : decode cX9_type 6 = .ok (.if_icmp .ne 6, 3) := by decide +kernel
theorem dX9_type_9 : decode cX9_type 9 = .ok (.bipush (-3), 2) := by decide +kernel
theorem dX9_type_11 : decode cX9_type 11 = .ok (.ireturn, 1) := by decide +kernel
theorem dX9_type_12 : decode cX9_type 12 = .ok (.aload_n 0, 1) := by decide +kernel
theorem dX9_type_13 : decode cX9_type 13 = .ok (.getfield 22, 3) := by decide +kernel
theorem dX9_type_16 : decode cX9_type 16 = .ok (.aload_n 0, 1) := by decide +kernel
theorem dX9_type_17 : decode cX9_type 17 = .ok (.getfield 149, 3) := by decide +kernel
theorem dX9_type_20 : decode cX9_type 20 = .ok (.iload_n 1, 1) := by decide +kernel
theorem dX9_type_21 : decode cX9_type 21 = .ok (.castore, 1) := by decide +kernel
theorem dX9_type_22 : decode cX9_type 22 = .ok (.aload_n 0, 1) := by decide +kernel
theorem dX9_type_23 : decode cX9_type 23 = .ok (.dup, 1) := by decide +kernel
theorem dX9_type_24 : decode cX9_type 24 = .ok (.getfield 149, 3) := by decide +kernel
theorem dX9_type_27 : decode cX9_type 27 = .ok (.iconst 1, 1) := by decide +kernel
theorem dX9_type_28 : decode cX9_type 28 = .ok (.iadd, 1) := by decide +kernel
theorem dX9_type_29 : decode cX9_type 29 = .ok (.putfield 149, 3) := by decide +kernel
theorem dX9_type_32 : decode cX9_type 32 = .ok (.aload_n 0, 1) := by decide +kernel
theorem dX9_type_33 : decode cX9_type 33 = .ok (.getfield 149, 3) := by decide +kernel
theorem dX9_type_36 : decode cX9_type 36 = .ok (.ireturn, 1) := by decide +kernel
theorem dX9_clearText_0 : decode cX9_clearText 0 = .ok (.aload_n 0, 1) := by decide +kernel
theorem dX9_clearText_1 : decode cX9_clearText 1 = .ok (.getfield 149, 3) := by decide +kernel
theorem dX9_clearText_4 : decode cX9_clearText 4 = .ok (.istore_n 1, 1) := by decide +kernel
theorem dX9_clearText_5 : decode cX9_clearText 5 = .ok (.aload_n 0, 1) := by decide +kernel
theorem dX9_clearText_6 : decode cX9_clearText 6 = .ok (.iconst 0, 1) := by decide +kernel
theorem dX9_clearText_7 : decode cX9_clearText 7 = .ok (.putfield 149, 3) := by decide +kernel
theorem dX9_clearText_10 : decode cX9_clearText 10 = .ok (.iload_n 1, 1) := by decide +kernel
theorem dX9_clearText_11 : decode cX9_clearText 11 = .ok (.ireturn, 1) := by decide +kernel
theorem dX9_takes_0 : decode cX9_takes 0 = .ok (.aload_n 0, 1) := by decide +kernel
theorem dX9_takes_1 : decode cX9_takes 1 = .ok (.aload_n 0, 1) := by decide +kernel
theorem dX9_takes_2 : decode cX9_takes 2 = .ok (.getfield 152, 3) := by decide +kernel
theorem dX9_takes_5 : decode cX9_takes 5 = .ok (.ifCond .ne 27, 3) := by decide +kernel
theorem dX9_takes_8 : decode cX9_takes 8 = .ok (.aload_n 0, 1) := by decide +kernel
theorem dX9_takes_9 : decode cX9_takes 9 = .ok (.getfield 156, 3) := by decide +kernel
theorem dX9_takes_12 : decode cX9_takes 12 = .ok (.aload_n 0, 1) := by decide +kernel
theorem dX9_takes_13 : decode cX9_takes 13 = .ok (.getfield 149, 3) := by decide +kernel
theorem dX9_takes_16 : decode cX9_takes 16 = .ok (.if_icmp .ge 16, 3) := by decide +kernel
theorem dX9_takes_19 : decode cX9_takes 19 = .ok (.aload_n 0, 1) := by decide +kernel
theorem dX9_takes_20 : decode cX9_takes 20 = .ok (.getfield 22, 3) := by decide +kernel
theorem dX9_takes_23 : decode cX9_takes 23 = .ok (.aload_n 0, 1) := by decide +kernel
theorem dX9_takes_24 : decode cX9_takes 24 = .ok (.getfield 156, 3) := by decide +kernel
theorem dX9_takes_27 : decode cX9_takes 27 = .ok (.caload, 1) := by decide +kernel
theorem dX9_takes_28 : decode cX9_takes 28 = .ok (.iload_n 1, 1) := by decide +kernel
theorem dX9_takes_29 : decode cX9_takes 29 = .ok (.if_icmp .eq 7, 3) := by decide +kernel
theorem dX9_takes_32 : decode cX9_takes 32 = .ok (.iconst 1, 1) := by decide +kernel
theorem dX9_takes_33 : decode cX9_takes 33 = .ok (.goto 4, 3) := by decide +kernel
theorem dX9_takes_36 : decode cX9_takes 36 = .ok (.iconst 0, 1) := by decide +kernel
theorem dX9_takes_37 : decode cX9_takes 37 = .ok (.putfield 152, 3) := by decide +kernel
theorem dX9_takes_40 : decode cX9_takes 40 = .ok (.aload_n 0, 1) := by decide +kernel
theorem dX9_takes_41 : decode cX9_takes 41 = .ok (.dup, 1) := by decide +kernel
theorem dX9_takes_42 : decode cX9_takes 42 = .ok (.getfield 156, 3) := by decide +kernel
theorem dX9_takes_45 : decode cX9_takes 45 = .ok (.aload_n 0, 1) := by decide +kernel
theorem dX9_takes_46 : decode cX9_takes 46 = .ok (.getfield 152, 3) := by decide +kernel
theorem dX9_takes_49 : decode cX9_takes 49 = .ok (.ifCond .eq 7, 3) := by decide +kernel
theorem dX9_takes_52 : decode cX9_takes 52 = .ok (.iconst 0, 1) := by decide +kernel
theorem dX9_takes_53 : decode cX9_takes 53 = .ok (.goto 4, 3) := by decide +kernel
theorem dX9_takes_56 : decode cX9_takes 56 = .ok (.iconst 1, 1) := by decide +kernel
theorem dX9_takes_57 : decode cX9_takes 57 = .ok (.iadd, 1) := by decide +kernel
theorem dX9_takes_58 : decode cX9_takes 58 = .ok (.putfield 156, 3) := by decide +kernel
theorem dX9_takes_61 : decode cX9_takes 61 = .ok (.return_, 1) := by decide +kernel
set_option maxRecDepth 20000 in
theorem ggX9_digit_X9_in : GoodIn wsX9_digit wsX9_in := goodIn_r _ [8] (by decide +kernel) (by decide +kernel)
set_option maxRecDepth 20000 in
theorem gX9_digit_X9_in : GoodIn wsX9_digit (va_wsS RX9 33 yX9_in wsX9_in) := goodIn_app (goodIn_of _ (by decide +kernel)) ggX9_digit_X9_in
theorem dX9_digit_0 : decode cX9_digit 0 = .ok (.aload_n 0, 1) := by decide +kernel
theorem dX9_digit_1 : decode cX9_digit 1 = .ok (.getfield 156, 3) := by decide +kernel
theorem dX9_digit_4 : decode cX9_digit 4 = .ok (.aload_n 0, 1) := by decide +kernel
theorem dX9_digit_5 : decode cX9_digit 5 = .ok (.getfield 149, 3) := by decide +kernel
theorem dX9_digit_8 : decode cX9_digit 8 = .ok (.if_icmp .ge 18, 3) := by decide +kernel
theorem dX9_digit_11 : decode cX9_digit 11 = .ok (.aload_n 0, 1) := by decide +kernel
theorem dX9_digit_12 : decode cX9_digit 12 = .ok (.getfield 22, 3) := by decide +kernel
theorem dX9_digit_15 : decode cX9_digit 15 = .ok (.aload_n 0, 1) := by decide +kernel
theorem dX9_digit_16 : decode cX9_digit 16 = .ok (.getfield 156, 3) := by decide +kernel
theorem dX9_digit_19 : decode cX9_digit 19 = .ok (.caload, 1) := by decide +kernel
theorem dX9_digit_20 : decode cX9_digit 20 = .ok (.bipush 48, 2) := by decide +kernel
theorem dX9_digit_22 : decode cX9_digit 22 = .ok (.isub, 1) := by decide +kernel
theorem dX9_digit_23 : decode cX9_digit 23 = .ok (.goto 5, 3) := by decide +kernel
theorem dX9_digit_26 : decode cX9_digit 26 = .ok (.bipush (-5), 2) := by decide +kernel
theorem dX9_digit_28 : decode cX9_digit 28 = .ok (.istore_n 3, 1) := by decide +kernel
theorem dX9_digit_29 : decode cX9_digit 29 = .ok (.aload_n 0, 1) := by decide +kernel
theorem dX9_digit_30 : decode cX9_digit 30 = .ok (.aload_n 0, 1) := by decide +kernel
theorem dX9_digit_31 : decode cX9_digit 31 = .ok (.getfield 152, 3) := by decide +kernel
theorem dX9_digit_34 : decode cX9_digit 34 = .ok (.ifCond .ne 12, 3) := by decide +kernel
theorem dX9_digit_37 : decode cX9_digit 37 = .ok (.iload_n 3, 1) := by decide +kernel
theorem dX9_digit_38 : decode cX9_digit 38 = .ok (.iload_n 1, 1) := by decide +kernel
theorem dX9_digit_39 : decode cX9_digit 39 = .ok (.iload_n 2, 1) := by decide +kernel
theorem dX9_digit_40 : decode cX9_digit 40 = .ok (.invokestatic 33, 3) := by decide +kernel
theorem dX9_digit_43 : decode cX9_digit 43 = .ok (.ifCond .ne 7, 3) := by decide +kernel
theorem dX9_digit_46 : decode cX9_digit 46 = .ok (.iconst 1, 1) := by decide +kernel
theorem dX9_digit_47 : decode cX9_digit 47 = .ok (.goto 4, 3) := by decide +kernel
theorem dX9_digit_50 : decode cX9_digit 50 = .ok (.iconst 0, 1) := by decide +kernel
theorem dX9_digit_51 : decode cX9_digit 51 = .ok (.putfield 152, 3) := by decide +kernel
theorem dX9_digit_54 : decode cX9_digit 54 = .ok (.aload_n 0, 1) := by decide +kernel
theorem dX9_digit_55 : decode cX9_digit 55 = .ok (.dup, 1) := by decide +kernel
theorem dX9_digit_56 : decode cX9_digit 56 = .ok (.getfield 156, 3) := by decide +kernel
theorem dX9_digit_59 : decode cX9_digit 59 = .ok (.aload_n 0, 1) := by decide +kernel
theorem dX9_digit_60 : decode cX9_digit 60 = .ok (.getfield 152, 3) := by decide +kernel
theorem dX9_digit_63 : decode cX9_digit 63 = .ok (.ifCond .eq 7, 3) := by decide +kernel
theorem dX9_digit_66 : decode cX9_digit 66 = .ok (.iconst 0, 1) := by decide +kernel
theorem dX9_digit_67 : decode cX9_digit 67 = .ok (.goto 4, 3) := by decide +kernel
theorem dX9_digit_70 : decode cX9_digit 70 = .ok (.iconst 1, 1) := by decide +kernel
theorem dX9_digit_71 : decode cX9_digit 71 = .ok (.iadd, 1) := by decide +kernel
theorem dX9_digit_72 : decode cX9_digit 72 = .ok (.putfield 156, 3) := by decide +kernel
theorem dX9_digit_75 : decode cX9_digit 75 = .ok (.aload_n 0, 1) := by decide +kernel
theorem dX9_digit_76 : decode cX9_digit 76 = .ok (.getfield 152, 3) := by decide +kernel
theorem dX9_digit_79 : decode cX9_digit 79 = .ok (.ifCond .eq 7, 3) := by decide +kernel
theorem dX9_digit_82 : decode cX9_digit 82 = .ok (.iconst 0, 1) := by decide +kernel
theorem dX9_digit_83 : decode cX9_digit 83 = .ok (.goto 4, 3) := by decide +kernel
theorem dX9_digit_86 : decode cX9_digit 86 = .ok (.iload_n 3, 1) := by decide +kernel
theorem dX9_digit_87 : decode cX9_digit 87 = .ok (.ireturn, 1) := by decide +kernel
