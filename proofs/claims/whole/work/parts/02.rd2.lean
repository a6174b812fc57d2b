set_option maxRecDepth 20000 in
theorem ggX9_readValue_X9_digit : GoodIn wsX9_readValue wsX9_digit := goodIn_r _ [8, 1, 2, 3, 9, 10, 11, 7, 12, 13, 14, 15, 16, 17, 18, 19, 20, 21, 22, 23, 24, 25, 26, 27] (by decide +kernel) (by decide +kernel)
set_option maxRecDepth 20000 in
theorem gX9_readValue_X9_digit : GoodIn wsX9_readValue (wsV RX9 159 RX9 yX9_digit wsX9_digit) := goodIn_app (goodIn_of _ (by decide +kernel)) ggX9_readValue_X9_digit
set_option maxRecDepth 20000 in
theorem ggX9_readValue_X9_in : GoodIn wsX9_readValue wsX9_in := goodIn_r _ [12] (by decide +kernel) (by decide +kernel)
set_option maxRecDepth 20000 in
theorem gX9_readValue_X9_in : GoodIn wsX9_readValue (va_wsS RX9 33 yX9_in wsX9_in) := goodIn_app (goodIn_of _ (by decide +kernel)) ggX9_readValue_X9_in
theorem dX9_readValue_0 : decode cX9_readValue 0 = .ok (.aload_n 0, 1) := by decide +kernel
theorem dX9_readValue_1 : decode cX9_readValue 1 = .ok (.iconst 0, 1) := by decide +kernel
theorem dX9_readValue_2 : decode cX9_readValue 2 = .ok (.bipush 9, 2) := by decide +kernel
theorem dX9_readValue_4 : decode cX9_readValue 4 = .ok (.invokevirtual 159, 3) := by decide +kernel
theorem dX9_readValue_7 : decode cX9_readValue 7 = .ok (.istore_n 1, 1) := by decide +kernel
theorem dX9_readValue_8 : decode cX9_readValue 8 = .ok (.iconst 1, 1) := by decide +kernel
theorem dX9_readValue_9 : decode cX9_readValue 9 = .ok (.istore_n 2, 1) := by decide +kernel
theorem dX9_readValue_10 : decode cX9_readValue 10 = .ok (.iload_n 2, 1) := by decide +kernel
theorem dX9_readValue_11 : decode cX9_readValue 11 = .ok (.iconst 5, 1) := by decide +kernel
theorem dX9_readValue_12 : decode cX9_readValue 12 = .ok (.if_icmp .ge 71, 3) := by decide +kernel
theorem dX9_readValue_15 : decode cX9_readValue 15 = .ok (.iload_n 1, 1) := by decide +kernel
theorem dX9_readValue_16 : decode cX9_readValue 16 = .ok (.ifCond .le 67, 3) := by decide +kernel
theorem dX9_readValue_19 : decode cX9_readValue 19 = .ok (.aload_n 0, 1) := by decide +kernel
theorem dX9_readValue_20 : decode cX9_readValue 20 = .ok (.getfield 156, 3) := by decide +kernel
theorem dX9_readValue_23 : decode cX9_readValue 23 = .ok (.aload_n 0, 1) := by decide +kernel
theorem dX9_readValue_24 : decode cX9_readValue 24 = .ok (.getfield 149, 3) := by decide +kernel
theorem dX9_readValue_27 : decode cX9_readValue 27 = .ok (.if_icmp .ge 56, 3) := by decide +kernel
theorem dX9_readValue_30 : decode cX9_readValue 30 = .ok (.aload_n 0, 1) := by decide +kernel
theorem dX9_readValue_31 : decode cX9_readValue 31 = .ok (.getfield 22, 3) := by decide +kernel
theorem dX9_readValue_34 : decode cX9_readValue 34 = .ok (.aload_n 0, 1) := by decide +kernel
theorem dX9_readValue_35 : decode cX9_readValue 35 = .ok (.getfield 156, 3) := by decide +kernel
theorem dX9_readValue_38 : decode cX9_readValue 38 = .ok (.caload, 1) := by decide +kernel
theorem dX9_readValue_39 : decode cX9_readValue 39 = .ok (.bipush 48, 2) := by decide +kernel
theorem dX9_readValue_41 : decode cX9_readValue 41 = .ok (.bipush 57, 2) := by decide +kernel
theorem dX9_readValue_43 : decode cX9_readValue 43 = .ok (.invokestatic 33, 3) := by decide +kernel
theorem dX9_readValue_46 : decode cX9_readValue 46 = .ok (.ifCond .eq 37, 3) := by decide +kernel
theorem dX9_readValue_49 : decode cX9_readValue 49 = .ok (.bipush 10, 2) := by decide +kernel
theorem dX9_readValue_51 : decode cX9_readValue 51 = .ok (.iload_n 1, 1) := by decide +kernel
theorem dX9_readValue_52 : decode cX9_readValue 52 = .ok (.imul, 1) := by decide +kernel
theorem dX9_readValue_53 : decode cX9_readValue 53 = .ok (.aload_n 0, 1) := by decide +kernel
theorem dX9_readValue_54 : decode cX9_readValue 54 = .ok (.getfield 22, 3) := by decide +kernel
theorem dX9_readValue_57 : decode cX9_readValue 57 = .ok (.aload_n 0, 1) := by decide +kernel
theorem dX9_readValue_58 : decode cX9_readValue 58 = .ok (.getfield 156, 3) := by decide +kernel
theorem dX9_readValue_61 : decode cX9_readValue 61 = .ok (.caload, 1) := by decide +kernel
theorem dX9_readValue_62 : decode cX9_readValue 62 = .ok (.iadd, 1) := by decide +kernel
theorem dX9_readValue_63 : decode cX9_readValue 63 = .ok (.bipush 48, 2) := by decide +kernel
theorem dX9_readValue_65 : decode cX9_readValue 65 = .ok (.isub, 1) := by decide +kernel
theorem dX9_readValue_66 : decode cX9_readValue 66 = .ok (.istore_n 1, 1) := by decide +kernel
theorem dX9_readValue_67 : decode cX9_readValue 67 = .ok (.aload_n 0, 1) := by decide +kernel
theorem dX9_readValue_68 : decode cX9_readValue 68 = .ok (.dup, 1) := by decide +kernel
theorem dX9_readValue_69 : decode cX9_readValue 69 = .ok (.getfield 156, 3) := by decide +kernel
theorem dX9_readValue_72 : decode cX9_readValue 72 = .ok (.iconst 1, 1) := by decide +kernel
theorem dX9_readValue_73 : decode cX9_readValue 73 = .ok (.iadd, 1) := by decide +kernel
theorem dX9_readValue_74 : decode cX9_readValue 74 = .ok (.putfield 156, 3) := by decide +kernel
theorem dX9_readValue_77 : decode cX9_readValue 77 = .ok (.iinc 2 1, 3) := by decide +kernel
theorem dX9_readValue_80 : decode cX9_readValue 80 = .ok (.goto (-70), 3) := by decide +kernel
theorem dX9_readValue_83 : decode cX9_readValue 83 = .ok (.iload_n 1, 1) := by decide +kernel
theorem dX9_readValue_84 : decode cX9_readValue 84 = .ok (.ireturn, 1) := by decide +kernel
set_option maxRecDepth 20000 in
theorem ggX9_readStation_X9_digit : GoodIn wsX9_readStation wsX9_digit := goodIn_r _ [5, 6, 7, 8, 9, 10, 11, 4, 12, 13, 14, 15, 16, 17, 18, 19, 20, 21, 22, 23, 24, 25, 26, 27] (by decide +kernel) (by decide +kernel)
set_option maxRecDepth 20000 in
theorem gX9_readStation_X9_digit : GoodIn wsX9_readStation (wsV RX9 159 RX9 yX9_digit wsX9_digit) := goodIn_app (goodIn_of _ (by decide +kernel)) ggX9_readStation_X9_digit
theorem dX9_readStation_0 : decode cX9_readStation 0 = .ok (.aload_n 0, 1) := by decide +kernel
theorem dX9_readStation_1 : decode cX9_readStation 1 = .ok (.iconst 0, 1) := by decide +kernel
theorem dX9_readStation_2 : decode cX9_readStation 2 = .ok (.iconst 1, 1) := by decide +kernel
theorem dX9_readStation_3 : decode cX9_readStation 3 = .ok (.invokevirtual 159, 3) := by decide +kernel
theorem dX9_readStation_6 : decode cX9_readStation 6 = .ok (.istore_n 1, 1) := by decide +kernel
theorem dX9_readStation_7 : decode cX9_readStation 7 = .ok (.bipush 10, 2) := by decide +kernel
theorem dX9_readStation_9 : decode cX9_readStation 9 = .ok (.iload_n 1, 1) := by decide +kernel
theorem dX9_readStation_10 : decode cX9_readStation 10 = .ok (.imul, 1) := by decide +kernel
theorem dX9_readStation_11 : decode cX9_readStation 11 = .ok (.aload_n 0, 1) := by decide +kernel
theorem dX9_readStation_12 : decode cX9_readStation 12 = .ok (.iconst 0, 1) := by decide +kernel
theorem dX9_readStation_13 : decode cX9_readStation 13 = .ok (.iconst 5, 1) := by decide +kernel
theorem dX9_readStation_14 : decode cX9_readStation 14 = .ok (.invokevirtual 159, 3) := by decide +kernel
theorem dX9_readStation_17 : decode cX9_readStation 17 = .ok (.iadd, 1) := by decide +kernel
theorem dX9_readStation_18 : decode cX9_readStation 18 = .ok (.ireturn, 1) := by decide +kernel
set_option maxRecDepth 20000 in
theorem ggX9_readTicket_X9_readValue : GoodIn wsX9_readTicket wsX9_readValue := goodIn_r _ [7, 8, 9, 10, 11, 12, 13, 6, 14, 15, 16, 17, 18, 27, 28, 29, 30, 31, 32, 33, 34, 35, 36, 37, 38, 39, 40, 41] (by decide +kernel) (by decide +kernel)
set_option maxRecDepth 20000 in
theorem gX9_readTicket_X9_readValue : GoodIn wsX9_readTicket (wsV RX9 165 RX9 yX9_readValue wsX9_readValue) := goodIn_app (goodIn_of _ (by decide +kernel)) ggX9_readTicket_X9_readValue
set_option maxRecDepth 20000 in
theorem ggX9_readTicket_X9_takes : GoodIn wsX9_readTicket wsX9_takes := goodIn_r _ [22, 15, 8, 9, 10, 27, 28, 29, 30, 31, 32, 33, 34, 35, 36, 37, 38, 39, 40, 41] (by decide +kernel) (by decide +kernel)
set_option maxRecDepth 20000 in
theorem gX9_readTicket_X9_takes : GoodIn wsX9_readTicket (wsV RX9 169 RX9 yX9_takes wsX9_takes) := goodIn_app (goodIn_of _ (by decide +kernel)) ggX9_readTicket_X9_takes
set_option maxRecDepth 20000 in
theorem ggX9_readTicket_X9_digit : GoodIn wsX9_readTicket wsX9_digit := goodIn_r _ [14, 8, 9, 10, 15, 16, 17, 6, 18, 27, 28, 29, 30, 31, 32, 33, 34, 35, 36, 37, 38, 39, 40, 41] (by decide +kernel) (by decide +kernel)
set_option maxRecDepth 20000 in
theorem gX9_readTicket_X9_digit : GoodIn wsX9_readTicket (wsV RX9 159 RX9 yX9_digit wsX9_digit) := goodIn_app (goodIn_of _ (by decide +kernel)) ggX9_readTicket_X9_digit
set_option maxRecDepth 20000 in
theorem ggX9_readTicket_X9_readStation : GoodIn wsX9_readTicket wsX9_readStation := goodIn_r _ [26, 11, 12, 13, 6, 14, 8, 9, 10, 15, 16, 17, 18, 27, 28, 29, 30, 31, 32, 33, 34, 35, 36, 37, 38, 39, 40, 41] (by decide +kernel) (by decide +kernel)
set_option maxRecDepth 20000 in
theorem gX9_readTicket_X9_readStation : GoodIn wsX9_readTicket (wsV RX9 173 RX9 yX9_readStation wsX9_readStation) := goodIn_app (goodIn_of _ (by decide +kernel)) ggX9_readTicket_X9_readStation
theorem dX9_readTicket_0 : decode cX9_readTicket 0 = .ok (.iconst 5, 1) := by decide +kernel
theorem dX9_readTicket_1 : decode cX9_readTicket 1 = .ok (.aload_n 0, 1) := by decide +kernel
theorem dX9_readTicket_2 : decode cX9_readTicket 2 = .ok (.getfield 162, 3) := by decide +kernel
theorem dX9_readTicket_5 : decode cX9_readTicket 5 = .ok (.imul, 1) := by decide +kernel
theorem dX9_readTicket_6 : decode cX9_readTicket 6 = .ok (.istore_n 1, 1) := by decide +kernel
theorem dX9_readTicket_7 : decode cX9_readTicket 7 = .ok (.aload_n 0, 1) := by decide +kernel
theorem dX9_readTicket_8 : decode cX9_readTicket 8 = .ok (.getfield 26, 3) := by decide +kernel
theorem dX9_readTicket_11 : decode cX9_readTicket 11 = .ok (.iload_n 1, 1) := by decide +kernel
theorem dX9_readTicket_12 : decode cX9_readTicket 12 = .ok (.aload_n 0, 1) := by decide +kernel
theorem dX9_readTicket_13 : decode cX9_readTicket 13 = .ok (.invokevirtual 165, 3) := by decide +kernel
theorem dX9_readTicket_16 : decode cX9_readTicket 16 = .ok (.iastore, 1) := by decide +kernel
theorem dX9_readTicket_17 : decode cX9_readTicket 17 = .ok (.aload_n 0, 1) := by decide +kernel
theorem dX9_readTicket_18 : decode cX9_readTicket 18 = .ok (.bipush 44, 2) := by decide +kernel
theorem dX9_readTicket_20 : decode cX9_readTicket 20 = .ok (.invokevirtual 169, 3) := by decide +kernel
theorem dX9_readTicket_23 : decode cX9_readTicket 23 = .ok (.aload_n 0, 1) := by decide +kernel
theorem dX9_readTicket_24 : decode cX9_readTicket 24 = .ok (.getfield 26, 3) := by decide +kernel
theorem dX9_readTicket_27 : decode cX9_readTicket 27 = .ok (.iload_n 1, 1) := by decide +kernel
theorem dX9_readTicket_28 : decode cX9_readTicket 28 = .ok (.iconst 1, 1) := by decide +kernel
theorem dX9_readTicket_29 : decode cX9_readTicket 29 = .ok (.iadd, 1) := by decide +kernel
theorem dX9_readTicket_30 : decode cX9_readTicket 30 = .ok (.aload_n 0, 1) := by decide +kernel
theorem dX9_readTicket_31 : decode cX9_readTicket 31 = .ok (.iconst 1, 1) := by decide +kernel
theorem dX9_readTicket_32 : decode cX9_readTicket 32 = .ok (.iconst 3, 1) := by decide +kernel
theorem dX9_readTicket_33 : decode cX9_readTicket 33 = .ok (.invokevirtual 159, 3) := by decide +kernel
theorem dX9_readTicket_36 : decode cX9_readTicket 36 = .ok (.iastore, 1) := by decide +kernel
theorem dX9_readTicket_37 : decode cX9_readTicket 37 = .ok (.aload_n 0, 1) := by decide +kernel
theorem dX9_readTicket_38 : decode cX9_readTicket 38 = .ok (.bipush 44, 2) := by decide +kernel
theorem dX9_readTicket_40 : decode cX9_readTicket 40 = .ok (.invokevirtual 169, 3) := by decide +kernel
theorem dX9_readTicket_43 : decode cX9_readTicket 43 = .ok (.aload_n 0, 1) := by decide +kernel
theorem dX9_readTicket_44 : decode cX9_readTicket 44 = .ok (.getfield 26, 3) := by decide +kernel
theorem dX9_readTicket_47 : decode cX9_readTicket 47 = .ok (.iload_n 1, 1) := by decide +kernel
theorem dX9_readTicket_48 : decode cX9_readTicket 48 = .ok (.iconst 2, 1) := by decide +kernel
theorem dX9_readTicket_49 : decode cX9_readTicket 49 = .ok (.iadd, 1) := by decide +kernel
theorem dX9_readTicket_50 : decode cX9_readTicket 50 = .ok (.aload_n 0, 1) := by decide +kernel
theorem dX9_readTicket_51 : decode cX9_readTicket 51 = .ok (.invokevirtual 173, 3) := by decide +kernel
theorem dX9_readTicket_54 : decode cX9_readTicket 54 = .ok (.iastore, 1) := by decide +kernel
theorem dX9_readTicket_55 : decode cX9_readTicket 55 = .ok (.aload_n 0, 1) := by decide +kernel
theorem dX9_readTicket_56 : decode cX9_readTicket 56 = .ok (.bipush 62, 2) := by decide +kernel
theorem dX9_readTicket_58 : decode cX9_readTicket 58 = .ok (.invokevirtual 169, 3) := by decide +kernel
theorem dX9_readTicket_61 : decode cX9_readTicket 61 = .ok (.aload_n 0, 1) := by decide +kernel
theorem dX9_readTicket_62 : decode cX9_readTicket 62 = .ok (.getfield 26, 3) := by decide +kernel
theorem dX9_readTicket_65 : decode cX9_readTicket 65 = .ok (.iload_n 1, 1) := by decide +kernel
theorem dX9_readTicket_66 : decode cX9_readTicket 66 = .ok (.iconst 3, 1) := by decide +kernel
theorem dX9_readTicket_67 : decode cX9_readTicket 67 = .ok (.iadd, 1) := by decide +kernel
theorem dX9_readTicket_68 : decode cX9_readTicket 68 = .ok (.aload_n 0, 1) := by decide +kernel
theorem dX9_readTicket_69 : decode cX9_readTicket 69 = .ok (.invokevirtual 173, 3) := by decide +kernel
theorem dX9_readTicket_72 : decode cX9_readTicket 72 = .ok (.iastore, 1) := by decide +kernel
theorem dX9_readTicket_73 : decode cX9_readTicket 73 = .ok (.aload_n 0, 1) := by decide +kernel
theorem dX9_readTicket_74 : decode cX9_readTicket 74 = .ok (.bipush 42, 2) := by decide +kernel
theorem dX9_readTicket_76 : decode cX9_readTicket 76 = .ok (.invokevirtual 169, 3) := by decide +kernel
theorem dX9_readTicket_79 : decode cX9_readTicket 79 = .ok (.aload_n 0, 1) := by decide +kernel
theorem dX9_readTicket_80 : decode cX9_readTicket 80 = .ok (.getfield 26, 3) := by decide +kernel
theorem dX9_readTicket_83 : decode cX9_readTicket 83 = .ok (.iload_n 1, 1) := by decide +kernel
theorem dX9_readTicket_84 : decode cX9_readTicket 84 = .ok (.iconst 4, 1) := by decide +kernel
theorem dX9_readTicket_85 : decode cX9_readTicket 85 = .ok (.iadd, 1) := by decide +kernel
theorem dX9_readTicket_86 : decode cX9_readTicket 86 = .ok (.aload_n 0, 1) := by decide +kernel
theorem dX9_readTicket_87 : decode cX9_readTicket 87 = .ok (.iconst 1, 1) := by decide +kernel
theorem dX9_readTicket_88 : decode cX9_readTicket 88 = .ok (.bipush 9, 2) := by decide +kernel
theorem dX9_readTicket_90 : decode cX9_readTicket 90 = .ok (.invokevirtual 159, 3) := by decide +kernel
theorem dX9_readTicket_93 : decode cX9_readTicket 93 = .ok (.iastore, 1) := by decide +kernel
theorem dX9_readTicket_94 : decode cX9_readTicket 94 = .ok (.aload_n 0, 1) := by decide +kernel
theorem dX9_readTicket_95 : decode cX9_readTicket 95 = .ok (.dup, 1) := by decide +kernel
theorem dX9_readTicket_96 : decode cX9_readTicket 96 = .ok (.getfield 162, 3) := by decide +kernel
theorem dX9_readTicket_99 : decode cX9_readTicket 99 = .ok (.iconst 1, 1) := by decide +kernel
theorem dX9_readTicket_100 : decode cX9_readTicket 100 = .ok (.iadd, 1) := by decide +kernel
theorem dX9_readTicket_101 : decode cX9_readTicket 101 = .ok (.putfield 162, 3) := by decide +kernel
theorem dX9_readTicket_104 : decode cX9_readTicket 104 = .ok (.return_, 1) := by decide +kernel
set_option maxRecDepth 20000 in
theorem ggX9_readAll_X9_readTicket : GoodIn wsX9_readAll wsX9_readTicket := goodIn_r _ [9, 3, 10, 11, 12, 13, 8, 14, 1, 4, 15, 16, 17, 18, 19, 2, 20, 21, 22, 23, 24, 25, 26, 27, 28, 29, 30, 31, 32, 33, 34, 35, 36, 37, 38, 39, 40, 41, 42, 43, 44, 45] (by decide +kernel) (by decide +kernel)
set_option maxRecDepth 20000 in
theorem gX9_readAll_X9_readTicket : GoodIn wsX9_readAll (wsV RX9 176 RX9 yX9_readTicket wsX9_readTicket) := goodIn_app (goodIn_of _ (by decide +kernel)) ggX9_readAll_X9_readTicket
set_option maxRecDepth 20000 in
theorem ggX9_readAll_X9_takes : GoodIn wsX9_readAll wsX9_takes := goodIn_r _ [26, 2, 1, 4, 15, 31, 32, 33, 34, 35, 36, 37, 38, 39, 40, 41, 42, 43, 44, 45] (by decide +kernel) (by decide +kernel)
set_option maxRecDepth 20000 in
theorem gX9_readAll_X9_takes : GoodIn wsX9_readAll (wsV RX9 169 RX9 yX9_takes wsX9_takes) := goodIn_app (goodIn_of _ (by decide +kernel)) ggX9_readAll_X9_takes
theorem dX9_readAll_0 : decode cX9_readAll 0 = .ok (.aload_n 0, 1) := by decide +kernel
theorem dX9_readAll_1 : decode cX9_readAll 1 = .ok (.iconst 0, 1) := by decide +kernel
theorem dX9_readAll_2 : decode cX9_readAll 2 = .ok (.putfield 156, 3) := by decide +kernel
theorem dX9_readAll_5 : decode cX9_readAll 5 = .ok (.aload_n 0, 1) := by decide +kernel
theorem dX9_readAll_6 : decode cX9_readAll 6 = .ok (.iconst 0, 1) := by decide +kernel
theorem dX9_readAll_7 : decode cX9_readAll 7 = .ok (.putfield 152, 3) := by decide +kernel
theorem dX9_readAll_10 : decode cX9_readAll 10 = .ok (.aload_n 0, 1) := by decide +kernel
theorem dX9_readAll_11 : decode cX9_readAll 11 = .ok (.iconst 0, 1) := by decide +kernel
theorem dX9_readAll_12 : decode cX9_readAll 12 = .ok (.putfield 162, 3) := by decide +kernel
theorem dX9_readAll_15 : decode cX9_readAll 15 = .ok (.aload_n 0, 1) := by decide +kernel
theorem dX9_readAll_16 : decode cX9_readAll 16 = .ok (.invokevirtual 176, 3) := by decide +kernel
theorem dX9_readAll_19 : decode cX9_readAll 19 = .ok (.aload_n 0, 1) := by decide +kernel
theorem dX9_readAll_20 : decode cX9_readAll 20 = .ok (.getfield 152, 3) := by decide +kernel
theorem dX9_readAll_23 : decode cX9_readAll 23 = .ok (.ifCond .ne 34, 3) := by decide +kernel
theorem dX9_readAll_26 : decode cX9_readAll 26 = .ok (.aload_n 0, 1) := by decide +kernel
theorem dX9_readAll_27 : decode cX9_readAll 27 = .ok (.getfield 156, 3) := by decide +kernel
theorem dX9_readAll_30 : decode cX9_readAll 30 = .ok (.aload_n 0, 1) := by decide +kernel
theorem dX9_readAll_31 : decode cX9_readAll 31 = .ok (.getfield 149, 3) := by decide +kernel
theorem dX9_readAll_34 : decode cX9_readAll 34 = .ok (.if_icmp .ge 23, 3) := by decide +kernel
theorem dX9_readAll_37 : decode cX9_readAll 37 = .ok (.aload_n 0, 1) := by decide +kernel
theorem dX9_readAll_38 : decode cX9_readAll 38 = .ok (.bipush 59, 2) := by decide +kernel
theorem dX9_readAll_40 : decode cX9_readAll 40 = .ok (.invokevirtual 169, 3) := by decide +kernel
theorem dX9_readAll_43 : decode cX9_readAll 43 = .ok (.aload_n 0, 1) := by decide +kernel
theorem dX9_readAll_44 : decode cX9_readAll 44 = .ok (.getfield 152, 3) := by decide +kernel
theorem dX9_readAll_47 : decode cX9_readAll 47 = .ok (.ifCond .ne (-28), 3) := by decide +kernel
theorem dX9_readAll_50 : decode cX9_readAll 50 = .ok (.aload_n 0, 1) := by decide +kernel
theorem dX9_readAll_51 : decode cX9_readAll 51 = .ok (.invokevirtual 176, 3) := by decide +kernel
theorem dX9_readAll_54 : decode cX9_readAll 54 = .ok (.goto (-35), 3) := by decide +kernel
theorem dX9_readAll_57 : decode cX9_readAll 57 = .ok (.return_, 1) := by decide +kernel
set_option maxRecDepth 20000 in
theorem ggX9_readTickets_X9_readAll : GoodIn wsX9_readTickets wsX9_readAll := goodIn_r _ [10, 2, 1, 3, 11, 12, 13, 14, 9, 15, 4, 16, 17, 18, 19, 20, 21, 22, 23, 24, 25, 26, 27, 28, 29, 30, 31, 32, 33, 34, 35, 74, 75, 76, 77, 78, 79, 80, 81, 82, 83, 84, 85, 86, 87, 88] (by decide +kernel) (by decide +kernel)
set_option maxRecDepth 20000 in
theorem gX9_readTickets_X9_readAll : GoodIn wsX9_readTickets (wsV RX9 179 RX9 yX9_readAll wsX9_readAll) := goodIn_app (goodIn_of _ (by decide +kernel)) ggX9_readTickets_X9_readAll
set_option maxRecDepth 20000 in
theorem ggX9_readTickets_X9_against : GoodIn wsX9_readTickets wsX9_against := goodIn_r _ [39, 40, 41, 42, 9, 43, 25, 26, 27, 44, 45, 46, 47, 5, 48, 49, 50, 51, 74, 75, 76, 77, 78, 79, 80, 81, 82, 83, 84, 85, 86, 87, 88] (by decide +kernel) (by decide +kernel)
set_option maxRecDepth 20000 in
theorem gX9_readTickets_X9_against : GoodIn wsX9_readTickets (wsV RX9 137 RX9 yX9_against wsX9_against) := goodIn_app (goodIn_of _ (by decide +kernel)) ggX9_readTickets_X9_against
set_option maxRecDepth 20000 in
theorem ggX9_readTickets_X9_records : GoodIn wsX9_readTickets wsX9_records := goodIn_r _ [55, 56, 57, 5, 74, 75, 76, 77, 78, 79, 80, 81, 82, 83, 84, 85, 86, 87, 88] (by decide +kernel) (by decide +kernel)
set_option maxRecDepth 20000 in
theorem gX9_readTickets_X9_records : GoodIn wsX9_readTickets (wsV RX9 125 RX9 yX9_records wsX9_records) := goodIn_app (goodIn_of _ (by decide +kernel)) ggX9_readTickets_X9_records
set_option maxRecDepth 20000 in
theorem ggX9_readTickets_X9_comes : GoodIn wsX9_readTickets wsX9_comes := goodIn_r _ [61, 5, 62, 63, 64, 9, 65, 66, 67, 68, 69, 70, 71, 72, 73, 74, 75, 76, 77, 78, 79, 80, 81, 82, 83, 84, 85, 86, 87, 88] (by decide +kernel) (by decide +kernel)
set_option maxRecDepth 20000 in
theorem gX9_readTickets_X9_comes : GoodIn wsX9_readTickets (wsV RX9 74 RX9 yX9_comes wsX9_comes) := goodIn_app (goodIn_of _ (by decide +kernel)) ggX9_readTickets_X9_comes
set_option maxRecDepth 20000 in
theorem ggX9_readTickets_X9_of : GoodIn wsX9_readTickets wsX9_of := goodIn_r _ [73, 5, 74, 75, 76, 77, 78, 79, 80, 81, 82, 83, 84, 85, 86, 87, 88] (by decide +kernel) (by decide +kernel)
set_option maxRecDepth 20000 in
theorem gX9_readTickets_X9_of : GoodIn wsX9_readTickets (wsV RX9 46 RX9 yX9_of wsX9_of) := goodIn_app (goodIn_of _ (by decide +kernel)) ggX9_readTickets_X9_of
theorem dX9_readTickets_0 : decode cX9_readTickets 0 = .ok (.aload_n 0, 1) := by decide +kernel
theorem dX9_readTickets_1 : decode cX9_readTickets 1 = .ok (.invokevirtual 179, 3) := by decide +kernel
theorem dX9_readTickets_4 : decode cX9_readTickets 4 = .ok (.aload_n 0, 1) := by decide +kernel
theorem dX9_readTickets_5 : decode cX9_readTickets 5 = .ok (.getfield 152, 3) := by decide +kernel
theorem dX9_readTickets_8 : decode cX9_readTickets 8 = .ok (.ifCond .eq 11, 3) := by decide +kernel
theorem dX9_readTickets_11 : decode cX9_readTickets 11 = .ok (.bipush (-100), 2) := by decide +kernel
theorem dX9_readTickets_13 : decode cX9_readTickets 13 = .ok (.aload_n 0, 1) := by decide +kernel
theorem dX9_readTickets_14 : decode cX9_readTickets 14 = .ok (.getfield 156, 3) := by decide +kernel
theorem dX9_readTickets_17 : decode cX9_readTickets 17 = .ok (.isub, 1) := by decide +kernel
theorem dX9_readTickets_18 : decode cX9_readTickets 18 = .ok (.ireturn, 1) := by decide +kernel
theorem dX9_readTickets_19 : decode cX9_readTickets 19 = .ok (.iconst 0, 1) := by decide +kernel
theorem dX9_readTickets_20 : decode cX9_readTickets 20 = .ok (.istore_n 1, 1) := by decide +kernel
theorem dX9_readTickets_21 : decode cX9_readTickets 21 = .ok (.iload_n 1, 1) := by decide +kernel
theorem dX9_readTickets_22 : decode cX9_readTickets 22 = .ok (.iconst 5, 1) := by decide +kernel
theorem dX9_readTickets_23 : decode cX9_readTickets 23 = .ok (.aload_n 0, 1) := by decide +kernel
theorem dX9_readTickets_24 : decode cX9_readTickets 24 = .ok (.getfield 162, 3) := by decide +kernel
theorem dX9_readTickets_27 : decode cX9_readTickets 27 = .ok (.imul, 1) := by decide +kernel
theorem dX9_readTickets_28 : decode cX9_readTickets 28 = .ok (.if_icmp .ge 58, 3) := by decide +kernel
theorem dX9_readTickets_31 : decode cX9_readTickets 31 = .ok (.aload_n 0, 1) := by decide +kernel
theorem dX9_readTickets_32 : decode cX9_readTickets 32 = .ok (.aload_n 0, 1) := by decide +kernel
theorem dX9_readTickets_33 : decode cX9_readTickets 33 = .ok (.getfield 26, 3) := by decide +kernel
theorem dX9_readTickets_36 : decode cX9_readTickets 36 = .ok (.iload_n 1, 1) := by decide +kernel
theorem dX9_readTickets_37 : decode cX9_readTickets 37 = .ok (.iaload, 1) := by decide +kernel
theorem dX9_readTickets_38 : decode cX9_readTickets 38 = .ok (.aload_n 0, 1) := by decide +kernel
theorem dX9_readTickets_39 : decode cX9_readTickets 39 = .ok (.getfield 26, 3) := by decide +kernel
theorem dX9_readTickets_42 : decode cX9_readTickets 42 = .ok (.iload_n 1, 1) := by decide +kernel
theorem dX9_readTickets_43 : decode cX9_readTickets 43 = .ok (.iconst 1, 1) := by decide +kernel
theorem dX9_readTickets_44 : decode cX9_readTickets 44 = .ok (.iadd, 1) := by decide +kernel
theorem dX9_readTickets_45 : decode cX9_readTickets 45 = .ok (.iaload, 1) := by decide +kernel
theorem dX9_readTickets_46 : decode cX9_readTickets 46 = .ok (.aload_n 0, 1) := by decide +kernel
theorem dX9_readTickets_47 : decode cX9_readTickets 47 = .ok (.getfield 26, 3) := by decide +kernel
theorem dX9_readTickets_50 : decode cX9_readTickets 50 = .ok (.iload_n 1, 1) := by decide +kernel
theorem dX9_readTickets_51 : decode cX9_readTickets 51 = .ok (.iconst 2, 1) := by decide +kernel
theorem dX9_readTickets_52 : decode cX9_readTickets 52 = .ok (.iadd, 1) := by decide +kernel
theorem dX9_readTickets_53 : decode cX9_readTickets 53 = .ok (.iaload, 1) := by decide +kernel
theorem dX9_readTickets_54 : decode cX9_readTickets 54 = .ok (.aload_n 0, 1) := by decide +kernel
theorem dX9_readTickets_55 : decode cX9_readTickets 55 = .ok (.getfield 26, 3) := by decide +kernel
theorem dX9_readTickets_58 : decode cX9_readTickets 58 = .ok (.iload_n 1, 1) := by decide +kernel
theorem dX9_readTickets_59 : decode cX9_readTickets 59 = .ok (.iconst 3, 1) := by decide +kernel
theorem dX9_readTickets_60 : decode cX9_readTickets 60 = .ok (.iadd, 1) := by decide +kernel
theorem dX9_readTickets_61 : decode cX9_readTickets 61 = .ok (.iaload, 1) := by decide +kernel
theorem dX9_readTickets_62 : decode cX9_readTickets 62 = .ok (.aload_n 0, 1) := by decide +kernel
theorem dX9_readTickets_63 : decode cX9_readTickets 63 = .ok (.getfield 26, 3) := by decide +kernel
theorem dX9_readTickets_66 : decode cX9_readTickets 66 = .ok (.iload_n 1, 1) := by decide +kernel
theorem dX9_readTickets_67 : decode cX9_readTickets 67 = .ok (.iconst 4, 1) := by decide +kernel
theorem dX9_readTickets_68 : decode cX9_readTickets 68 = .ok (.iadd, 1) := by decide +kernel
theorem dX9_readTickets_69 : decode cX9_readTickets 69 = .ok (.iaload, 1) := by decide +kernel
theorem dX9_readTickets_70 : decode cX9_readTickets 70 = .ok (.invokevirtual 137, 3) := by decide +kernel
theorem dX9_readTickets_73 : decode cX9_readTickets 73 = .ok (.istore_n 2, 1) := by decide +kernel
theorem dX9_readTickets_74 : decode cX9_readTickets 74 = .ok (.iload_n 2, 1) := by decide +kernel
theorem dX9_readTickets_75 : decode cX9_readTickets 75 = .ok (.ifCond .ge 5, 3) := by decide +kernel
theorem dX9_readTickets_78 : decode cX9_readTickets 78 = .ok (.iload_n 2, 1) := by decide +kernel
theorem dX9_readTickets_79 : decode cX9_readTickets 79 = .ok (.ireturn, 1) := by decide +kernel
theorem dX9_readTickets_80 : decode cX9_readTickets 80 = .ok (.iinc 1 5, 3) := by decide +kernel
theorem dX9_readTickets_83 : decode cX9_readTickets 83 = .ok (.goto (-62), 3) := by decide +kernel
theorem dX9_readTickets_86 : decode cX9_readTickets 86 = .ok (.aload_n 0, 1) := by decide +kernel
theorem dX9_readTickets_87 : decode cX9_readTickets 87 = .ok (.getfield 7, 3) := by decide +kernel
theorem dX9_readTickets_90 : decode cX9_readTickets 90 = .ok (.iconst 1, 1) := by decide +kernel
theorem dX9_readTickets_91 : decode cX9_readTickets 91 = .ok (.iaload, 1) := by decide +kernel
theorem dX9_readTickets_92 : decode cX9_readTickets 92 = .ok (.aload_n 0, 1) := by decide +kernel
theorem dX9_readTickets_93 : decode cX9_readTickets 93 = .ok (.getfield 162, 3) := by decide +kernel
theorem dX9_readTickets_96 : decode cX9_readTickets 96 = .ok (.iadd, 1) := by decide +kernel
theorem dX9_readTickets_97 : decode cX9_readTickets 97 = .ok (.bipush 40, 2) := by decide +kernel
theorem dX9_readTickets_99 : decode cX9_readTickets 99 = .ok (.if_icmp .le 6, 3) := by decide +kernel
theorem dX9_readTickets_102 : decode cX9_readTickets 102 = .ok (.bipush (-3), 2) := by decide +kernel
theorem dX9_readTickets_104 : decode cX9_readTickets 104 = .ok (.ireturn, 1) := by decide +kernel
theorem dX9_readTickets_105 : decode cX9_readTickets 105 = .ok (.aload_n 0, 1) := by decide +kernel
theorem dX9_readTickets_106 : decode cX9_readTickets 106 = .ok (.invokevirtual 125, 3) := by decide +kernel
theorem dX9_readTickets_109 : decode cX9_readTickets 109 = .ok (.iconst 0, 1) := by decide +kernel
theorem dX9_readTickets_110 : decode cX9_readTickets 110 = .ok (.istore_n 1, 1) := by decide +kernel
theorem dX9_readTickets_111 : decode cX9_readTickets 111 = .ok (.iconst 0, 1) := by decide +kernel
theorem dX9_readTickets_112 : decode cX9_readTickets 112 = .ok (.istore_n 2, 1) := by decide +kernel
theorem dX9_readTickets_113 : decode cX9_readTickets 113 = .ok (.iload_n 2, 1) := by decide +kernel
theorem dX9_readTickets_114 : decode cX9_readTickets 114 = .ok (.iconst 5, 1) := by decide +kernel
theorem dX9_readTickets_115 : decode cX9_readTickets 115 = .ok (.aload_n 0, 1) := by decide +kernel
theorem dX9_readTickets_116 : decode cX9_readTickets 116 = .ok (.getfield 162, 3) := by decide +kernel
theorem dX9_readTickets_119 : decode cX9_readTickets 119 = .ok (.imul, 1) := by decide +kernel
theorem dX9_readTickets_120 : decode cX9_readTickets 120 = .ok (.if_icmp .ge 61, 3) := by decide +kernel
theorem dX9_readTickets_123 : decode cX9_readTickets 123 = .ok (.aload_n 0, 1) := by decide +kernel
theorem dX9_readTickets_124 : decode cX9_readTickets 124 = .ok (.aload_n 0, 1) := by decide +kernel
theorem dX9_readTickets_125 : decode cX9_readTickets 125 = .ok (.getfield 26, 3) := by decide +kernel
theorem dX9_readTickets_128 : decode cX9_readTickets 128 = .ok (.iload_n 2, 1) := by decide +kernel
theorem dX9_readTickets_129 : decode cX9_readTickets 129 = .ok (.iaload, 1) := by decide +kernel
theorem dX9_readTickets_130 : decode cX9_readTickets 130 = .ok (.aload_n 0, 1) := by decide +kernel
theorem dX9_readTickets_131 : decode cX9_readTickets 131 = .ok (.getfield 26, 3) := by decide +kernel
theorem dX9_readTickets_134 : decode cX9_readTickets 134 = .ok (.iload_n 2, 1) := by decide +kernel
theorem dX9_readTickets_135 : decode cX9_readTickets 135 = .ok (.iconst 1, 1) := by decide +kernel
theorem dX9_readTickets_136 : decode cX9_readTickets 136 = .ok (.iadd, 1) := by decide +kernel
theorem dX9_readTickets_137 : decode cX9_readTickets 137 = .ok (.iaload, 1) := by decide +kernel
theorem dX9_readTickets_138 : decode cX9_readTickets 138 = .ok (.aload_n 0, 1) := by decide +kernel
theorem dX9_readTickets_139 : decode cX9_readTickets 139 = .ok (.getfield 26, 3) := by decide +kernel
theorem dX9_readTickets_142 : decode cX9_readTickets 142 = .ok (.iload_n 2, 1) := by decide +kernel
theorem dX9_readTickets_143 : decode cX9_readTickets 143 = .ok (.iconst 2, 1) := by decide +kernel
theorem dX9_readTickets_144 : decode cX9_readTickets 144 = .ok (.iadd, 1) := by decide +kernel
theorem dX9_readTickets_145 : decode cX9_readTickets 145 = .ok (.iaload, 1) := by decide +kernel
theorem dX9_readTickets_146 : decode cX9_readTickets 146 = .ok (.aload_n 0, 1) := by decide +kernel
theorem dX9_readTickets_147 : decode cX9_readTickets 147 = .ok (.getfield 26, 3) := by decide +kernel
theorem dX9_readTickets_150 : decode cX9_readTickets 150 = .ok (.iload_n 2, 1) := by decide +kernel
theorem dX9_readTickets_151 : decode cX9_readTickets 151 = .ok (.iconst 3, 1) := by decide +kernel
theorem dX9_readTickets_152 : decode cX9_readTickets 152 = .ok (.iadd, 1) := by decide +kernel
theorem dX9_readTickets_153 : decode cX9_readTickets 153 = .ok (.iaload, 1) := by decide +kernel
theorem dX9_readTickets_154 : decode cX9_readTickets 154 = .ok (.aload_n 0, 1) := by decide +kernel
theorem dX9_readTickets_155 : decode cX9_readTickets 155 = .ok (.getfield 26, 3) := by decide +kernel
theorem dX9_readTickets_158 : decode cX9_readTickets 158 = .ok (.iload_n 2, 1) := by decide +kernel
theorem dX9_readTickets_159 : decode cX9_readTickets 159 = .ok (.iconst 4, 1) := by decide +kernel
theorem dX9_readTickets_160 : decode cX9_readTickets 160 = .ok (.iadd, 1) := by decide +kernel
theorem dX9_readTickets_161 : decode cX9_readTickets 161 = .ok (.iaload, 1) := by decide +kernel
theorem dX9_readTickets_162 : decode cX9_readTickets 162 = .ok (.invokevirtual 74, 3) := by decide +kernel
theorem dX9_readTickets_165 : decode cX9_readTickets 165 = .ok (.istore_n 3, 1) := by decide +kernel
theorem dX9_readTickets_166 : decode cX9_readTickets 166 = .ok (.iload_n 1, 1) := by decide +kernel
theorem dX9_readTickets_167 : decode cX9_readTickets 167 = .ok (.aload_n 0, 1) := by decide +kernel
theorem dX9_readTickets_168 : decode cX9_readTickets 168 = .ok (.iload_n 3, 1) := by decide +kernel
theorem dX9_readTickets_169 : decode cX9_readTickets 169 = .ok (.iconst 5, 1) := by decide +kernel
theorem dX9_readTickets_170 : decode cX9_readTickets 170 = .ok (.invokevirtual 46, 3) := by decide +kernel
theorem dX9_readTickets_173 : decode cX9_readTickets 173 = .ok (.iadd, 1) := by decide +kernel
theorem dX9_readTickets_174 : decode cX9_readTickets 174 = .ok (.istore_n 1, 1) := by decide +kernel
theorem dX9_readTickets_175 : decode cX9_readTickets 175 = .ok (.iinc 2 5, 3) := by decide +kernel
theorem dX9_readTickets_178 : decode cX9_readTickets 178 = .ok (.goto (-65), 3) := by decide +kernel
theorem dX9_readTickets_181 : decode cX9_readTickets 181 = .ok (.iload_n 1, 1) := by decide +kernel
theorem dX9_readTickets_182 : decode cX9_readTickets 182 = .ok (.ireturn, 1) := by decide +kernel
theorem dX9_undo_0 : decode cX9_undo 0 = .ok (.aload_n 0, 1) := by decide +kernel
theorem dX9_undo_1 : decode cX9_undo 1 = .ok (.getfield 29, 3) := by decide +kernel
theorem dX9_undo_4 : decode cX9_undo 4 = .ok (.ifCond .ne 6, 3) := by decide +kernel
theorem dX9_undo_7 : decode cX9_undo 7 = .ok (.bipush (-5), 2) := by decide +kernel
theorem dX9_undo_9 : decode cX9_undo 9 = .ok (.ireturn, 1) := by decide +kernel
theorem dX9_undo_10 : decode cX9_undo 10 = .ok (.aload_n 0, 1) := by decide +kernel
theorem dX9_undo_11 : decode cX9_undo 11 = .ok (.dup, 1) := by decide +kernel
theorem dX9_undo_12 : decode cX9_undo 12 = .ok (.getfield 29, 3) := by decide +kernel
theorem dX9_undo_15 : decode cX9_undo 15 = .ok (.iconst 1, 1) := by decide +kernel
theorem dX9_undo_16 : decode cX9_undo 16 = .ok (.isub, 1) := by decide +kernel
theorem dX9_undo_17 : decode cX9_undo 17 = .ok (.putfield 29, 3) := by decide +kernel
theorem dX9_undo_20 : decode cX9_undo 20 = .ok (.iconst 0, 1) := by decide +kernel
theorem dX9_undo_21 : decode cX9_undo 21 = .ok (.istore_n 1, 1) := by decide +kernel
theorem dX9_undo_22 : decode cX9_undo 22 = .ok (.iload_n 1, 1) := by decide +kernel
theorem dX9_undo_23 : decode cX9_undo 23 = .ok (.sipush 974, 3) := by decide +kernel
theorem dX9_undo_26 : decode cX9_undo 26 = .ok (.if_icmp .ge 30, 3) := by decide +kernel
theorem dX9_undo_29 : decode cX9_undo 29 = .ok (.aload_n 0, 1) := by decide +kernel
theorem dX9_undo_30 : decode cX9_undo 30 = .ok (.getfield 7, 3) := by decide +kernel
theorem dX9_undo_33 : decode cX9_undo 33 = .ok (.iload_n 1, 1) := by decide +kernel
theorem dX9_undo_34 : decode cX9_undo 34 = .ok (.aload_n 0, 1) := by decide +kernel
theorem dX9_undo_35 : decode cX9_undo 35 = .ok (.getfield 13, 3) := by decide +kernel
theorem dX9_undo_38 : decode cX9_undo 38 = .ok (.sipush 974, 3) := by decide +kernel
theorem dX9_undo_41 : decode cX9_undo 41 = .ok (.aload_n 0, 1) := by decide +kernel
theorem dX9_undo_42 : decode cX9_undo 42 = .ok (.getfield 29, 3) := by decide +kernel
theorem dX9_undo_45 : decode cX9_undo 45 = .ok (.imul, 1) := by decide +kernel
theorem dX9_undo_46 : decode cX9_undo 46 = .ok (.iload_n 1, 1) := by decide +kernel
theorem dX9_undo_47 : decode cX9_undo 47 = .ok (.iadd, 1) := by decide +kernel
theorem dX9_undo_48 : decode cX9_undo 48 = .ok (.iaload, 1) := by decide +kernel
theorem dX9_undo_49 : decode cX9_undo 49 = .ok (.iastore, 1) := by decide +kernel
theorem dX9_undo_50 : decode cX9_undo 50 = .ok (.iinc 1 1, 3) := by decide +kernel
theorem dX9_undo_53 : decode cX9_undo 53 = .ok (.goto (-31), 3) := by decide +kernel
theorem dX9_undo_56 : decode cX9_undo 56 = .ok (.aload_n 0, 1) := by decide +kernel
theorem dX9_undo_57 : decode cX9_undo 57 = .ok (.getfield 29, 3) := by decide +kernel
theorem dX9_undo_60 : decode cX9_undo 60 = .ok (.ireturn, 1) := by decide +kernel
theorem dX9_keep_0 : decode cX9_keep 0 = .ok (.iconst 0, 1) := by decide +kernel
theorem dX9_keep_1 : decode cX9_keep 1 = .ok (.istore_n 1, 1) := by decide +kernel
theorem dX9_keep_2 : decode cX9_keep 2 = .ok (.iload_n 1, 1) := by decide +kernel
theorem dX9_keep_3 : decode cX9_keep 3 = .ok (.sipush 974, 3) := by decide +kernel
theorem dX9_keep_6 : decode cX9_keep 6 = .ok (.if_icmp .ge 21, 3) := by decide +kernel
theorem dX9_keep_9 : decode cX9_keep 9 = .ok (.aload_n 0, 1) := by decide +kernel
theorem dX9_keep_10 : decode cX9_keep 10 = .ok (.getfield 16, 3) := by decide +kernel
theorem dX9_keep_13 : decode cX9_keep 13 = .ok (.iload_n 1, 1) := by decide +kernel
theorem dX9_keep_14 : decode cX9_keep 14 = .ok (.aload_n 0, 1) := by decide +kernel
theorem dX9_keep_15 : decode cX9_keep 15 = .ok (.getfield 7, 3) := by decide +kernel
theorem dX9_keep_18 : decode cX9_keep 18 = .ok (.iload_n 1, 1) := by decide +kernel
theorem dX9_keep_19 : decode cX9_keep 19 = .ok (.iaload, 1) := by decide +kernel
theorem dX9_keep_20 : decode cX9_keep 20 = .ok (.iastore, 1) := by decide +kernel
theorem dX9_keep_21 : decode cX9_keep 21 = .ok (.iinc 1 1, 3) := by decide +kernel
theorem dX9_keep_24 : decode cX9_keep 24 = .ok (.goto (-22), 3) := by decide +kernel
theorem dX9_keep_27 : decode cX9_keep 27 = .ok (.aload_n 0, 1) := by decide +kernel
theorem dX9_keep_28 : decode cX9_keep 28 = .ok (.iconst 1, 1) := by decide +kernel
theorem dX9_keep_29 : decode cX9_keep 29 = .ok (.putfield 182, 3) := by decide +kernel
theorem dX9_keep_32 : decode cX9_keep 32 = .ok (.aload_n 0, 1) := by decide +kernel
theorem dX9_keep_33 : decode cX9_keep 33 = .ok (.getfield 7, 3) := by decide +kernel
theorem dX9_keep_36 : decode cX9_keep 36 = .ok (.iconst 0, 1) := by decide +kernel
theorem dX9_keep_37 : decode cX9_keep 37 = .ok (.iaload, 1) := by decide +kernel
theorem dX9_keep_38 : decode cX9_keep 38 = .ok (.ireturn, 1) := by decide +kernel
set_option maxRecDepth 20000 in
theorem ggX9_restore_X9_records : GoodIn wsX9_restore wsX9_records := goodIn_r _ [8, 9, 10, 2, 11, 12, 13, 14, 15, 16, 17, 18, 19, 20, 21, 22, 23, 24, 25] (by decide +kernel) (by decide +kernel)
set_option maxRecDepth 20000 in
theorem gX9_restore_X9_records : GoodIn wsX9_restore (wsV RX9 125 RX9 yX9_records wsX9_records) := goodIn_app (goodIn_of _ (by decide +kernel)) ggX9_restore_X9_records
theorem dX9_restore_0 : decode cX9_restore 0 = .ok (.aload_n 0, 1) := by decide +kernel
theorem dX9_restore_1 : decode cX9_restore 1 = .ok (.getfield 182, 3) := by decide +kernel
theorem dX9_restore_4 : decode cX9_restore 4 = .ok (.ifCond .ne 6, 3) := by decide +kernel
theorem dX9_restore_7 : decode cX9_restore 7 = .ok (.bipush (-5), 2) := by decide +kernel
theorem dX9_restore_9 : decode cX9_restore 9 = .ok (.ireturn, 1) := by decide +kernel
theorem dX9_restore_10 : decode cX9_restore 10 = .ok (.aload_n 0, 1) := by decide +kernel
theorem dX9_restore_11 : decode cX9_restore 11 = .ok (.invokevirtual 125, 3) := by decide +kernel
theorem dX9_restore_14 : decode cX9_restore 14 = .ok (.iconst 0, 1) := by decide +kernel
theorem dX9_restore_15 : decode cX9_restore 15 = .ok (.istore_n 1, 1) := by decide +kernel
theorem dX9_restore_16 : decode cX9_restore 16 = .ok (.iload_n 1, 1) := by decide +kernel
theorem dX9_restore_17 : decode cX9_restore 17 = .ok (.sipush 974, 3) := by decide +kernel
theorem dX9_restore_20 : decode cX9_restore 20 = .ok (.if_icmp .ge 21, 3) := by decide +kernel
theorem dX9_restore_23 : decode cX9_restore 23 = .ok (.aload_n 0, 1) := by decide +kernel
theorem dX9_restore_24 : decode cX9_restore 24 = .ok (.getfield 7, 3) := by decide +kernel
theorem dX9_restore_27 : decode cX9_restore 27 = .ok (.iload_n 1, 1) := by decide +kernel
theorem dX9_restore_28 : decode cX9_restore 28 = .ok (.aload_n 0, 1) := by decide +kernel
theorem dX9_restore_29 : decode cX9_restore 29 = .ok (.getfield 16, 3) := by decide +kernel
theorem dX9_restore_32 : decode cX9_restore 32 = .ok (.iload_n 1, 1) := by decide +kernel
theorem dX9_restore_33 : decode cX9_restore 33 = .ok (.iaload, 1) := by decide +kernel
theorem dX9_restore_34 : decode cX9_restore 34 = .ok (.iastore, 1) := by decide +kernel
theorem dX9_restore_35 : decode cX9_restore 35 = .ok (.iinc 1 1, 3) := by decide +kernel
theorem dX9_restore_38 : decode cX9_restore 38 = .ok (.goto (-22), 3) := by decide +kernel
theorem dX9_restore_41 : decode cX9_restore 41 = .ok (.aload_n 0, 1) := by decide +kernel
theorem dX9_restore_42 : decode cX9_restore 42 = .ok (.getfield 7, 3) := by decide +kernel
theorem dX9_restore_45 : decode cX9_restore 45 = .ok (.iconst 0, 1) := by decide +kernel
theorem dX9_restore_46 : decode cX9_restore 46 = .ok (.iaload, 1) := by decide +kernel
theorem dX9_restore_47 : decode cX9_restore 47 = .ok (.ireturn, 1) := by decide +kernel
set_option maxRecDepth 20000 in
theorem ggX9_line_X9_isLine : GoodIn wsX9_line wsX9_isLine := goodIn_r _ [4, 5, 6, 3, 7] (by decide +kernel) (by decide +kernel)
set_option maxRecDepth 20000 in
theorem gX9_line_X9_isLine : GoodIn wsX9_line (va_wsS RX9 121 yX9_isLine wsX9_isLine) := goodIn_app (goodIn_of _ (by decide +kernel)) ggX9_line_X9_isLine
set_option maxRecDepth 20000 in
theorem ggX9_line_X9_ofLine : GoodIn wsX9_line wsX9_ofLine := goodIn_r _ [11, 12, 21, 22, 23, 24, 25, 26, 27, 28, 29, 30, 31, 32, 33, 34, 35] (by decide +kernel) (by decide +kernel)
set_option maxRecDepth 20000 in
theorem gX9_line_X9_ofLine : GoodIn wsX9_line (wsV RX9 37 RX9 yX9_ofLine wsX9_ofLine) := goodIn_app (goodIn_of _ (by decide +kernel)) ggX9_line_X9_ofLine
set_option maxRecDepth 20000 in
theorem ggX9_line_X9_on : GoodIn wsX9_line wsX9_on := goodIn_r _ [16, 12, 17, 18, 19, 3, 20, 21, 22, 23, 24, 25, 26, 27, 28, 29, 30, 31, 32, 33, 34, 35] (by decide +kernel) (by decide +kernel)
set_option maxRecDepth 20000 in
theorem gX9_line_X9_on : GoodIn wsX9_line (wsV RX9 91 RX9 yX9_on wsX9_on) := goodIn_app (goodIn_of _ (by decide +kernel)) ggX9_line_X9_on
theorem dX9_line_0 : decode cX9_line 0 = .ok (.iload_n 1, 1) := by decide +kernel
theorem dX9_line_1 : decode cX9_line 1 = .ok (.invokestatic 121, 3) := by decide +kernel
theorem dX9_line_4 : decode cX9_line 4 = .ok (.ifCond .ne 5, 3) := by decide +kernel
theorem dX9_line_7 : decode cX9_line 7 = .ok (.iconst (-1), 1) := by decide +kernel
theorem dX9_line_8 : decode cX9_line 8 = .ok (.ireturn, 1) := by decide +kernel
theorem dX9_line_9 : decode cX9_line 9 = .ok (.iload_n 2, 1) := by decide +kernel
theorem dX9_line_10 : decode cX9_line 10 = .ok (.tableswitch 96 0 8 #[50, 50, 57, 57, 50, 67, 74, 81, 88], 50) := by decide +kernel
theorem dX9_line_60 : decode cX9_line 60 = .ok (.aload_n 0, 1) := by decide +kernel
theorem dX9_line_61 : decode cX9_line 61 = .ok (.iload_n 1, 1) := by decide +kernel
theorem dX9_line_62 : decode cX9_line 62 = .ok (.iload_n 2, 1) := by decide +kernel
theorem dX9_line_63 : decode cX9_line 63 = .ok (.invokevirtual 37, 3) := by decide +kernel
theorem dX9_line_66 : decode cX9_line 66 = .ok (.ireturn, 1) := by decide +kernel
theorem dX9_line_67 : decode cX9_line 67 = .ok (.aload_n 0, 1) := by decide +kernel
theorem dX9_line_68 : decode cX9_line 68 = .ok (.iload_n 1, 1) := by decide +kernel
theorem dX9_line_69 : decode cX9_line 69 = .ok (.iload_n 2, 1) := by decide +kernel
theorem dX9_line_70 : decode cX9_line 70 = .ok (.invokevirtual 37, 3) := by decide +kernel
theorem dX9_line_73 : decode cX9_line 73 = .ok (.bipush 100, 2) := by decide +kernel
theorem dX9_line_75 : decode cX9_line 75 = .ok (.iadd, 1) := by decide +kernel
theorem dX9_line_76 : decode cX9_line 76 = .ok (.ireturn, 1) := by decide +kernel
theorem dX9_line_77 : decode cX9_line 77 = .ok (.aload_n 0, 1) := by decide +kernel
theorem dX9_line_78 : decode cX9_line 78 = .ok (.iload_n 1, 1) := by decide +kernel
theorem dX9_line_79 : decode cX9_line 79 = .ok (.iconst 1, 1) := by decide +kernel
theorem dX9_line_80 : decode cX9_line 80 = .ok (.invokevirtual 91, 3) := by decide +kernel
theorem dX9_line_83 : decode cX9_line 83 = .ok (.ireturn, 1) := by decide +kernel
theorem dX9_line_84 : decode cX9_line 84 = .ok (.aload_n 0, 1) := by decide +kernel
theorem dX9_line_85 : decode cX9_line 85 = .ok (.iload_n 1, 1) := by decide +kernel
theorem dX9_line_86 : decode cX9_line 86 = .ok (.iconst 2, 1) := by decide +kernel
theorem dX9_line_87 : decode cX9_line 87 = .ok (.invokevirtual 91, 3) := by decide +kernel
theorem dX9_line_90 : decode cX9_line 90 = .ok (.ireturn, 1) := by decide +kernel
theorem dX9_line_91 : decode cX9_line 91 = .ok (.aload_n 0, 1) := by decide +kernel
theorem dX9_line_92 : decode cX9_line 92 = .ok (.iload_n 1, 1) := by decide +kernel
theorem dX9_line_93 : decode cX9_line 93 = .ok (.iconst 5, 1) := by decide +kernel
theorem dX9_line_94 : decode cX9_line 94 = .ok (.invokevirtual 37, 3) := by decide +kernel
theorem dX9_line_97 : decode cX9_line 97 = .ok (.ireturn, 1) := by decide +kernel
theorem dX9_line_98 : decode cX9_line 98 = .ok (.aload_n 0, 1) := by decide +kernel
theorem dX9_line_99 : decode cX9_line 99 = .ok (.iload_n 1, 1) := by decide +kernel
theorem dX9_line_100 : decode cX9_line 100 = .ok (.bipush 6, 2) := by decide +kernel
theorem dX9_line_102 : decode cX9_line 102 = .ok (.invokevirtual 37, 3) := by decide +kernel
theorem dX9_line_105 : decode cX9_line 105 = .ok (.ireturn, 1) := by decide +kernel
theorem dX9_line_106 : decode cX9_line 106 = .ok (.bipush (-2), 2) := by decide +kernel
theorem dX9_line_108 : decode cX9_line 108 = .ok (.ireturn, 1) := by decide +kernel
set_option maxRecDepth 20000 in
theorem ggX9_slot_X9_isLine : GoodIn wsX9_slot wsX9_isLine := goodIn_r _ [4, 5, 6, 3, 7] (by decide +kernel) (by decide +kernel)
set_option maxRecDepth 20000 in
theorem gX9_slot_X9_isLine : GoodIn wsX9_slot (va_wsS RX9 121 yX9_isLine wsX9_isLine) := goodIn_app (goodIn_of _ (by decide +kernel)) ggX9_slot_X9_isLine
set_option maxRecDepth 20000 in
theorem ggX9_slot_X9_ofLine : GoodIn wsX9_slot wsX9_ofLine := goodIn_r _ [11, 12, 17, 18, 19, 20, 21, 22, 23, 24, 25, 26, 27, 28, 29, 30, 31] (by decide +kernel) (by decide +kernel)
set_option maxRecDepth 20000 in
theorem gX9_slot_X9_ofLine : GoodIn wsX9_slot (wsV RX9 37 RX9 yX9_ofLine wsX9_ofLine) := goodIn_app (goodIn_of _ (by decide +kernel)) ggX9_slot_X9_ofLine
set_option maxRecDepth 20000 in
theorem ggX9_slot_X9_in : GoodIn wsX9_slot wsX9_in := goodIn_r _ [7] (by decide +kernel) (by decide +kernel)
set_option maxRecDepth 20000 in
theorem gX9_slot_X9_in : GoodIn wsX9_slot (va_wsS RX9 33 yX9_in wsX9_in) := goodIn_app (goodIn_of _ (by decide +kernel)) ggX9_slot_X9_in
set_option maxRecDepth 20000 in
theorem ggX9_slot_X9_seat : GoodIn wsX9_slot wsX9_seat := goodIn_r _ [16, 12, 17, 18, 19, 20, 21, 22, 23, 24, 25, 26, 27, 28, 29, 30, 31] (by decide +kernel) (by decide +kernel)
set_option maxRecDepth 20000 in
theorem gX9_slot_X9_seat : GoodIn wsX9_slot (wsV RX9 97 RX9 yX9_seat wsX9_seat) := goodIn_app (goodIn_of _ (by decide +kernel)) ggX9_slot_X9_seat
theorem dX9_slot_0 : decode cX9_slot 0 = .ok (.iload_n 1, 1) := by decide +kernel
theorem dX9_slot_1 : decode cX9_slot 1 = .ok (.invokestatic 121, 3) := by decide +kernel
theorem dX9_slot_4 : decode cX9_slot 4 = .ok (.ifCond .ne 5, 3) := by decide +kernel
theorem dX9_slot_7 : decode cX9_slot 7 = .ok (.iconst (-1), 1) := by decide +kernel
theorem dX9_slot_8 : decode cX9_slot 8 = .ok (.ireturn, 1) := by decide +kernel
theorem dX9_slot_9 : decode cX9_slot 9 = .ok (.iload_n 2, 1) := by decide +kernel
theorem dX9_slot_10 : decode cX9_slot 10 = .ok (.iconst 0, 1) := by decide +kernel
theorem dX9_slot_11 : decode cX9_slot 11 = .ok (.aload_n 0, 1) := by decide +kernel
theorem dX9_slot_12 : decode cX9_slot 12 = .ok (.iload_n 1, 1) := by decide +kernel
theorem dX9_slot_13 : decode cX9_slot 13 = .ok (.iconst 0, 1) := by decide +kernel
theorem dX9_slot_14 : decode cX9_slot 14 = .ok (.invokevirtual 37, 3) := by decide +kernel
theorem dX9_slot_17 : decode cX9_slot 17 = .ok (.iconst 1, 1) := by decide +kernel
theorem dX9_slot_18 : decode cX9_slot 18 = .ok (.isub, 1) := by decide +kernel
theorem dX9_slot_19 : decode cX9_slot 19 = .ok (.invokestatic 33, 3) := by decide +kernel
theorem dX9_slot_22 : decode cX9_slot 22 = .ok (.ifCond .eq 12, 3) := by decide +kernel
theorem dX9_slot_25 : decode cX9_slot 25 = .ok (.aload_n 0, 1) := by decide +kernel
theorem dX9_slot_26 : decode cX9_slot 26 = .ok (.iload_n 1, 1) := by decide +kernel
theorem dX9_slot_27 : decode cX9_slot 27 = .ok (.iload_n 2, 1) := by decide +kernel
theorem dX9_slot_28 : decode cX9_slot 28 = .ok (.invokevirtual 97, 3) := by decide +kernel
theorem dX9_slot_31 : decode cX9_slot 31 = .ok (.goto 5, 3) := by decide +kernel
theorem dX9_slot_34 : decode cX9_slot 34 = .ok (.bipush (-2), 2) := by decide +kernel
theorem dX9_slot_36 : decode cX9_slot 36 = .ok (.ireturn, 1) := by decide +kernel
set_option maxRecDepth 20000 in
theorem ggX9_waitMany_X9_isWaiting : GoodIn wsX9_waitMany wsX9_isWaiting := goodIn_r _ [6, 7, 8, 9, 5, 10, 1, 11, 12, 13, 14, 15, 16, 17, 18, 19, 20, 21, 22, 23, 24, 25] (by decide +kernel) (by decide +kernel)
set_option maxRecDepth 20000 in
theorem gX9_waitMany_X9_isWaiting : GoodIn wsX9_waitMany (wsV RX9 49 RX9 yX9_isWaiting wsX9_isWaiting) := goodIn_app (goodIn_of _ (by decide +kernel)) ggX9_waitMany_X9_isWaiting
theorem dX9_waitMany_0 : decode cX9_waitMany 0 = .ok (.iconst 0, 1) := by decide +kernel
theorem dX9_waitMany_1 : decode cX9_waitMany 1 = .ok (.istore_n 2, 1) := by decide +kernel
theorem dX9_waitMany_2 : decode cX9_waitMany 2 = .ok (.iconst 0, 1) := by decide +kernel
theorem dX9_waitMany_3 : decode cX9_waitMany 3 = .ok (.istore_n 3, 1) := by decide +kernel
theorem dX9_waitMany_4 : decode cX9_waitMany 4 = .ok (.iload_n 3, 1) := by decide +kernel
theorem dX9_waitMany_5 : decode cX9_waitMany 5 = .ok (.aload_n 0, 1) := by decide +kernel
theorem dX9_waitMany_6 : decode cX9_waitMany 6 = .ok (.getfield 7, 3) := by decide +kernel
theorem dX9_waitMany_9 : decode cX9_waitMany 9 = .ok (.iconst 1, 1) := by decide +kernel
theorem dX9_waitMany_10 : decode cX9_waitMany 10 = .ok (.iaload, 1) := by decide +kernel
theorem dX9_waitMany_11 : decode cX9_waitMany 11 = .ok (.if_icmp .ge 26, 3) := by decide +kernel
theorem dX9_waitMany_14 : decode cX9_waitMany 14 = .ok (.iload_n 2, 1) := by decide +kernel
theorem dX9_waitMany_15 : decode cX9_waitMany 15 = .ok (.aload_n 0, 1) := by decide +kernel
theorem dX9_waitMany_16 : decode cX9_waitMany 16 = .ok (.iload_n 3, 1) := by decide +kernel
theorem dX9_waitMany_17 : decode cX9_waitMany 17 = .ok (.iload_n 1, 1) := by decide +kernel
theorem dX9_waitMany_18 : decode cX9_waitMany 18 = .ok (.invokevirtual 49, 3) := by decide +kernel
theorem dX9_waitMany_21 : decode cX9_waitMany 21 = .ok (.ifCond .eq 7, 3) := by decide +kernel
theorem dX9_waitMany_24 : decode cX9_waitMany 24 = .ok (.iconst 1, 1) := by decide +kernel
theorem dX9_waitMany_25 : decode cX9_waitMany 25 = .ok (.goto 4, 3) := by decide +kernel
theorem dX9_waitMany_28 : decode cX9_waitMany 28 = .ok (.iconst 0, 1) := by decide +kernel
theorem dX9_waitMany_29 : decode cX9_waitMany 29 = .ok (.iadd, 1) := by decide +kernel
theorem dX9_waitMany_30 : decode cX9_waitMany 30 = .ok (.istore_n 2, 1) := by decide +kernel
theorem dX9_waitMany_31 : decode cX9_waitMany 31 = .ok (.iinc 3 1, 3) := by decide +kernel
theorem dX9_waitMany_34 : decode cX9_waitMany 34 = .ok (.goto (-30), 3) := by decide +kernel
theorem dX9_waitMany_37 : decode cX9_waitMany 37 = .ok (.iload_n 2, 1) := by decide +kernel
theorem dX9_waitMany_38 : decode cX9_waitMany 38 = .ok (.ireturn, 1) := by decide +kernel
set_option maxRecDepth 20000 in
theorem ggX9_station_X9_isStation : GoodIn wsX9_station wsX9_isStation := goodIn_r _ [6, 7, 8, 5, 9, 10, 11, 12, 13, 1, 45, 46, 47, 48, 49, 50, 51, 52, 53, 54, 55, 56, 57, 58, 59] (by decide +kernel) (by decide +kernel)
set_option maxRecDepth 20000 in
theorem gX9_station_X9_isStation : GoodIn wsX9_station (wsV RX9 131 RX9 yX9_isStation wsX9_isStation) := goodIn_app (goodIn_of _ (by decide +kernel)) ggX9_station_X9_isStation
set_option maxRecDepth 20000 in
theorem ggX9_station_X9_stationAt : GoodIn wsX9_station wsX9_stationAt := goodIn_r _ [16] (by decide +kernel) (by decide +kernel)
set_option maxRecDepth 20000 in
theorem gX9_station_X9_stationAt : GoodIn wsX9_station (va_wsS RX9 42 yX9_stationAt wsX9_stationAt) := goodIn_app (goodIn_of _ (by decide +kernel)) ggX9_station_X9_stationAt
set_option maxRecDepth 20000 in
theorem ggX9_station_X9_slotAt : GoodIn wsX9_station wsX9_slotAt := goodIn_r _ [20, 1, 10, 11, 12, 5, 13, 14, 15, 16, 45, 46, 47, 48, 49, 50, 51, 52, 53, 54, 55, 56, 57, 58, 59] (by decide +kernel) (by decide +kernel)
set_option maxRecDepth 20000 in
theorem gX9_station_X9_slotAt : GoodIn wsX9_station (wsV RX9 94 RX9 yX9_slotAt wsX9_slotAt) := goodIn_app (goodIn_of _ (by decide +kernel)) ggX9_station_X9_slotAt
set_option maxRecDepth 20000 in
theorem ggX9_station_X9_waitMany : GoodIn wsX9_station wsX9_waitMany := goodIn_r _ [24, 1, 25, 26, 27, 5, 28, 29, 30, 31, 32, 45, 46, 47, 48, 49, 50, 51, 52, 53, 54, 55, 56, 57, 58, 59] (by decide +kernel) (by decide +kernel)
set_option maxRecDepth 20000 in
theorem gX9_station_X9_waitMany : GoodIn wsX9_station (wsV RX9 185 RX9 yX9_waitMany wsX9_waitMany) := goodIn_app (goodIn_of _ (by decide +kernel)) ggX9_station_X9_waitMany
set_option maxRecDepth 20000 in
theorem ggX9_station_X9_nextAt : GoodIn wsX9_station wsX9_nextAt := goodIn_r _ [36, 37, 38, 39, 5, 40, 1, 29, 30, 31, 32, 41, 42, 43, 44, 25, 26, 27, 28, 45, 46, 47, 48, 49, 50, 51, 52, 53, 54, 55, 56, 57, 58, 59] (by decide +kernel) (by decide +kernel)
set_option maxRecDepth 20000 in
theorem gX9_station_X9_nextAt : GoodIn wsX9_station (wsV RX9 103 RX9 yX9_nextAt wsX9_nextAt) := goodIn_app (goodIn_of _ (by decide +kernel)) ggX9_station_X9_nextAt
theorem dX9_station_0 : decode cX9_station 0 = .ok (.aload_n 0, 1) := by decide +kernel
theorem dX9_station_1 : decode cX9_station 1 = .ok (.iload_n 1, 1) := by decide +kernel
theorem dX9_station_2 : decode cX9_station 2 = .ok (.invokevirtual 131, 3) := by decide +kernel
theorem dX9_station_5 : decode cX9_station 5 = .ok (.ifCond .ne 5, 3) := by decide +kernel
theorem dX9_station_8 : decode cX9_station 8 = .ok (.iconst (-1), 1) := by decide +kernel
theorem dX9_station_9 : decode cX9_station 9 = .ok (.ireturn, 1) := by decide +kernel
theorem dX9_station_10 : decode cX9_station 10 = .ok (.iload_n 2, 1) := by decide +kernel
theorem dX9_station_11 : decode cX9_station 11 = .ok (.tableswitch 93 0 8 #[49, 61, 67, 73, 73, 73, 73, 73, 87], 49) := by decide +kernel
theorem dX9_station_60 : decode cX9_station 60 = .ok (.aload_n 0, 1) := by decide +kernel
theorem dX9_station_61 : decode cX9_station 61 = .ok (.getfield 7, 3) := by decide +kernel
theorem dX9_station_64 : decode cX9_station 64 = .ok (.iload_n 1, 1) := by decide +kernel
theorem dX9_station_65 : decode cX9_station 65 = .ok (.invokestatic 42, 3) := by decide +kernel
theorem dX9_station_68 : decode cX9_station 68 = .ok (.iconst 0, 1) := by decide +kernel
theorem dX9_station_69 : decode cX9_station 69 = .ok (.iadd, 1) := by decide +kernel
theorem dX9_station_70 : decode cX9_station 70 = .ok (.iaload, 1) := by decide +kernel
theorem dX9_station_71 : decode cX9_station 71 = .ok (.ireturn, 1) := by decide +kernel
theorem dX9_station_72 : decode cX9_station 72 = .ok (.aload_n 0, 1) := by decide +kernel
theorem dX9_station_73 : decode cX9_station 73 = .ok (.iload_n 1, 1) := by decide +kernel
theorem dX9_station_74 : decode cX9_station 74 = .ok (.invokevirtual 94, 3) := by decide +kernel
theorem dX9_station_77 : decode cX9_station 77 = .ok (.ireturn, 1) := by decide +kernel
theorem dX9_station_78 : decode cX9_station 78 = .ok (.aload_n 0, 1) := by decide +kernel
theorem dX9_station_79 : decode cX9_station 79 = .ok (.iload_n 1, 1) := by decide +kernel
theorem dX9_station_80 : decode cX9_station 80 = .ok (.invokevirtual 185, 3) := by decide +kernel
theorem dX9_station_83 : decode cX9_station 83 = .ok (.ireturn, 1) := by decide +kernel
theorem dX9_station_84 : decode cX9_station 84 = .ok (.aload_n 0, 1) := by decide +kernel
theorem dX9_station_85 : decode cX9_station 85 = .ok (.getfield 7, 3) := by decide +kernel
theorem dX9_station_88 : decode cX9_station 88 = .ok (.iload_n 1, 1) := by decide +kernel
theorem dX9_station_89 : decode cX9_station 89 = .ok (.invokestatic 42, 3) := by decide +kernel
theorem dX9_station_92 : decode cX9_station 92 = .ok (.iload_n 2, 1) := by decide +kernel
theorem dX9_station_93 : decode cX9_station 93 = .ok (.iadd, 1) := by decide +kernel
theorem dX9_station_94 : decode cX9_station 94 = .ok (.iconst 2, 1) := by decide +kernel
theorem dX9_station_95 : decode cX9_station 95 = .ok (.isub, 1) := by decide +kernel
theorem dX9_station_96 : decode cX9_station 96 = .ok (.iaload, 1) := by decide +kernel
theorem dX9_station_97 : decode cX9_station 97 = .ok (.ireturn, 1) := by decide +kernel
theorem dX9_station_98 : decode cX9_station 98 = .ok (.aload_n 0, 1) := by decide +kernel
theorem dX9_station_99 : decode cX9_station 99 = .ok (.iload_n 1, 1) := by decide +kernel
theorem dX9_station_100 : decode cX9_station 100 = .ok (.invokevirtual 103, 3) := by decide +kernel
theorem dX9_station_103 : decode cX9_station 103 = .ok (.ireturn, 1) := by decide +kernel
theorem dX9_station_104 : decode cX9_station 104 = .ok (.bipush (-2), 2) := by decide +kernel
theorem dX9_station_106 : decode cX9_station 106 = .ok (.ireturn, 1) := by decide +kernel
set_option maxRecDepth 20000 in
theorem ggX9_waiting_X9_isStation : GoodIn wsX9_waiting wsX9_isStation := goodIn_r _ [6, 7, 8, 5, 9, 10, 11, 12, 13, 1, 26, 27, 28, 29, 30, 31, 32, 33, 34, 35, 36, 37, 38, 39, 40] (by decide +kernel) (by decide +kernel)
set_option maxRecDepth 20000 in
theorem gX9_waiting_X9_isStation : GoodIn wsX9_waiting (wsV RX9 131 RX9 yX9_isStation wsX9_isStation) := goodIn_app (goodIn_of _ (by decide +kernel)) ggX9_waiting_X9_isStation
set_option maxRecDepth 20000 in
theorem ggX9_waiting_X9_isWaiting : GoodIn wsX9_waiting wsX9_isWaiting := goodIn_r _ [17, 18, 19, 20, 5, 21, 1, 26, 27, 28, 29, 30, 31, 32, 33, 34, 35, 36, 37, 38, 39, 40] (by decide +kernel) (by decide +kernel)
set_option maxRecDepth 20000 in
theorem gX9_waiting_X9_isWaiting : GoodIn wsX9_waiting (wsV RX9 49 RX9 yX9_isWaiting wsX9_isWaiting) := goodIn_app (goodIn_of _ (by decide +kernel)) ggX9_waiting_X9_isWaiting
set_option maxRecDepth 20000 in
theorem ggX9_waiting_X9_ahead : GoodIn wsX9_waiting wsX9_ahead := goodIn_r _ [25, 1, 18, 19, 20, 5, 21, 14, 15, 16, 17, 26, 27, 28, 29, 30, 31, 32, 33, 34, 35, 36, 37, 38, 39, 40] (by decide +kernel) (by decide +kernel)
set_option maxRecDepth 20000 in
theorem gX9_waiting_X9_ahead : GoodIn wsX9_waiting (wsV RX9 188 RX9 yX9_ahead wsX9_ahead) := goodIn_app (goodIn_of _ (by decide +kernel)) ggX9_waiting_X9_ahead
theorem dX9_waiting_0 : decode cX9_waiting 0 = .ok (.aload_n 0, 1) := by decide +kernel
theorem dX9_waiting_1 : decode cX9_waiting 1 = .ok (.iload_n 1, 1) := by decide +kernel
theorem dX9_waiting_2 : decode cX9_waiting 2 = .ok (.invokevirtual 131, 3) := by decide +kernel
theorem dX9_waiting_5 : decode cX9_waiting 5 = .ok (.ifCond .ne 5, 3) := by decide +kernel
theorem dX9_waiting_8 : decode cX9_waiting 8 = .ok (.iconst (-1), 1) := by decide +kernel
theorem dX9_waiting_9 : decode cX9_waiting 9 = .ok (.ireturn, 1) := by decide +kernel
theorem dX9_waiting_10 : decode cX9_waiting 10 = .ok (.iload_n 2, 1) := by decide +kernel
theorem dX9_waiting_11 : decode cX9_waiting 11 = .ok (.ifCond .ge 6, 3) := by decide +kernel
theorem dX9_waiting_14 : decode cX9_waiting 14 = .ok (.bipush (-2), 2) := by decide +kernel
theorem dX9_waiting_16 : decode cX9_waiting 16 = .ok (.ireturn, 1) := by decide +kernel
theorem dX9_waiting_17 : decode cX9_waiting 17 = .ok (.iconst 0, 1) := by decide +kernel
theorem dX9_waiting_18 : decode cX9_waiting 18 = .ok (.istore_n 3, 1) := by decide +kernel
theorem dX9_waiting_19 : decode cX9_waiting 19 = .ok (.iload_n 3, 1) := by decide +kernel
theorem dX9_waiting_20 : decode cX9_waiting 20 = .ok (.aload_n 0, 1) := by decide +kernel
theorem dX9_waiting_21 : decode cX9_waiting 21 = .ok (.getfield 7, 3) := by decide +kernel
theorem dX9_waiting_24 : decode cX9_waiting 24 = .ok (.iconst 1, 1) := by decide +kernel
theorem dX9_waiting_25 : decode cX9_waiting 25 = .ok (.iaload, 1) := by decide +kernel
theorem dX9_waiting_26 : decode cX9_waiting 26 = .ok (.if_icmp .ge 30, 3) := by decide +kernel
theorem dX9_waiting_29 : decode cX9_waiting 29 = .ok (.aload_n 0, 1) := by decide +kernel
theorem dX9_waiting_30 : decode cX9_waiting 30 = .ok (.iload_n 3, 1) := by decide +kernel
theorem dX9_waiting_31 : decode cX9_waiting 31 = .ok (.iload_n 1, 1) := by decide +kernel
theorem dX9_waiting_32 : decode cX9_waiting 32 = .ok (.invokevirtual 49, 3) := by decide +kernel
theorem dX9_waiting_35 : decode cX9_waiting 35 = .ok (.ifCond .eq 15, 3) := by decide +kernel
theorem dX9_waiting_38 : decode cX9_waiting 38 = .ok (.aload_n 0, 1) := by decide +kernel
theorem dX9_waiting_39 : decode cX9_waiting 39 = .ok (.iload_n 3, 1) := by decide +kernel
theorem dX9_waiting_40 : decode cX9_waiting 40 = .ok (.iload_n 1, 1) := by decide +kernel
theorem dX9_waiting_41 : decode cX9_waiting 41 = .ok (.invokevirtual 188, 3) := by decide +kernel
theorem dX9_waiting_44 : decode cX9_waiting 44 = .ok (.iload_n 2, 1) := by decide +kernel
theorem dX9_waiting_45 : decode cX9_waiting 45 = .ok (.if_icmp .ne 5, 3) := by decide +kernel
theorem dX9_waiting_48 : decode cX9_waiting 48 = .ok (.iload_n 3, 1) := by decide +kernel
theorem dX9_waiting_49 : decode cX9_waiting 49 = .ok (.ireturn, 1) := by decide +kernel
theorem dX9_waiting_50 : decode cX9_waiting 50 = .ok (.iinc 3 1, 3) := by decide +kernel
theorem dX9_waiting_53 : decode cX9_waiting 53 = .ok (.goto (-34), 3) := by decide +kernel
theorem dX9_waiting_56 : decode cX9_waiting 56 = .ok (.bipush (-5), 2) := by decide +kernel
theorem dX9_waiting_58 : decode cX9_waiting 58 = .ok (.ireturn, 1) := by decide +kernel
set_option maxRecDepth 20000 in
theorem ggX9_calls_X9_isStation : GoodIn wsX9_calls wsX9_isStation := goodIn_r _ [6, 7, 8, 5, 9, 10, 11, 12, 13, 1, 17, 18, 19, 20, 21, 22, 23, 24, 25, 26, 27, 28, 29, 30, 31] (by decide +kernel) (by decide +kernel)
set_option maxRecDepth 20000 in
theorem gX9_calls_X9_isStation : GoodIn wsX9_calls (wsV RX9 131 RX9 yX9_isStation wsX9_isStation) := goodIn_app (goodIn_of _ (by decide +kernel)) ggX9_calls_X9_isStation
set_option maxRecDepth 20000 in
theorem ggX9_calls_X9_stationAt : GoodIn wsX9_calls wsX9_stationAt := goodIn_r _ [16] (by decide +kernel) (by decide +kernel)
set_option maxRecDepth 20000 in
theorem gX9_calls_X9_stationAt : GoodIn wsX9_calls (va_wsS RX9 42 yX9_stationAt wsX9_stationAt) := goodIn_app (goodIn_of _ (by decide +kernel)) ggX9_calls_X9_stationAt
theorem dX9_calls_0 : decode cX9_calls 0 = .ok (.aload_n 0, 1) := by decide +kernel
theorem dX9_calls_1 : decode cX9_calls 1 = .ok (.iload_n 1, 1) := by decide +kernel
theorem dX9_calls_2 : decode cX9_calls 2 = .ok (.invokevirtual 131, 3) := by decide +kernel
theorem dX9_calls_5 : decode cX9_calls 5 = .ok (.ifCond .ne 5, 3) := by decide +kernel
theorem dX9_calls_8 : decode cX9_calls 8 = .ok (.iconst (-1), 1) := by decide +kernel
theorem dX9_calls_9 : decode cX9_calls 9 = .ok (.ireturn, 1) := by decide +kernel
theorem dX9_calls_10 : decode cX9_calls 10 = .ok (.iload_n 2, 1) := by decide +kernel
theorem dX9_calls_11 : decode cX9_calls 11 = .ok (.ifCond .ge 6, 3) := by decide +kernel
theorem dX9_calls_14 : decode cX9_calls 14 = .ok (.bipush (-2), 2) := by decide +kernel
theorem dX9_calls_16 : decode cX9_calls 16 = .ok (.ireturn, 1) := by decide +kernel
theorem dX9_calls_17 : decode cX9_calls 17 = .ok (.iload_n 1, 1) := by decide +kernel
theorem dX9_calls_18 : decode cX9_calls 18 = .ok (.invokestatic 42, 3) := by decide +kernel
theorem dX9_calls_21 : decode cX9_calls 21 = .ok (.istore_n 3, 1) := by decide +kernel
theorem dX9_calls_22 : decode cX9_calls 22 = .ok (.iload_n 2, 1) := by decide +kernel
theorem dX9_calls_23 : decode cX9_calls 23 = .ok (.aload_n 0, 1) := by decide +kernel
theorem dX9_calls_24 : decode cX9_calls 24 = .ok (.getfield 7, 3) := by decide +kernel
theorem dX9_calls_27 : decode cX9_calls 27 = .ok (.iload_n 3, 1) := by decide +kernel
theorem dX9_calls_28 : decode cX9_calls 28 = .ok (.iconst 5, 1) := by decide +kernel
theorem dX9_calls_29 : decode cX9_calls 29 = .ok (.iadd, 1) := by decide +kernel
theorem dX9_calls_30 : decode cX9_calls 30 = .ok (.iaload, 1) := by decide +kernel
theorem dX9_calls_31 : decode cX9_calls 31 = .ok (.if_icmp .ge 17, 3) := by decide +kernel
theorem dX9_calls_34 : decode cX9_calls 34 = .ok (.aload_n 0, 1) := by decide +kernel
theorem dX9_calls_35 : decode cX9_calls 35 = .ok (.getfield 7, 3) := by decide +kernel
theorem dX9_calls_38 : decode cX9_calls 38 = .ok (.iload_n 3, 1) := by decide +kernel
theorem dX9_calls_39 : decode cX9_calls 39 = .ok (.bipush 6, 2) := by decide +kernel
theorem dX9_calls_41 : decode cX9_calls 41 = .ok (.iadd, 1) := by decide +kernel
theorem dX9_calls_42 : decode cX9_calls 42 = .ok (.iload_n 2, 1) := by decide +kernel
theorem dX9_calls_43 : decode cX9_calls 43 = .ok (.iadd, 1) := by decide +kernel
theorem dX9_calls_44 : decode cX9_calls 44 = .ok (.iaload, 1) := by decide +kernel
theorem dX9_calls_45 : decode cX9_calls 45 = .ok (.goto 5, 3) := by decide +kernel
theorem dX9_calls_48 : decode cX9_calls 48 = .ok (.bipush (-5), 2) := by decide +kernel
theorem dX9_calls_50 : decode cX9_calls 50 = .ok (.ireturn, 1) := by decide +kernel
set_option maxRecDepth 20000 in
theorem ggX9_ticket_X9_isTicket : GoodIn wsX9_ticket wsX9_isTicket := goodIn_r _ [5, 6, 7, 8, 4, 9, 14, 15, 16, 17, 18, 19, 20, 21, 22, 23, 24, 25, 26, 27, 28] (by decide +kernel) (by decide +kernel)
set_option maxRecDepth 20000 in
theorem gX9_ticket_X9_isTicket : GoodIn wsX9_ticket (wsV RX9 140 RX9 yX9_isTicket wsX9_isTicket) := goodIn_app (goodIn_of _ (by decide +kernel)) ggX9_ticket_X9_isTicket
set_option maxRecDepth 20000 in
theorem ggX9_ticket_X9_in : GoodIn wsX9_ticket wsX9_in := goodIn_r _ [9] (by decide +kernel) (by decide +kernel)
set_option maxRecDepth 20000 in
theorem gX9_ticket_X9_in : GoodIn wsX9_ticket (va_wsS RX9 33 yX9_in wsX9_in) := goodIn_app (goodIn_of _ (by decide +kernel)) ggX9_ticket_X9_in
set_option maxRecDepth 20000 in
theorem ggX9_ticket_X9_of : GoodIn wsX9_ticket wsX9_of := goodIn_r _ [13, 6, 14, 15, 16, 17, 18, 19, 20, 21, 22, 23, 24, 25, 26, 27, 28] (by decide +kernel) (by decide +kernel)
set_option maxRecDepth 20000 in
theorem gX9_ticket_X9_of : GoodIn wsX9_ticket (wsV RX9 46 RX9 yX9_of wsX9_of) := goodIn_app (goodIn_of _ (by decide +kernel)) ggX9_ticket_X9_of
theorem dX9_ticket_0 : decode cX9_ticket 0 = .ok (.aload_n 0, 1) := by decide +kernel
theorem dX9_ticket_1 : decode cX9_ticket 1 = .ok (.iload_n 1, 1) := by decide +kernel
theorem dX9_ticket_2 : decode cX9_ticket 2 = .ok (.invokevirtual 140, 3) := by decide +kernel
theorem dX9_ticket_5 : decode cX9_ticket 5 = .ok (.ifCond .ne 5, 3) := by decide +kernel
theorem dX9_ticket_8 : decode cX9_ticket 8 = .ok (.iconst (-1), 1) := by decide +kernel
theorem dX9_ticket_9 : decode cX9_ticket 9 = .ok (.ireturn, 1) := by decide +kernel
theorem dX9_ticket_10 : decode cX9_ticket 10 = .ok (.iload_n 2, 1) := by decide +kernel
theorem dX9_ticket_11 : decode cX9_ticket 11 = .ok (.iconst 0, 1) := by decide +kernel
theorem dX9_ticket_12 : decode cX9_ticket 12 = .ok (.bipush 13, 2) := by decide +kernel
theorem dX9_ticket_14 : decode cX9_ticket 14 = .ok (.invokestatic 33, 3) := by decide +kernel
theorem dX9_ticket_17 : decode cX9_ticket 17 = .ok (.ifCond .eq 12, 3) := by decide +kernel
theorem dX9_ticket_20 : decode cX9_ticket 20 = .ok (.aload_n 0, 1) := by decide +kernel
theorem dX9_ticket_21 : decode cX9_ticket 21 = .ok (.iload_n 1, 1) := by decide +kernel
theorem dX9_ticket_22 : decode cX9_ticket 22 = .ok (.iload_n 2, 1) := by decide +kernel
theorem dX9_ticket_23 : decode cX9_ticket 23 = .ok (.invokevirtual 46, 3) := by decide +kernel
theorem dX9_ticket_26 : decode cX9_ticket 26 = .ok (.goto 5, 3) := by decide +kernel
theorem dX9_ticket_29 : decode cX9_ticket 29 = .ok (.bipush (-2), 2) := by decide +kernel
theorem dX9_ticket_31 : decode cX9_ticket 31 = .ok (.ireturn, 1) := by decide +kernel
set_option maxRecDepth 20000 in
theorem ggX9_ordered_X9_isOrder : GoodIn wsX9_ordered wsX9_isOrder := goodIn_r _ [6, 1, 7, 8, 5, 9, 10, 11, 12, 13, 14, 15, 16, 17, 18, 19, 20, 21, 22, 23, 24] (by decide +kernel) (by decide +kernel)
set_option maxRecDepth 20000 in
theorem gX9_ordered_X9_isOrder : GoodIn wsX9_ordered (wsV RX9 143 RX9 yX9_isOrder wsX9_isOrder) := goodIn_app (goodIn_of _ (by decide +kernel)) ggX9_ordered_X9_isOrder
set_option maxRecDepth 20000 in
theorem ggX9_ordered_X9_in : GoodIn wsX9_ordered wsX9_in := goodIn_r _ [9] (by decide +kernel) (by decide +kernel)
set_option maxRecDepth 20000 in
theorem gX9_ordered_X9_in : GoodIn wsX9_ordered (va_wsS RX9 33 yX9_in wsX9_in) := goodIn_app (goodIn_of _ (by decide +kernel)) ggX9_ordered_X9_in
theorem dX9_ordered_0 : decode cX9_ordered 0 = .ok (.aload_n 0, 1) := by decide +kernel
theorem dX9_ordered_1 : decode cX9_ordered 1 = .ok (.iload_n 1, 1) := by decide +kernel
theorem dX9_ordered_2 : decode cX9_ordered 2 = .ok (.invokevirtual 143, 3) := by decide +kernel
theorem dX9_ordered_5 : decode cX9_ordered 5 = .ok (.ifCond .ne 5, 3) := by decide +kernel
theorem dX9_ordered_8 : decode cX9_ordered 8 = .ok (.iconst (-1), 1) := by decide +kernel
theorem dX9_ordered_9 : decode cX9_ordered 9 = .ok (.ireturn, 1) := by decide +kernel
theorem dX9_ordered_10 : decode cX9_ordered 10 = .ok (.iload_n 2, 1) := by decide +kernel
theorem dX9_ordered_11 : decode cX9_ordered 11 = .ok (.iconst 0, 1) := by decide +kernel
theorem dX9_ordered_12 : decode cX9_ordered 12 = .ok (.bipush 6, 2) := by decide +kernel
theorem dX9_ordered_14 : decode cX9_ordered 14 = .ok (.invokestatic 33, 3) := by decide +kernel
theorem dX9_ordered_17 : decode cX9_ordered 17 = .ok (.ifCond .eq 21, 3) := by decide +kernel
theorem dX9_ordered_20 : decode cX9_ordered 20 = .ok (.aload_n 0, 1) := by decide +kernel
theorem dX9_ordered_21 : decode cX9_ordered 21 = .ok (.getfield 7, 3) := by decide +kernel
theorem dX9_ordered_24 : decode cX9_ordered 24 = .ok (.sipush 194, 3) := by decide +kernel
theorem dX9_ordered_27 : decode cX9_ordered 27 = .ok (.bipush 10, 2) := by decide +kernel
theorem dX9_ordered_29 : decode cX9_ordered 29 = .ok (.iload_n 1, 1) := by decide +kernel
theorem dX9_ordered_30 : decode cX9_ordered 30 = .ok (.imul, 1) := by decide +kernel
theorem dX9_ordered_31 : decode cX9_ordered 31 = .ok (.iadd, 1) := by decide +kernel
theorem dX9_ordered_32 : decode cX9_ordered 32 = .ok (.iload_n 2, 1) := by decide +kernel
theorem dX9_ordered_33 : decode cX9_ordered 33 = .ok (.iadd, 1) := by decide +kernel
theorem dX9_ordered_34 : decode cX9_ordered 34 = .ok (.iaload, 1) := by decide +kernel
theorem dX9_ordered_35 : decode cX9_ordered 35 = .ok (.goto 5, 3) := by decide +kernel
theorem dX9_ordered_38 : decode cX9_ordered 38 = .ok (.bipush (-2), 2) := by decide +kernel
theorem dX9_ordered_40 : decode cX9_ordered 40 = .ok (.ireturn, 1) := by decide +kernel
set_option maxRecDepth 20000 in
theorem ggX9_price_X9_in : GoodIn wsX9_price wsX9_in := goodIn_r _ [4] (by decide +kernel) (by decide +kernel)
set_option maxRecDepth 20000 in
theorem gX9_price_X9_in : GoodIn wsX9_price (va_wsS RX9 33 yX9_in wsX9_in) := goodIn_app (goodIn_of _ (by decide +kernel)) ggX9_price_X9_in
set_option maxRecDepth 20000 in
theorem ggX9_price_X9_cost : GoodIn wsX9_price wsX9_cost := goodIn_r _ [8, 9, 10, 11, 12, 13, 14, 15, 16, 17, 18, 19, 20, 21, 22, 23, 24] (by decide +kernel) (by decide +kernel)
set_option maxRecDepth 20000 in
theorem gX9_price_X9_cost : GoodIn wsX9_price (wsV RX9 71 RX9 yX9_cost wsX9_cost) := goodIn_app (goodIn_of _ (by decide +kernel)) ggX9_price_X9_cost
theorem dX9_price_0 : decode cX9_price 0 = .ok (.iload_n 1, 1) := by decide +kernel
theorem dX9_price_1 : decode cX9_price 1 = .ok (.iconst 1, 1) := by decide +kernel
theorem dX9_price_2 : decode cX9_price 2 = .ok (.iconst 3, 1) := by decide +kernel
theorem dX9_price_3 : decode cX9_price 3 = .ok (.invokestatic 33, 3) := by decide +kernel
theorem dX9_price_6 : decode cX9_price 6 = .ok (.ifCond .eq 22, 3) := by decide +kernel
theorem dX9_price_9 : decode cX9_price 9 = .ok (.iload_n 2, 1) := by decide +kernel
theorem dX9_price_10 : decode cX9_price 10 = .ok (.iconst 1, 1) := by decide +kernel
theorem dX9_price_11 : decode cX9_price 11 = .ok (.bipush 9, 2) := by decide +kernel
theorem dX9_price_13 : decode cX9_price 13 = .ok (.invokestatic 33, 3) := by decide +kernel
theorem dX9_price_16 : decode cX9_price 16 = .ok (.ifCond .eq 12, 3) := by decide +kernel
theorem dX9_price_19 : decode cX9_price 19 = .ok (.aload_n 0, 1) := by decide +kernel
theorem dX9_price_20 : decode cX9_price 20 = .ok (.iload_n 1, 1) := by decide +kernel
theorem dX9_price_21 : decode cX9_price 21 = .ok (.iload_n 2, 1) := by decide +kernel
theorem dX9_price_22 : decode cX9_price 22 = .ok (.invokevirtual 71, 3) := by decide +kernel
theorem dX9_price_25 : decode cX9_price 25 = .ok (.goto 5, 3) := by decide +kernel
theorem dX9_price_28 : decode cX9_price 28 = .ok (.bipush (-2), 2) := by decide +kernel
theorem dX9_price_30 : decode cX9_price 30 = .ok (.ireturn, 1) := by decide +kernel
set_option maxRecDepth 20000 in
theorem ggX9_fateOf_X9_goTick : GoodIn wsX9_fateOf wsX9_goTick := goodIn_r _ [5, 6, 7, 8, 9, 4, 10, 11, 12, 13, 14, 15, 16, 17, 18, 19, 20, 21, 22, 23, 24, 25, 26, 27, 28, 29, 30, 31, 32, 33, 34, 35, 36, 37, 38, 39, 40, 41, 42, 43, 44, 45, 46, 47, 48, 49, 50, 51, 52, 53, 54, 55, 56, 57, 58, 59, 60, 61, 62, 63, 64, 65, 66, 67, 68, 69, 70, 71, 72, 73, 74, 75, 76, 77, 78, 79, 80, 81, 82, 83, 84, 85, 86, 87, 88, 89, 90, 91, 92, 93, 94, 95, 96, 97, 98, 99, 100, 101, 102, 103, 104, 105, 106, 107, 108, 109, 110, 111, 112, 113, 114, 115, 116, 117] (by decide +kernel) (by decide +kernel)
set_option maxRecDepth 20000 in
theorem gX9_fateOf_X9_goTick : GoodIn wsX9_fateOf (wsV RX9 146 RX9 yX9_goTick wsX9_goTick) := goodIn_app (goodIn_of _ (by decide +kernel)) ggX9_fateOf_X9_goTick
set_option maxRecDepth 20000 in
theorem ggX9_fateOf_X9_of : GoodIn wsX9_fateOf wsX9_of := goodIn_r _ [26, 6, 103, 104, 105, 106, 107, 108, 109, 110, 111, 112, 113, 114, 115, 116, 117] (by decide +kernel) (by decide +kernel)
set_option maxRecDepth 20000 in
theorem gX9_fateOf_X9_of : GoodIn wsX9_fateOf (wsV RX9 46 RX9 yX9_of wsX9_of) := goodIn_app (goodIn_of _ (by decide +kernel)) ggX9_fateOf_X9_of
theorem dX9_fateOf_0 : decode cX9_fateOf 0 = .ok (.iconst 1, 1) := by decide +kernel
theorem dX9_fateOf_1 : decode cX9_fateOf 1 = .ok (.istore_n 3, 1) := by decide +kernel
theorem dX9_fateOf_2 : decode cX9_fateOf 2 = .ok (.iload_n 3, 1) := by decide +kernel
theorem dX9_fateOf_3 : decode cX9_fateOf 3 = .ok (.sipush 300, 3) := by decide +kernel
theorem dX9_fateOf_6 : decode cX9_fateOf 6 = .ok (.if_icmp .gt 69, 3) := by decide +kernel
theorem dX9_fateOf_9 : decode cX9_fateOf 9 = .ok (.aload_n 0, 1) := by decide +kernel
theorem dX9_fateOf_10 : decode cX9_fateOf 10 = .ok (.invokevirtual 146, 3) := by decide +kernel
theorem dX9_fateOf_13 : decode cX9_fateOf 13 = .ok (.aload_n 0, 1) := by decide +kernel
theorem dX9_fateOf_14 : decode cX9_fateOf 14 = .ok (.iload_n 1, 1) := by decide +kernel
theorem dX9_fateOf_15 : decode cX9_fateOf 15 = .ok (.bipush 6, 2) := by decide +kernel
theorem dX9_fateOf_17 : decode cX9_fateOf 17 = .ok (.invokevirtual 46, 3) := by decide +kernel
theorem dX9_fateOf_20 : decode cX9_fateOf 20 = .ok (.iconst 3, 1) := by decide +kernel
theorem dX9_fateOf_21 : decode cX9_fateOf 21 = .ok (.if_icmp .lt 48, 3) := by decide +kernel
theorem dX9_fateOf_24 : decode cX9_fateOf 24 = .ok (.iload_n 2, 1) := by decide +kernel
theorem dX9_fateOf_25 : decode cX9_fateOf 25 = .ok (.ifCond .ne 13, 3) := by decide +kernel
theorem dX9_fateOf_28 : decode cX9_fateOf 28 = .ok (.aload_n 0, 1) := by decide +kernel
theorem dX9_fateOf_29 : decode cX9_fateOf 29 = .ok (.iload_n 1, 1) := by decide +kernel
theorem dX9_fateOf_30 : decode cX9_fateOf 30 = .ok (.bipush 6, 2) := by decide +kernel
theorem dX9_fateOf_32 : decode cX9_fateOf 32 = .ok (.invokevirtual 46, 3) := by decide +kernel
theorem dX9_fateOf_35 : decode cX9_fateOf 35 = .ok (.goto 33, 3) := by decide +kernel
theorem dX9_fateOf_38 : decode cX9_fateOf 38 = .ok (.iload_n 2, 1) := by decide +kernel
theorem dX9_fateOf_39 : decode cX9_fateOf 39 = .ok (.iconst 1, 1) := by decide +kernel
theorem dX9_fateOf_40 : decode cX9_fateOf 40 = .ok (.if_icmp .ne 7, 3) := by decide +kernel
theorem dX9_fateOf_43 : decode cX9_fateOf 43 = .ok (.iload_n 3, 1) := by decide +kernel
theorem dX9_fateOf_44 : decode cX9_fateOf 44 = .ok (.goto 24, 3) := by decide +kernel
theorem dX9_fateOf_47 : decode cX9_fateOf 47 = .ok (.iload_n 2, 1) := by decide +kernel
theorem dX9_fateOf_48 : decode cX9_fateOf 48 = .ok (.iconst 2, 1) := by decide +kernel
theorem dX9_fateOf_49 : decode cX9_fateOf 49 = .ok (.if_icmp .ne 13, 3) := by decide +kernel
theorem dX9_fateOf_52 : decode cX9_fateOf 52 = .ok (.aload_n 0, 1) := by decide +kernel
theorem dX9_fateOf_53 : decode cX9_fateOf 53 = .ok (.iload_n 1, 1) := by decide +kernel
theorem dX9_fateOf_54 : decode cX9_fateOf 54 = .ok (.bipush 12, 2) := by decide +kernel
theorem dX9_fateOf_56 : decode cX9_fateOf 56 = .ok (.invokevirtual 46, 3) := by decide +kernel
theorem dX9_fateOf_59 : decode cX9_fateOf 59 = .ok (.goto 9, 3) := by decide +kernel
theorem dX9_fateOf_62 : decode cX9_fateOf 62 = .ok (.aload_n 0, 1) := by decide +kernel
theorem dX9_fateOf_63 : decode cX9_fateOf 63 = .ok (.iload_n 1, 1) := by decide +kernel
theorem dX9_fateOf_64 : decode cX9_fateOf 64 = .ok (.iconst 4, 1) := by decide +kernel
theorem dX9_fateOf_65 : decode cX9_fateOf 65 = .ok (.invokevirtual 46, 3) := by decide +kernel
theorem dX9_fateOf_68 : decode cX9_fateOf 68 = .ok (.ireturn, 1) := by decide +kernel
theorem dX9_fateOf_69 : decode cX9_fateOf 69 = .ok (.iinc 3 1, 3) := by decide +kernel
theorem dX9_fateOf_72 : decode cX9_fateOf 72 = .ok (.goto (-70), 3) := by decide +kernel
theorem dX9_fateOf_75 : decode cX9_fateOf 75 = .ok (.bipush (-5), 2) := by decide +kernel
theorem dX9_fateOf_77 : decode cX9_fateOf 77 = .ok (.ireturn, 1) := by decide +kernel
set_option maxRecDepth 20000 in
theorem ggX9_fate_X9_isTicket : GoodIn wsX9_fate wsX9_isTicket := goodIn_r _ [7, 2, 8, 9, 6, 10, 115, 116, 117, 118, 119, 120, 121, 122, 123, 124, 125, 126, 127, 128, 129] (by decide +kernel) (by decide +kernel)
set_option maxRecDepth 20000 in
theorem gX9_fate_X9_isTicket : GoodIn wsX9_fate (wsV RX9 140 RX9 yX9_isTicket wsX9_isTicket) := goodIn_app (goodIn_of _ (by decide +kernel)) ggX9_fate_X9_isTicket
set_option maxRecDepth 20000 in
theorem ggX9_fate_X9_in : GoodIn wsX9_fate wsX9_in := goodIn_r _ [10] (by decide +kernel) (by decide +kernel)
set_option maxRecDepth 20000 in
theorem gX9_fate_X9_in : GoodIn wsX9_fate (va_wsS RX9 33 yX9_in wsX9_in) := goodIn_app (goodIn_of _ (by decide +kernel)) ggX9_fate_X9_in
set_option maxRecDepth 20000 in
theorem ggX9_fate_X9_of : GoodIn wsX9_fate wsX9_of := goodIn_r _ [14, 2, 115, 116, 117, 118, 119, 120, 121, 122, 123, 124, 125, 126, 127, 128, 129] (by decide +kernel) (by decide +kernel)
set_option maxRecDepth 20000 in
theorem gX9_fate_X9_of : GoodIn wsX9_fate (wsV RX9 46 RX9 yX9_of wsX9_of) := goodIn_app (goodIn_of _ (by decide +kernel)) ggX9_fate_X9_of
set_option maxRecDepth 20000 in
theorem ggX9_fate_X9_fateOf : GoodIn wsX9_fate wsX9_fateOf := goodIn_r _ [18, 19, 20, 21, 6, 22, 2, 23, 24, 25, 26, 27, 28, 29, 30, 31, 32, 33, 34, 35, 36, 37, 38, 11, 12, 13, 14, 39, 40, 41, 42, 43, 44, 45, 46, 47, 48, 49, 50, 51, 52, 53, 54, 55, 56, 57, 58, 59, 60, 61, 62, 63, 64, 65, 66, 67, 68, 69, 70, 71, 72, 73, 74, 75, 76, 77, 78, 79, 80, 81, 82, 83, 84, 85, 86, 87, 88, 89, 90, 91, 92, 93, 94, 95, 96, 97, 98, 99, 100, 101, 102, 103, 104, 105, 106, 107, 108, 109, 110, 111, 112, 113, 114, 115, 116, 117, 118, 119, 120, 121, 122, 123, 124, 125, 126, 127, 128, 129] (by decide +kernel) (by decide +kernel)
set_option maxRecDepth 20000 in
theorem gX9_fate_X9_fateOf : GoodIn wsX9_fate (wsV RX9 191 RX9 yX9_fateOf wsX9_fateOf) := goodIn_app (goodIn_of _ (by decide +kernel)) ggX9_fate_X9_fateOf
theorem dX9_fate_0 : decode cX9_fate 0 = .ok (.aload_n 0, 1) := by decide +kernel
theorem dX9_fate_1 : decode cX9_fate 1 = .ok (.iload_n 1, 1) := by decide +kernel
theorem dX9_fate_2 : decode cX9_fate 2 = .ok (.invokevirtual 140, 3) := by decide +kernel
theorem dX9_fate_5 : decode cX9_fate 5 = .ok (.ifCond .ne 5, 3) := by decide +kernel
theorem dX9_fate_8 : decode cX9_fate 8 = .ok (.iconst (-1), 1) := by decide +kernel
theorem dX9_fate_9 : decode cX9_fate 9 = .ok (.ireturn, 1) := by decide +kernel
theorem dX9_fate_10 : decode cX9_fate 10 = .ok (.iload_n 2, 1) := by decide +kernel
theorem dX9_fate_11 : decode cX9_fate 11 = .ok (.iconst 0, 1) := by decide +kernel
theorem dX9_fate_12 : decode cX9_fate 12 = .ok (.iconst 3, 1) := by decide +kernel
theorem dX9_fate_13 : decode cX9_fate 13 = .ok (.invokestatic 33, 3) := by decide +kernel
theorem dX9_fate_16 : decode cX9_fate 16 = .ok (.ifCond .ne 6, 3) := by decide +kernel
theorem dX9_fate_19 : decode cX9_fate 19 = .ok (.bipush (-2), 2) := by decide +kernel
theorem dX9_fate_21 : decode cX9_fate 21 = .ok (.ireturn, 1) := by decide +kernel
theorem dX9_fate_22 : decode cX9_fate 22 = .ok (.aload_n 0, 1) := by decide +kernel
theorem dX9_fate_23 : decode cX9_fate 23 = .ok (.iload_n 1, 1) := by decide +kernel
theorem dX9_fate_24 : decode cX9_fate 24 = .ok (.bipush 6, 2) := by decide +kernel
theorem dX9_fate_26 : decode cX9_fate 26 = .ok (.invokevirtual 46, 3) := by decide +kernel
theorem dX9_fate_29 : decode cX9_fate 29 = .ok (.iconst 3, 1) := by decide +kernel
theorem dX9_fate_30 : decode cX9_fate 30 = .ok (.if_icmp .lt 6, 3) := by decide +kernel
theorem dX9_fate_33 : decode cX9_fate 33 = .ok (.bipush (-4), 2) := by decide +kernel
theorem dX9_fate_35 : decode cX9_fate 35 = .ok (.ireturn, 1) := by decide +kernel
theorem dX9_fate_36 : decode cX9_fate 36 = .ok (.iconst 0, 1) := by decide +kernel
theorem dX9_fate_37 : decode cX9_fate 37 = .ok (.istore_n 3, 1) := by decide +kernel
theorem dX9_fate_38 : decode cX9_fate 38 = .ok (.iload_n 3, 1) := by decide +kernel
theorem dX9_fate_39 : decode cX9_fate 39 = .ok (.sipush 974, 3) := by decide +kernel
theorem dX9_fate_42 : decode cX9_fate 42 = .ok (.if_icmp .ge 21, 3) := by decide +kernel
theorem dX9_fate_45 : decode cX9_fate 45 = .ok (.aload_n 0, 1) := by decide +kernel
theorem dX9_fate_46 : decode cX9_fate 46 = .ok (.getfield 19, 3) := by decide +kernel
theorem dX9_fate_49 : decode cX9_fate 49 = .ok (.iload_n 3, 1) := by decide +kernel
theorem dX9_fate_50 : decode cX9_fate 50 = .ok (.aload_n 0, 1) := by decide +kernel
theorem dX9_fate_51 : decode cX9_fate 51 = .ok (.getfield 7, 3) := by decide +kernel
theorem dX9_fate_54 : decode cX9_fate 54 = .ok (.iload_n 3, 1) := by decide +kernel
theorem dX9_fate_55 : decode cX9_fate 55 = .ok (.iaload, 1) := by decide +kernel
theorem dX9_fate_56 : decode cX9_fate 56 = .ok (.iastore, 1) := by decide +kernel
theorem dX9_fate_57 : decode cX9_fate 57 = .ok (.iinc 3 1, 3) := by decide +kernel
theorem dX9_fate_60 : decode cX9_fate 60 = .ok (.goto (-22), 3) := by decide +kernel
theorem dX9_fate_63 : decode cX9_fate 63 = .ok (.aload_n 0, 1) := by decide +kernel
theorem dX9_fate_64 : decode cX9_fate 64 = .ok (.iload_n 1, 1) := by decide +kernel
theorem dX9_fate_65 : decode cX9_fate 65 = .ok (.iload_n 2, 1) := by decide +kernel
theorem dX9_fate_66 : decode cX9_fate 66 = .ok (.invokevirtual 191, 3) := by decide +kernel
theorem dX9_fate_69 : decode cX9_fate 69 = .ok (.istore_n 3, 1) := by decide +kernel
theorem dX9_fate_70 : decode cX9_fate 70 = .ok (.iconst 0, 1) := by decide +kernel
theorem dX9_fate_71 : decode cX9_fate 71 = .ok (.istore 4, 2) := by decide +kernel
theorem dX9_fate_73 : decode cX9_fate 73 = .ok (.iload 4, 2) := by decide +kernel
theorem dX9_fate_75 : decode cX9_fate 75 = .ok (.sipush 974, 3) := by decide +kernel
theorem dX9_fate_78 : decode cX9_fate 78 = .ok (.if_icmp .ge 23, 3) := by decide +kernel
theorem dX9_fate_81 : decode cX9_fate 81 = .ok (.aload_n 0, 1) := by decide +kernel
theorem dX9_fate_82 : decode cX9_fate 82 = .ok (.getfield 7, 3) := by decide +kernel
theorem dX9_fate_85 : decode cX9_fate 85 = .ok (.iload 4, 2) := by decide +kernel
theorem dX9_fate_87 : decode cX9_fate 87 = .ok (.aload_n 0, 1) := by decide +kernel
theorem dX9_fate_88 : decode cX9_fate 88 = .ok (.getfield 19, 3) := by decide +kernel
theorem dX9_fate_91 : decode cX9_fate 91 = .ok (.iload 4, 2) := by decide +kernel
theorem dX9_fate_93 : decode cX9_fate 93 = .ok (.iaload, 1) := by decide +kernel
theorem dX9_fate_94 : decode cX9_fate 94 = .ok (.iastore, 1) := by decide +kernel
theorem dX9_fate_95 : decode cX9_fate 95 = .ok (.iinc 4 1, 3) := by decide +kernel
theorem dX9_fate_98 : decode cX9_fate 98 = .ok (.goto (-25), 3) := by decide +kernel
theorem dX9_fate_101 : decode cX9_fate 101 = .ok (.iload_n 3, 1) := by decide +kernel
theorem dX9_fate_102 : decode cX9_fate 102 = .ok (.ireturn, 1) := by decide +kernel
set_option maxRecDepth 20000 in
theorem ggX9_beginAlone_X9_ofLine : GoodIn wsX9_beginAlone wsX9_ofLine := goodIn_r _ [7, 8, 9, 10, 11, 12, 13, 14, 15, 16, 17, 18, 19, 20, 21, 22, 23] (by decide +kernel) (by decide +kernel)
set_option maxRecDepth 20000 in
theorem gX9_beginAlone_X9_ofLine : GoodIn wsX9_beginAlone (wsV RX9 37 RX9 yX9_ofLine wsX9_ofLine) := goodIn_app (goodIn_of _ (by decide +kernel)) ggX9_beginAlone_X9_ofLine
theorem dX9_beginAlone_0 : decode cX9_beginAlone 0 = .ok (.aload_n 0, 1) := by decide +kernel
theorem dX9_beginAlone_1 : decode cX9_beginAlone 1 = .ok (.aload_n 0, 1) := by decide +kernel
theorem dX9_beginAlone_2 : decode cX9_beginAlone 2 = .ok (.iload_n 1, 1) := by decide +kernel
theorem dX9_beginAlone_3 : decode cX9_beginAlone 3 = .ok (.iconst 1, 1) := by decide +kernel
theorem dX9_beginAlone_4 : decode cX9_beginAlone 4 = .ok (.invokevirtual 37, 3) := by decide +kernel
theorem dX9_beginAlone_7 : decode cX9_beginAlone 7 = .ok (.putfield 194, 3) := by decide +kernel
theorem dX9_beginAlone_10 : decode cX9_beginAlone 10 = .ok (.aload_n 0, 1) := by decide +kernel
theorem dX9_beginAlone_11 : decode cX9_beginAlone 11 = .ok (.aload_n 0, 1) := by decide +kernel
theorem dX9_beginAlone_12 : decode cX9_beginAlone 12 = .ok (.iload_n 1, 1) := by decide +kernel
theorem dX9_beginAlone_13 : decode cX9_beginAlone 13 = .ok (.iconst 2, 1) := by decide +kernel
theorem dX9_beginAlone_14 : decode cX9_beginAlone 14 = .ok (.invokevirtual 37, 3) := by decide +kernel
theorem dX9_beginAlone_17 : decode cX9_beginAlone 17 = .ok (.putfield 197, 3) := by decide +kernel
theorem dX9_beginAlone_20 : decode cX9_beginAlone 20 = .ok (.return_, 1) := by decide +kernel
set_option maxRecDepth 20000 in
theorem ggX9_goAlone_X9_ofLine : GoodIn wsX9_goAlone wsX9_ofLine := goodIn_r _ [7, 8, 9, 10, 11, 12, 13, 14, 15, 16, 17, 18, 19, 20, 21, 22, 23] (by decide +kernel) (by decide +kernel)
set_option maxRecDepth 20000 in
theorem gX9_goAlone_X9_ofLine : GoodIn wsX9_goAlone (wsV RX9 37 RX9 yX9_ofLine wsX9_ofLine) := goodIn_app (goodIn_of _ (by decide +kernel)) ggX9_goAlone_X9_ofLine
theorem dX9_goAlone_0 : decode cX9_goAlone 0 = .ok (.aload_n 0, 1) := by decide +kernel
theorem dX9_goAlone_1 : decode cX9_goAlone 1 = .ok (.dup, 1) := by decide +kernel
theorem dX9_goAlone_2 : decode cX9_goAlone 2 = .ok (.getfield 197, 3) := by decide +kernel
theorem dX9_goAlone_5 : decode cX9_goAlone 5 = .ok (.aload_n 0, 1) := by decide +kernel
theorem dX9_goAlone_6 : decode cX9_goAlone 6 = .ok (.iload_n 1, 1) := by decide +kernel
theorem dX9_goAlone_7 : decode cX9_goAlone 7 = .ok (.iconst 3, 1) := by decide +kernel
theorem dX9_goAlone_8 : decode cX9_goAlone 8 = .ok (.invokevirtual 37, 3) := by decide +kernel
theorem dX9_goAlone_11 : decode cX9_goAlone 11 = .ok (.iadd, 1) := by decide +kernel
theorem dX9_goAlone_12 : decode cX9_goAlone 12 = .ok (.putfield 197, 3) := by decide +kernel
theorem dX9_goAlone_15 : decode cX9_goAlone 15 = .ok (.aload_n 0, 1) := by decide +kernel
theorem dX9_goAlone_16 : decode cX9_goAlone 16 = .ok (.getfield 197, 3) := by decide +kernel
theorem dX9_goAlone_19 : decode cX9_goAlone 19 = .ok (.bipush 10, 2) := by decide +kernel
theorem dX9_goAlone_21 : decode cX9_goAlone 21 = .ok (.if_icmp .lt 7, 3) := by decide +kernel
theorem dX9_goAlone_24 : decode cX9_goAlone 24 = .ok (.iconst 0, 1) := by decide +kernel
theorem dX9_goAlone_25 : decode cX9_goAlone 25 = .ok (.goto 17, 3) := by decide +kernel
theorem dX9_goAlone_28 : decode cX9_goAlone 28 = .ok (.aload_n 0, 1) := by decide +kernel
theorem dX9_goAlone_29 : decode cX9_goAlone 29 = .ok (.getfield 197, 3) := by decide +kernel
theorem dX9_goAlone_32 : decode cX9_goAlone 32 = .ok (.bipush (-10), 2) := by decide +kernel
theorem dX9_goAlone_34 : decode cX9_goAlone 34 = .ok (.if_icmp .gt 7, 3) := by decide +kernel
theorem dX9_goAlone_37 : decode cX9_goAlone 37 = .ok (.iconst 2, 1) := by decide +kernel
theorem dX9_goAlone_38 : decode cX9_goAlone 38 = .ok (.goto 4, 3) := by decide +kernel
theorem dX9_goAlone_41 : decode cX9_goAlone 41 = .ok (.iconst 1, 1) := by decide +kernel
theorem dX9_goAlone_42 : decode cX9_goAlone 42 = .ok (.istore_n 2, 1) := by decide +kernel
theorem dX9_goAlone_43 : decode cX9_goAlone 43 = .ok (.aload_n 0, 1) := by decide +kernel
theorem dX9_goAlone_44 : decode cX9_goAlone 44 = .ok (.dup, 1) := by decide +kernel
theorem dX9_goAlone_45 : decode cX9_goAlone 45 = .ok (.getfield 197, 3) := by decide +kernel
theorem dX9_goAlone_48 : decode cX9_goAlone 48 = .ok (.iload_n 2, 1) := by decide +kernel
theorem dX9_goAlone_49 : decode cX9_goAlone 49 = .ok (.ifCond .ne 8, 3) := by decide +kernel
theorem dX9_goAlone_52 : decode cX9_goAlone 52 = .ok (.bipush 10, 2) := by decide +kernel
theorem dX9_goAlone_54 : decode cX9_goAlone 54 = .ok (.goto 14, 3) := by decide +kernel
theorem dX9_goAlone_57 : decode cX9_goAlone 57 = .ok (.iload_n 2, 1) := by decide +kernel
theorem dX9_goAlone_58 : decode cX9_goAlone 58 = .ok (.iconst 2, 1) := by decide +kernel
theorem dX9_goAlone_59 : decode cX9_goAlone 59 = .ok (.if_icmp .ne 8, 3) := by decide +kernel
theorem dX9_goAlone_62 : decode cX9_goAlone 62 = .ok (.bipush (-10), 2) := by decide +kernel
theorem dX9_goAlone_64 : decode cX9_goAlone 64 = .ok (.goto 4, 3) := by decide +kernel
theorem dX9_goAlone_67 : decode cX9_goAlone 67 = .ok (.iconst 0, 1) := by decide +kernel
theorem dX9_goAlone_68 : decode cX9_goAlone 68 = .ok (.isub, 1) := by decide +kernel
theorem dX9_goAlone_69 : decode cX9_goAlone 69 = .ok (.putfield 197, 3) := by decide +kernel
theorem dX9_goAlone_72 : decode cX9_goAlone 72 = .ok (.aload_n 0, 1) := by decide +kernel
theorem dX9_goAlone_73 : decode cX9_goAlone 73 = .ok (.aload_n 0, 1) := by decide +kernel
theorem dX9_goAlone_74 : decode cX9_goAlone 74 = .ok (.getfield 194, 3) := by decide +kernel
theorem dX9_goAlone_77 : decode cX9_goAlone 77 = .ok (.iload_n 2, 1) := by decide +kernel
theorem dX9_goAlone_78 : decode cX9_goAlone 78 = .ok (.iadd, 1) := by decide +kernel
theorem dX9_goAlone_79 : decode cX9_goAlone 79 = .ok (.aload_n 0, 1) := by decide +kernel
theorem dX9_goAlone_80 : decode cX9_goAlone 80 = .ok (.iload_n 1, 1) := by decide +kernel
theorem dX9_goAlone_81 : decode cX9_goAlone 81 = .ok (.iconst 0, 1) := by decide +kernel
theorem dX9_goAlone_82 : decode cX9_goAlone 82 = .ok (.invokevirtual 37, 3) := by decide +kernel
theorem dX9_goAlone_85 : decode cX9_goAlone 85 = .ok (.irem, 1) := by decide +kernel
theorem dX9_goAlone_86 : decode cX9_goAlone 86 = .ok (.putfield 194, 3) := by decide +kernel
theorem dX9_goAlone_89 : decode cX9_goAlone 89 = .ok (.return_, 1) := by decide +kernel
set_option maxRecDepth 20000 in
theorem ggX9_slotAlone_X9_stationAt : GoodIn wsX9_slotAlone wsX9_stationAt := goodIn_r _ [6] (by decide +kernel) (by decide +kernel)
set_option maxRecDepth 20000 in
theorem gX9_slotAlone_X9_stationAt : GoodIn wsX9_slotAlone (va_wsS RX9 42 yX9_stationAt wsX9_stationAt) := goodIn_app (goodIn_of _ (by decide +kernel)) ggX9_slotAlone_X9_stationAt
set_option maxRecDepth 20000 in
theorem ggX9_slotAlone_X9_ofLine : GoodIn wsX9_slotAlone wsX9_ofLine := goodIn_r _ [10, 2, 11, 12, 13, 14, 15, 16, 17, 18, 19, 20, 21, 22, 23, 24, 25] (by decide +kernel) (by decide +kernel)
set_option maxRecDepth 20000 in
theorem gX9_slotAlone_X9_ofLine : GoodIn wsX9_slotAlone (wsV RX9 37 RX9 yX9_ofLine wsX9_ofLine) := goodIn_app (goodIn_of _ (by decide +kernel)) ggX9_slotAlone_X9_ofLine
theorem dX9_slotAlone_0 : decode cX9_slotAlone 0 = .ok (.aload_n 0, 1) := by decide +kernel
theorem dX9_slotAlone_1 : decode cX9_slotAlone 1 = .ok (.getfield 194, 3) := by decide +kernel
theorem dX9_slotAlone_4 : decode cX9_slotAlone 4 = .ok (.aload_n 0, 1) := by decide +kernel
theorem dX9_slotAlone_5 : decode cX9_slotAlone 5 = .ok (.getfield 7, 3) := by decide +kernel
theorem dX9_slotAlone_8 : decode cX9_slotAlone 8 = .ok (.iload_n 1, 1) := by decide +kernel
theorem dX9_slotAlone_9 : decode cX9_slotAlone 9 = .ok (.invokestatic 42, 3) := by decide +kernel
theorem dX9_slotAlone_12 : decode cX9_slotAlone 12 = .ok (.iconst 0, 1) := by decide +kernel
theorem dX9_slotAlone_13 : decode cX9_slotAlone 13 = .ok (.iadd, 1) := by decide +kernel
theorem dX9_slotAlone_14 : decode cX9_slotAlone 14 = .ok (.iaload, 1) := by decide +kernel
theorem dX9_slotAlone_15 : decode cX9_slotAlone 15 = .ok (.iadd, 1) := by decide +kernel
theorem dX9_slotAlone_16 : decode cX9_slotAlone 16 = .ok (.aload_n 0, 1) := by decide +kernel
theorem dX9_slotAlone_17 : decode cX9_slotAlone 17 = .ok (.iload_n 1, 1) := by decide +kernel
theorem dX9_slotAlone_18 : decode cX9_slotAlone 18 = .ok (.bipush 10, 2) := by decide +kernel
theorem dX9_slotAlone_20 : decode cX9_slotAlone 20 = .ok (.idiv, 1) := by decide +kernel
theorem dX9_slotAlone_21 : decode cX9_slotAlone 21 = .ok (.iconst 0, 1) := by decide +kernel
theorem dX9_slotAlone_22 : decode cX9_slotAlone 22 = .ok (.invokevirtual 37, 3) := by decide +kernel
theorem dX9_slotAlone_25 : decode cX9_slotAlone 25 = .ok (.irem, 1) := by decide +kernel
theorem dX9_slotAlone_26 : decode cX9_slotAlone 26 = .ok (.ireturn, 1) := by decide +kernel
set_option maxRecDepth 20000 in
theorem ggX9_slotIn_X9_isStation : GoodIn wsX9_slotIn wsX9_isStation := goodIn_r _ [5, 6, 7, 4, 8, 9, 10, 11, 12, 13, 31, 32, 33, 34, 35, 36, 37, 38, 39, 40, 41, 42, 43, 44, 45] (by decide +kernel) (by decide +kernel)
set_option maxRecDepth 20000 in
theorem gX9_slotIn_X9_isStation : GoodIn wsX9_slotIn (wsV RX9 131 RX9 yX9_isStation wsX9_isStation) := goodIn_app (goodIn_of _ (by decide +kernel)) ggX9_slotIn_X9_isStation
set_option maxRecDepth 20000 in
theorem ggX9_slotIn_X9_in : GoodIn wsX9_slotIn wsX9_in := goodIn_r _ [8] (by decide +kernel) (by decide +kernel)
set_option maxRecDepth 20000 in
theorem gX9_slotIn_X9_in : GoodIn wsX9_slotIn (va_wsS RX9 33 yX9_in wsX9_in) := goodIn_app (goodIn_of _ (by decide +kernel)) ggX9_slotIn_X9_in
set_option maxRecDepth 20000 in
theorem ggX9_slotIn_X9_beginAlone : GoodIn wsX9_slotIn wsX9_beginAlone := goodIn_r _ [17, 18, 19, 9, 10, 11, 4, 12, 13, 31, 32, 33, 34, 35, 36, 37, 38, 39, 40, 41, 42, 43, 44, 45] (by decide +kernel) (by decide +kernel)
set_option maxRecDepth 20000 in
theorem gX9_slotIn_X9_beginAlone : GoodIn wsX9_slotIn (wsV RX9 200 RX9 yX9_beginAlone wsX9_beginAlone) := goodIn_app (goodIn_of _ (by decide +kernel)) ggX9_slotIn_X9_beginAlone
set_option maxRecDepth 20000 in
theorem ggX9_slotIn_X9_goAlone : GoodIn wsX9_slotIn wsX9_goAlone := goodIn_r _ [23, 19, 18, 9, 10, 11, 4, 12, 13, 31, 32, 33, 34, 35, 36, 37, 38, 39, 40, 41, 42, 43, 44, 45] (by decide +kernel) (by decide +kernel)
set_option maxRecDepth 20000 in
theorem gX9_slotIn_X9_goAlone : GoodIn wsX9_slotIn (wsV RX9 203 RX9 yX9_goAlone wsX9_goAlone) := goodIn_app (goodIn_of _ (by decide +kernel)) ggX9_slotIn_X9_goAlone
set_option maxRecDepth 20000 in
theorem ggX9_slotIn_X9_slotAlone : GoodIn wsX9_slotIn wsX9_slotAlone := goodIn_r _ [27, 18, 13, 28, 29, 4, 30, 9, 10, 11, 12, 31, 32, 33, 34, 35, 36, 37, 38, 39, 40, 41, 42, 43, 44, 45] (by decide +kernel) (by decide +kernel)
set_option maxRecDepth 20000 in
theorem gX9_slotIn_X9_slotAlone : GoodIn wsX9_slotIn (wsV RX9 206 RX9 yX9_slotAlone wsX9_slotAlone) := goodIn_app (goodIn_of _ (by decide +kernel)) ggX9_slotIn_X9_slotAlone
theorem dX9_slotIn_0 : decode cX9_slotIn 0 = .ok (.aload_n 0, 1) := by decide +kernel
theorem dX9_slotIn_1 : decode cX9_slotIn 1 = .ok (.iload_n 1, 1) := by decide +kernel
theorem dX9_slotIn_2 : decode cX9_slotIn 2 = .ok (.invokevirtual 131, 3) := by decide +kernel
theorem dX9_slotIn_5 : decode cX9_slotIn 5 = .ok (.ifCond .ne 5, 3) := by decide +kernel
theorem dX9_slotIn_8 : decode cX9_slotIn 8 = .ok (.iconst (-1), 1) := by decide +kernel
theorem dX9_slotIn_9 : decode cX9_slotIn 9 = .ok (.ireturn, 1) := by decide +kernel
theorem dX9_slotIn_10 : decode cX9_slotIn 10 = .ok (.iload_n 2, 1) := by decide +kernel
theorem dX9_slotIn_11 : decode cX9_slotIn 11 = .ok (.iconst 0, 1) := by decide +kernel
theorem dX9_slotIn_12 : decode cX9_slotIn 12 = .ok (.sipush 300, 3) := by decide +kernel
theorem dX9_slotIn_15 : decode cX9_slotIn 15 = .ok (.invokestatic 33, 3) := by decide +kernel
theorem dX9_slotIn_18 : decode cX9_slotIn 18 = .ok (.ifCond .ne 6, 3) := by decide +kernel
theorem dX9_slotIn_21 : decode cX9_slotIn 21 = .ok (.bipush (-2), 2) := by decide +kernel
theorem dX9_slotIn_23 : decode cX9_slotIn 23 = .ok (.ireturn, 1) := by decide +kernel
theorem dX9_slotIn_24 : decode cX9_slotIn 24 = .ok (.aload_n 0, 1) := by decide +kernel
theorem dX9_slotIn_25 : decode cX9_slotIn 25 = .ok (.iload_n 1, 1) := by decide +kernel
theorem dX9_slotIn_26 : decode cX9_slotIn 26 = .ok (.bipush 10, 2) := by decide +kernel
theorem dX9_slotIn_28 : decode cX9_slotIn 28 = .ok (.idiv, 1) := by decide +kernel
theorem dX9_slotIn_29 : decode cX9_slotIn 29 = .ok (.invokevirtual 200, 3) := by decide +kernel
theorem dX9_slotIn_32 : decode cX9_slotIn 32 = .ok (.iconst 0, 1) := by decide +kernel
theorem dX9_slotIn_33 : decode cX9_slotIn 33 = .ok (.istore_n 3, 1) := by decide +kernel
theorem dX9_slotIn_34 : decode cX9_slotIn 34 = .ok (.iload_n 3, 1) := by decide +kernel
theorem dX9_slotIn_35 : decode cX9_slotIn 35 = .ok (.iload_n 2, 1) := by decide +kernel
theorem dX9_slotIn_36 : decode cX9_slotIn 36 = .ok (.if_icmp .ge 17, 3) := by decide +kernel
theorem dX9_slotIn_39 : decode cX9_slotIn 39 = .ok (.aload_n 0, 1) := by decide +kernel
theorem dX9_slotIn_40 : decode cX9_slotIn 40 = .ok (.iload_n 1, 1) := by decide +kernel
theorem dX9_slotIn_41 : decode cX9_slotIn 41 = .ok (.bipush 10, 2) := by decide +kernel
theorem dX9_slotIn_43 : decode cX9_slotIn 43 = .ok (.idiv, 1) := by decide +kernel
theorem dX9_slotIn_44 : decode cX9_slotIn 44 = .ok (.invokevirtual 203, 3) := by decide +kernel
theorem dX9_slotIn_47 : decode cX9_slotIn 47 = .ok (.iinc 3 1, 3) := by decide +kernel
theorem dX9_slotIn_50 : decode cX9_slotIn 50 = .ok (.goto (-16), 3) := by decide +kernel
theorem dX9_slotIn_53 : decode cX9_slotIn 53 = .ok (.aload_n 0, 1) := by decide +kernel
theorem dX9_slotIn_54 : decode cX9_slotIn 54 = .ok (.iload_n 1, 1) := by decide +kernel
theorem dX9_slotIn_55 : decode cX9_slotIn 55 = .ok (.invokevirtual 206, 3) := by decide +kernel
theorem dX9_slotIn_58 : decode cX9_slotIn 58 = .ok (.ireturn, 1) := by decide +kernel
set_option maxRecDepth 20000 in
theorem ggX9_lapsNeeded_X9_isStation : GoodIn wsX9_lapsNeeded wsX9_isStation := goodIn_r _ [5, 6, 7, 4, 8, 9, 10, 11, 12, 13, 31, 32, 33, 34, 35, 36, 37, 38, 39, 40, 41, 42, 43, 44, 45] (by decide +kernel) (by decide +kernel)
set_option maxRecDepth 20000 in
theorem gX9_lapsNeeded_X9_isStation : GoodIn wsX9_lapsNeeded (wsV RX9 131 RX9 yX9_isStation wsX9_isStation) := goodIn_app (goodIn_of _ (by decide +kernel)) ggX9_lapsNeeded_X9_isStation
set_option maxRecDepth 20000 in
theorem ggX9_lapsNeeded_X9_beginAlone : GoodIn wsX9_lapsNeeded wsX9_beginAlone := goodIn_r _ [17, 18, 19, 9, 10, 11, 4, 12, 13, 31, 32, 33, 34, 35, 36, 37, 38, 39, 40, 41, 42, 43, 44, 45] (by decide +kernel) (by decide +kernel)
set_option maxRecDepth 20000 in
theorem gX9_lapsNeeded_X9_beginAlone : GoodIn wsX9_lapsNeeded (wsV RX9 200 RX9 yX9_beginAlone wsX9_beginAlone) := goodIn_app (goodIn_of _ (by decide +kernel)) ggX9_lapsNeeded_X9_beginAlone
set_option maxRecDepth 20000 in
theorem ggX9_lapsNeeded_X9_slotAlone : GoodIn wsX9_lapsNeeded wsX9_slotAlone := goodIn_r _ [23, 18, 13, 24, 25, 4, 26, 9, 10, 11, 12, 31, 32, 33, 34, 35, 36, 37, 38, 39, 40, 41, 42, 43, 44, 45] (by decide +kernel) (by decide +kernel)
set_option maxRecDepth 20000 in
theorem gX9_lapsNeeded_X9_slotAlone : GoodIn wsX9_lapsNeeded (wsV RX9 206 RX9 yX9_slotAlone wsX9_slotAlone) := goodIn_app (goodIn_of _ (by decide +kernel)) ggX9_lapsNeeded_X9_slotAlone
set_option maxRecDepth 20000 in
theorem ggX9_lapsNeeded_X9_goAlone : GoodIn wsX9_lapsNeeded wsX9_goAlone := goodIn_r _ [30, 19, 18, 9, 10, 11, 4, 12, 13, 31, 32, 33, 34, 35, 36, 37, 38, 39, 40, 41, 42, 43, 44, 45] (by decide +kernel) (by decide +kernel)
set_option maxRecDepth 20000 in
theorem gX9_lapsNeeded_X9_goAlone : GoodIn wsX9_lapsNeeded (wsV RX9 203 RX9 yX9_goAlone wsX9_goAlone) := goodIn_app (goodIn_of _ (by decide +kernel)) ggX9_lapsNeeded_X9_goAlone
theorem dX9_lapsNeeded_0 : decode cX9_lapsNeeded 0 = .ok (.aload_n 0, 1) := by decide +kernel
theorem dX9_lapsNeeded_1 : decode cX9_lapsNeeded 1 = .ok (.iload_n 1, 1) := by decide +kernel
theorem dX9_lapsNeeded_2 : decode cX9_lapsNeeded 2 = .ok (.invokevirtual 131, 3) := by decide +kernel
theorem dX9_lapsNeeded_5 : decode cX9_lapsNeeded 5 = .ok (.ifCond .eq 11, 3) := by decide +kernel
theorem dX9_lapsNeeded_8 : decode cX9_lapsNeeded 8 = .ok (.aload_n 0, 1) := by decide +kernel
theorem dX9_lapsNeeded_9 : decode cX9_lapsNeeded 9 = .ok (.iload_n 2, 1) := by decide +kernel
theorem dX9_lapsNeeded_10 : decode cX9_lapsNeeded 10 = .ok (.invokevirtual 131, 3) := by decide +kernel
theorem dX9_lapsNeeded_13 : decode cX9_lapsNeeded 13 = .ok (.ifCond .ne 5, 3) := by decide +kernel
theorem dX9_lapsNeeded_16 : decode cX9_lapsNeeded 16 = .ok (.iconst (-1), 1) := by decide +kernel
theorem dX9_lapsNeeded_17 : decode cX9_lapsNeeded 17 = .ok (.ireturn, 1) := by decide +kernel
theorem dX9_lapsNeeded_18 : decode cX9_lapsNeeded 18 = .ok (.iload_n 1, 1) := by decide +kernel
theorem dX9_lapsNeeded_19 : decode cX9_lapsNeeded 19 = .ok (.bipush 10, 2) := by decide +kernel
theorem dX9_lapsNeeded_21 : decode cX9_lapsNeeded 21 = .ok (.idiv, 1) := by decide +kernel
theorem dX9_lapsNeeded_22 : decode cX9_lapsNeeded 22 = .ok (.istore_n 3, 1) := by decide +kernel
theorem dX9_lapsNeeded_23 : decode cX9_lapsNeeded 23 = .ok (.iload_n 1, 1) := by decide +kernel
theorem dX9_lapsNeeded_24 : decode cX9_lapsNeeded 24 = .ok (.iload_n 2, 1) := by decide +kernel
theorem dX9_lapsNeeded_25 : decode cX9_lapsNeeded 25 = .ok (.if_icmp .eq 11, 3) := by decide +kernel
theorem dX9_lapsNeeded_28 : decode cX9_lapsNeeded 28 = .ok (.iload_n 2, 1) := by decide +kernel
theorem dX9_lapsNeeded_29 : decode cX9_lapsNeeded 29 = .ok (.bipush 10, 2) := by decide +kernel
theorem dX9_lapsNeeded_31 : decode cX9_lapsNeeded 31 = .ok (.idiv, 1) := by decide +kernel
theorem dX9_lapsNeeded_32 : decode cX9_lapsNeeded 32 = .ok (.iload_n 3, 1) := by decide +kernel
theorem dX9_lapsNeeded_33 : decode cX9_lapsNeeded 33 = .ok (.if_icmp .eq 6, 3) := by decide +kernel
theorem dX9_lapsNeeded_36 : decode cX9_lapsNeeded 36 = .ok (.bipush (-2), 2) := by decide +kernel
theorem dX9_lapsNeeded_38 : decode cX9_lapsNeeded 38 = .ok (.ireturn, 1) := by decide +kernel
theorem dX9_lapsNeeded_39 : decode cX9_lapsNeeded 39 = .ok (.aload_n 0, 1) := by decide +kernel
theorem dX9_lapsNeeded_40 : decode cX9_lapsNeeded 40 = .ok (.iload_n 3, 1) := by decide +kernel
theorem dX9_lapsNeeded_41 : decode cX9_lapsNeeded 41 = .ok (.invokevirtual 200, 3) := by decide +kernel
theorem dX9_lapsNeeded_44 : decode cX9_lapsNeeded 44 = .ok (.aload_n 0, 1) := by decide +kernel
theorem dX9_lapsNeeded_45 : decode cX9_lapsNeeded 45 = .ok (.iload_n 1, 1) := by decide +kernel
theorem dX9_lapsNeeded_46 : decode cX9_lapsNeeded 46 = .ok (.invokevirtual 206, 3) := by decide +kernel
theorem dX9_lapsNeeded_49 : decode cX9_lapsNeeded 49 = .ok (.istore 4, 2) := by decide +kernel
theorem dX9_lapsNeeded_51 : decode cX9_lapsNeeded 51 = .ok (.iconst 1, 1) := by decide +kernel
theorem dX9_lapsNeeded_52 : decode cX9_lapsNeeded 52 = .ok (.istore 5, 2) := by decide +kernel
theorem dX9_lapsNeeded_54 : decode cX9_lapsNeeded 54 = .ok (.iconst 0, 1) := by decide +kernel
theorem dX9_lapsNeeded_55 : decode cX9_lapsNeeded 55 = .ok (.istore 6, 2) := by decide +kernel
theorem dX9_lapsNeeded_57 : decode cX9_lapsNeeded 57 = .ok (.iload 6, 2) := by decide +kernel
theorem dX9_lapsNeeded_59 : decode cX9_lapsNeeded 59 = .ok (.sipush 300, 3) := by decide +kernel
theorem dX9_lapsNeeded_62 : decode cX9_lapsNeeded 62 = .ok (.if_icmp .ge 54, 3) := by decide +kernel
theorem dX9_lapsNeeded_65 : decode cX9_lapsNeeded 65 = .ok (.iload 5, 2) := by decide +kernel
theorem dX9_lapsNeeded_67 : decode cX9_lapsNeeded 67 = .ok (.bipush 10, 2) := by decide +kernel
theorem dX9_lapsNeeded_69 : decode cX9_lapsNeeded 69 = .ok (.if_icmp .ge 47, 3) := by decide +kernel
theorem dX9_lapsNeeded_72 : decode cX9_lapsNeeded 72 = .ok (.aload_n 0, 1) := by decide +kernel
theorem dX9_lapsNeeded_73 : decode cX9_lapsNeeded 73 = .ok (.iload_n 3, 1) := by decide +kernel
theorem dX9_lapsNeeded_74 : decode cX9_lapsNeeded 74 = .ok (.invokevirtual 203, 3) := by decide +kernel
theorem dX9_lapsNeeded_77 : decode cX9_lapsNeeded 77 = .ok (.aload_n 0, 1) := by decide +kernel
theorem dX9_lapsNeeded_78 : decode cX9_lapsNeeded 78 = .ok (.iload_n 2, 1) := by decide +kernel
theorem dX9_lapsNeeded_79 : decode cX9_lapsNeeded 79 = .ok (.invokevirtual 206, 3) := by decide +kernel
theorem dX9_lapsNeeded_82 : decode cX9_lapsNeeded 82 = .ok (.iload 4, 2) := by decide +kernel
theorem dX9_lapsNeeded_84 : decode cX9_lapsNeeded 84 = .ok (.if_icmp .ne 6, 3) := by decide +kernel
theorem dX9_lapsNeeded_87 : decode cX9_lapsNeeded 87 = .ok (.iload 5, 2) := by decide +kernel
theorem dX9_lapsNeeded_89 : decode cX9_lapsNeeded 89 = .ok (.ireturn, 1) := by decide +kernel
theorem dX9_lapsNeeded_90 : decode cX9_lapsNeeded 90 = .ok (.iload 5, 2) := by decide +kernel
theorem dX9_lapsNeeded_92 : decode cX9_lapsNeeded 92 = .ok (.aload_n 0, 1) := by decide +kernel
theorem dX9_lapsNeeded_93 : decode cX9_lapsNeeded 93 = .ok (.iload_n 1, 1) := by decide +kernel
theorem dX9_lapsNeeded_94 : decode cX9_lapsNeeded 94 = .ok (.invokevirtual 206, 3) := by decide +kernel
theorem dX9_lapsNeeded_97 : decode cX9_lapsNeeded 97 = .ok (.iload 4, 2) := by decide +kernel
theorem dX9_lapsNeeded_99 : decode cX9_lapsNeeded 99 = .ok (.if_icmp .ne 7, 3) := by decide +kernel
theorem dX9_lapsNeeded_102 : decode cX9_lapsNeeded 102 = .ok (.iconst 1, 1) := by decide +kernel
theorem dX9_lapsNeeded_103 : decode cX9_lapsNeeded 103 = .ok (.goto 4, 3) := by decide +kernel
theorem dX9_lapsNeeded_106 : decode cX9_lapsNeeded 106 = .ok (.iconst 0, 1) := by decide +kernel
theorem dX9_lapsNeeded_107 : decode cX9_lapsNeeded 107 = .ok (.iadd, 1) := by decide +kernel
theorem dX9_lapsNeeded_108 : decode cX9_lapsNeeded 108 = .ok (.istore 5, 2) := by decide +kernel
theorem dX9_lapsNeeded_110 : decode cX9_lapsNeeded 110 = .ok (.iinc 6 1, 3) := by decide +kernel
theorem dX9_lapsNeeded_113 : decode cX9_lapsNeeded 113 = .ok (.goto (-56), 3) := by decide +kernel
theorem dX9_lapsNeeded_116 : decode cX9_lapsNeeded 116 = .ok (.bipush (-5), 2) := by decide +kernel
theorem dX9_lapsNeeded_118 : decode cX9_lapsNeeded 118 = .ok (.ireturn, 1) := by decide +kernel
set_option maxRecDepth 20000 in
theorem ggX9_event_X9_in : GoodIn wsX9_event wsX9_in := goodIn_r _ [5] (by decide +kernel) (by decide +kernel)
set_option maxRecDepth 20000 in
theorem gX9_event_X9_in : GoodIn wsX9_event (va_wsS RX9 33 yX9_in wsX9_in) := goodIn_app (goodIn_of _ (by decide +kernel)) ggX9_event_X9_in
theorem dX9_event_0 : decode cX9_event 0 = .ok (.iload_n 1, 1) := by decide +kernel
theorem dX9_event_1 : decode cX9_event 1 = .ok (.ifCond .lt 12, 3) := by decide +kernel
theorem dX9_event_4 : decode cX9_event 4 = .ok (.iload_n 2, 1) := by decide +kernel
theorem dX9_event_5 : decode cX9_event 5 = .ok (.iconst 0, 1) := by decide +kernel
theorem dX9_event_6 : decode cX9_event 6 = .ok (.iconst 4, 1) := by decide +kernel
theorem dX9_event_7 : decode cX9_event 7 = .ok (.invokestatic 33, 3) := by decide +kernel
theorem dX9_event_10 : decode cX9_event 10 = .ok (.ifCond .ne 6, 3) := by decide +kernel
theorem dX9_event_13 : decode cX9_event 13 = .ok (.bipush (-2), 2) := by decide +kernel
theorem dX9_event_15 : decode cX9_event 15 = .ok (.ireturn, 1) := by decide +kernel
theorem dX9_event_16 : decode cX9_event 16 = .ok (.iload_n 1, 1) := by decide +kernel
theorem dX9_event_17 : decode cX9_event 17 = .ok (.aload_n 0, 1) := by decide +kernel
theorem dX9_event_18 : decode cX9_event 18 = .ok (.getfield 7, 3) := by decide +kernel
theorem dX9_event_21 : decode cX9_event 21 = .ok (.bipush 9, 2) := by decide +kernel
theorem dX9_event_23 : decode cX9_event 23 = .ok (.iaload, 1) := by decide +kernel
theorem dX9_event_24 : decode cX9_event 24 = .ok (.if_icmp .ge 20, 3) := by decide +kernel
theorem dX9_event_27 : decode cX9_event 27 = .ok (.aload_n 0, 1) := by decide +kernel
theorem dX9_event_28 : decode cX9_event 28 = .ok (.getfield 7, 3) := by decide +kernel
theorem dX9_event_31 : decode cX9_event 31 = .ok (.sipush 234, 3) := by decide +kernel
theorem dX9_event_34 : decode cX9_event 34 = .ok (.iconst 5, 1) := by decide +kernel
theorem dX9_event_35 : decode cX9_event 35 = .ok (.iload_n 1, 1) := by decide +kernel
theorem dX9_event_36 : decode cX9_event 36 = .ok (.imul, 1) := by decide +kernel
theorem dX9_event_37 : decode cX9_event 37 = .ok (.iadd, 1) := by decide +kernel
theorem dX9_event_38 : decode cX9_event 38 = .ok (.iload_n 2, 1) := by decide +kernel
theorem dX9_event_39 : decode cX9_event 39 = .ok (.iadd, 1) := by decide +kernel
theorem dX9_event_40 : decode cX9_event 40 = .ok (.iaload, 1) := by decide +kernel
theorem dX9_event_41 : decode cX9_event 41 = .ok (.goto 5, 3) := by decide +kernel
theorem dX9_event_44 : decode cX9_event 44 = .ok (.bipush (-5), 2) := by decide +kernel
theorem dX9_event_46 : decode cX9_event 46 = .ok (.ireturn, 1) := by decide +kernel
set_option maxRecDepth 20000 in
theorem ggX9_count_X9_in : GoodIn wsX9_count wsX9_in := goodIn_r _ [7] (by decide +kernel) (by decide +kernel)
set_option maxRecDepth 20000 in
theorem gX9_count_X9_in : GoodIn wsX9_count (va_wsS RX9 33 yX9_in wsX9_in) := goodIn_app (goodIn_of _ (by decide +kernel)) ggX9_count_X9_in
set_option maxRecDepth 20000 in
theorem ggX9_count_X9_inState : GoodIn wsX9_count wsX9_inState := goodIn_r _ [11, 1, 12, 13, 14, 6, 15, 16, 17, 18, 19, 20, 21, 22, 23, 24, 25, 26, 27, 28, 29, 30] (by decide +kernel) (by decide +kernel)
set_option maxRecDepth 20000 in
theorem gX9_count_X9_inState : GoodIn wsX9_count (wsV RX9 209 RX9 yX9_inState wsX9_inState) := goodIn_app (goodIn_of _ (by decide +kernel)) ggX9_count_X9_inState
theorem dX9_count_0 : decode cX9_count 0 = .ok (.iload_n 1, 1) := by decide +kernel
theorem dX9_count_1 : decode cX9_count 1 = .ok (.iconst 2, 1) := by decide +kernel
theorem dX9_count_2 : decode cX9_count 2 = .ok (.bipush 10, 2) := by decide +kernel
theorem dX9_count_4 : decode cX9_count 4 = .ok (.invokestatic 33, 3) := by decide +kernel
theorem dX9_count_7 : decode cX9_count 7 = .ok (.ifCond .eq 11, 3) := by decide +kernel
theorem dX9_count_10 : decode cX9_count 10 = .ok (.aload_n 0, 1) := by decide +kernel
theorem dX9_count_11 : decode cX9_count 11 = .ok (.iload_n 1, 1) := by decide +kernel
theorem dX9_count_12 : decode cX9_count 12 = .ok (.iconst 2, 1) := by decide +kernel
theorem dX9_count_13 : decode cX9_count 13 = .ok (.isub, 1) := by decide +kernel
theorem dX9_count_14 : decode cX9_count 14 = .ok (.invokevirtual 209, 3) := by decide +kernel
theorem dX9_count_17 : decode cX9_count 17 = .ok (.ireturn, 1) := by decide +kernel
theorem dX9_count_18 : decode cX9_count 18 = .ok (.iload_n 1, 1) := by decide +kernel
theorem dX9_count_19 : decode cX9_count 19 = .ok (.tableswitch 194 0 20 #[97, 104, 194, 194, 194, 194, 194, 194, 194, 194, 194, 111, 118, 125, 132, 153, 161, 169, 176, 184, 189], 97) := by decide +kernel
theorem dX9_count_116 : decode cX9_count 116 = .ok (.aload_n 0, 1) := by decide +kernel
theorem dX9_count_117 : decode cX9_count 117 = .ok (.getfield 7, 3) := by decide +kernel
theorem dX9_count_120 : decode cX9_count 120 = .ok (.iconst 0, 1) := by decide +kernel
theorem dX9_count_121 : decode cX9_count 121 = .ok (.iaload, 1) := by decide +kernel
theorem dX9_count_122 : decode cX9_count 122 = .ok (.ireturn, 1) := by decide +kernel
theorem dX9_count_123 : decode cX9_count 123 = .ok (.aload_n 0, 1) := by decide +kernel
theorem dX9_count_124 : decode cX9_count 124 = .ok (.getfield 7, 3) := by decide +kernel
theorem dX9_count_127 : decode cX9_count 127 = .ok (.iconst 1, 1) := by decide +kernel
theorem dX9_count_128 : decode cX9_count 128 = .ok (.iaload, 1) := by decide +kernel
theorem dX9_count_129 : decode cX9_count 129 = .ok (.ireturn, 1) := by decide +kernel
theorem dX9_count_130 : decode cX9_count 130 = .ok (.aload_n 0, 1) := by decide +kernel
theorem dX9_count_131 : decode cX9_count 131 = .ok (.getfield 7, 3) := by decide +kernel
theorem dX9_count_134 : decode cX9_count 134 = .ok (.iconst 3, 1) := by decide +kernel
theorem dX9_count_135 : decode cX9_count 135 = .ok (.iaload, 1) := by decide +kernel
theorem dX9_count_136 : decode cX9_count 136 = .ok (.ireturn, 1) := by decide +kernel
theorem dX9_count_137 : decode cX9_count 137 = .ok (.aload_n 0, 1) := by decide +kernel
theorem dX9_count_138 : decode cX9_count 138 = .ok (.getfield 7, 3) := by decide +kernel
theorem dX9_count_141 : decode cX9_count 141 = .ok (.iconst 4, 1) := by decide +kernel
theorem dX9_count_142 : decode cX9_count 142 = .ok (.iaload, 1) := by decide +kernel
theorem dX9_count_143 : decode cX9_count 143 = .ok (.ireturn, 1) := by decide +kernel
theorem dX9_count_144 : decode cX9_count 144 = .ok (.aload_n 0, 1) := by decide +kernel
theorem dX9_count_145 : decode cX9_count 145 = .ok (.getfield 7, 3) := by decide +kernel
theorem dX9_count_148 : decode cX9_count 148 = .ok (.iconst 5, 1) := by decide +kernel
theorem dX9_count_149 : decode cX9_count 149 = .ok (.iaload, 1) := by decide +kernel
theorem dX9_count_150 : decode cX9_count 150 = .ok (.ireturn, 1) := by decide +kernel
theorem dX9_count_151 : decode cX9_count 151 = .ok (.aload_n 0, 1) := by decide +kernel
theorem dX9_count_152 : decode cX9_count 152 = .ok (.getfield 7, 3) := by decide +kernel
theorem dX9_count_155 : decode cX9_count 155 = .ok (.iconst 3, 1) := by decide +kernel
theorem dX9_count_156 : decode cX9_count 156 = .ok (.iaload, 1) := by decide +kernel
theorem dX9_count_157 : decode cX9_count 157 = .ok (.aload_n 0, 1) := by decide +kernel
theorem dX9_count_158 : decode cX9_count 158 = .ok (.getfield 7, 3) := by decide +kernel
theorem dX9_count_161 : decode cX9_count 161 = .ok (.iconst 4, 1) := by decide +kernel
theorem dX9_count_162 : decode cX9_count 162 = .ok (.iaload, 1) := by decide +kernel
theorem dX9_count_163 : decode cX9_count 163 = .ok (.isub, 1) := by decide +kernel
theorem dX9_count_164 : decode cX9_count 164 = .ok (.aload_n 0, 1) := by decide +kernel
theorem dX9_count_165 : decode cX9_count 165 = .ok (.getfield 7, 3) := by decide +kernel
theorem dX9_count_168 : decode cX9_count 168 = .ok (.iconst 5, 1) := by decide +kernel
theorem dX9_count_169 : decode cX9_count 169 = .ok (.iaload, 1) := by decide +kernel
theorem dX9_count_170 : decode cX9_count 170 = .ok (.isub, 1) := by decide +kernel
theorem dX9_count_171 : decode cX9_count 171 = .ok (.ireturn, 1) := by decide +kernel
theorem dX9_count_172 : decode cX9_count 172 = .ok (.aload_n 0, 1) := by decide +kernel
theorem dX9_count_173 : decode cX9_count 173 = .ok (.getfield 7, 3) := by decide +kernel
theorem dX9_count_176 : decode cX9_count 176 = .ok (.bipush 6, 2) := by decide +kernel
theorem dX9_count_178 : decode cX9_count 178 = .ok (.iaload, 1) := by decide +kernel
theorem dX9_count_179 : decode cX9_count 179 = .ok (.ireturn, 1) := by decide +kernel
theorem dX9_count_180 : decode cX9_count 180 = .ok (.aload_n 0, 1) := by decide +kernel
theorem dX9_count_181 : decode cX9_count 181 = .ok (.getfield 7, 3) := by decide +kernel
theorem dX9_count_184 : decode cX9_count 184 = .ok (.bipush 7, 2) := by decide +kernel
theorem dX9_count_186 : decode cX9_count 186 = .ok (.iaload, 1) := by decide +kernel
theorem dX9_count_187 : decode cX9_count 187 = .ok (.ireturn, 1) := by decide +kernel
theorem dX9_count_188 : decode cX9_count 188 = .ok (.aload_n 0, 1) := by decide +kernel
theorem dX9_count_189 : decode cX9_count 189 = .ok (.getfield 7, 3) := by decide +kernel
theorem dX9_count_192 : decode cX9_count 192 = .ok (.iconst 2, 1) := by decide +kernel
theorem dX9_count_193 : decode cX9_count 193 = .ok (.iaload, 1) := by decide +kernel
theorem dX9_count_194 : decode cX9_count 194 = .ok (.ireturn, 1) := by decide +kernel
theorem dX9_count_195 : decode cX9_count 195 = .ok (.aload_n 0, 1) := by decide +kernel
theorem dX9_count_196 : decode cX9_count 196 = .ok (.getfield 7, 3) := by decide +kernel
theorem dX9_count_199 : decode cX9_count 199 = .ok (.bipush 8, 2) := by decide +kernel
theorem dX9_count_201 : decode cX9_count 201 = .ok (.iaload, 1) := by decide +kernel
theorem dX9_count_202 : decode cX9_count 202 = .ok (.ireturn, 1) := by decide +kernel
theorem dX9_count_203 : decode cX9_count 203 = .ok (.aload_n 0, 1) := by decide +kernel
theorem dX9_count_204 : decode cX9_count 204 = .ok (.getfield 29, 3) := by decide +kernel
theorem dX9_count_207 : decode cX9_count 207 = .ok (.ireturn, 1) := by decide +kernel
theorem dX9_count_208 : decode cX9_count 208 = .ok (.aload_n 0, 1) := by decide +kernel
theorem dX9_count_209 : decode cX9_count 209 = .ok (.getfield 149, 3) := by decide +kernel
theorem dX9_count_212 : decode cX9_count 212 = .ok (.ireturn, 1) := by decide +kernel
theorem dX9_count_213 : decode cX9_count 213 = .ok (.bipush (-2), 2) := by decide +kernel
theorem dX9_count_215 : decode cX9_count 215 = .ok (.ireturn, 1) := by decide +kernel
