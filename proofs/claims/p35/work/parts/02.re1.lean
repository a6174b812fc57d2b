set_option maxRecDepth 20000 in
theorem ggX8_tick_X8_within : GoodIn wsX8_tick wsX8_within := goodIn_r _ [5] (by decide +kernel) (by decide +kernel)
set_option maxRecDepth 20000 in
theorem gX8_tick_X8_within : GoodIn wsX8_tick (va_wsS RX8 46 yX8_within wsX8_within) := goodIn_app (goodIn_of _ (by decide +kernel)) ggX8_tick_X8_within
set_option maxRecDepth 20000 in
theorem ggX8_tick_X8_recordState : GoodIn wsX8_tick wsX8_recordState := goodIn_r _ [9, 10, 11, 1, 12, 13, 14, 4, 15, 2, 3, 5, 16, 17, 18, 19, 20, 21, 22, 23, 24, 25, 26, 27, 28, 29, 30, 31, 32, 33, 34, 35, 36, 37, 38, 39, 40, 41, 42, 43, 44, 45, 46, 47, 48, 49, 50, 51, 52, 53, 54, 55, 56, 57, 58, 59, 60, 61, 62, 63, 64, 65, 66, 67, 68, 69, 70, 71, 72, 73, 74, 75, 76, 77, 78, 79, 80, 81, 82, 83, 84, 85, 86, 87, 88, 89, 90, 91, 92, 93, 94, 95, 96, 97, 98, 99, 100, 101, 102, 103, 104, 105, 106, 107, 108, 109, 110, 111, 112, 113, 114, 299, 300, 301, 302, 303, 304, 305, 306, 307, 308, 309, 310, 311, 312, 313, 314, 315, 316, 317, 318, 319, 320, 321, 322, 323, 324, 325, 326, 327, 328, 329, 330, 331, 332, 333, 334, 335, 336, 337, 338, 339, 340, 341, 342, 343, 344, 345, 346, 347, 348, 349, 350, 351, 352, 353, 354, 355, 356, 357, 358, 359, 360, 361, 362, 363, 364, 365, 366, 367, 368] (by decide +kernel) (by decide +kernel)
set_option maxRecDepth 20000 in
theorem gX8_tick_X8_recordState : GoodIn wsX8_tick (wsV RX8 65 RX8 yX8_recordState wsX8_recordState) := goodIn_app (goodIn_of _ (by decide +kernel)) ggX8_tick_X8_recordState
set_option maxRecDepth 20000 in
theorem ggX8_tick_X3_countIn : GoodIn wsX8_tick wsX3_countIn := goodIn_r _ [118, 26, 23, 119, 307, 308, 309, 310, 311, 312, 313, 314, 315, 316, 317, 318, 319, 320, 341, 342, 343, 344, 345, 346, 347, 348, 349, 350, 351, 352, 353, 354] (by decide +kernel) (by decide +kernel)
set_option maxRecDepth 20000 in
theorem gX8_tick_X3_countIn : GoodIn wsX8_tick (wsV RX8 181 RX3 yX3_countIn wsX3_countIn) := goodIn_app (goodIn_of _ (by decide +kernel)) ggX8_tick_X3_countIn
set_option maxRecDepth 20000 in
theorem ggX8_tick_X3_passTick : GoodIn wsX8_tick wsX3_passTick := goodIn_r _ [123, 21, 22, 28, 124, 125, 126, 19, 127, 27, 24, 128, 129, 130, 97, 131, 104, 100, 101, 132, 133, 134, 135, 136, 137, 138, 139, 140, 141, 142, 26, 143, 144, 145, 146, 23, 147, 148, 31, 3, 4, 5, 149, 150, 151, 152, 29, 153, 154, 155, 69, 156, 71, 157, 72, 73, 74, 75, 76, 77, 78, 79, 80, 81, 82, 83, 84, 85, 86, 87, 88, 89, 90, 91, 92, 93, 158, 159, 160, 161, 162, 163, 164, 165, 166, 167, 168, 169, 170, 171, 172, 173, 174, 38, 175, 48, 176, 177, 178, 179, 47, 180, 181, 182, 183, 40, 184, 185, 186, 187, 188, 189, 190, 191, 192, 193, 194, 195, 196, 25, 197, 198, 199, 200, 201, 202, 203, 204, 34, 32, 205, 206, 207, 208, 109, 209, 114, 111, 113, 210, 211, 212, 213, 214, 215, 216, 56, 217, 60, 218, 219, 220, 221, 58, 222, 223, 224, 225, 226, 227, 228, 229, 33, 230, 231, 232, 233, 234, 235, 236, 237, 238, 239, 240, 241, 242, 243, 244, 245, 246, 119, 247, 248, 249, 250, 251, 252, 253, 254, 255, 256, 257, 258, 259, 260, 261, 262, 263, 264, 265, 266, 267, 268, 269, 270, 271, 272, 273, 274, 275, 276, 277, 278, 279, 30, 280, 281, 282, 283, 284, 285, 286, 287, 288, 289, 290, 291, 292, 293, 294, 295, 296, 297, 298, 49, 50, 51, 52, 307, 308, 309, 310, 311, 312, 313, 314, 315, 316, 317, 318, 319, 320, 360, 361, 362, 363, 364, 365, 355, 356, 357, 358, 359, 341, 342, 343, 344, 345, 346, 347, 348, 349, 350, 351, 352, 353, 354, 321, 322, 323, 324, 325, 326, 327, 328, 329, 330, 331, 332, 333, 334, 335, 336, 337, 338, 339, 340, 366, 367, 368] (by decide +kernel) (by decide +kernel)
set_option maxRecDepth 20000 in
theorem gX8_tick_X3_passTick : GoodIn wsX8_tick (wsV RX8 184 RX3 yX3_passTick wsX3_passTick) := goodIn_app (goodIn_of _ (by decide +kernel)) ggX8_tick_X3_passTick
theorem dX8_tick_0 : decode cX8_tick 0 = .ok (.iload_n 1, 1) := by decide +kernel
theorem dX8_tick_1 : decode cX8_tick 1 = .ok (.iconst 1, 1) := by decide +kernel
theorem dX8_tick_2 : decode cX8_tick 2 = .ok (.bipush 60, 2) := by decide +kernel
theorem dX8_tick_4 : decode cX8_tick 4 = .ok (.invokestatic 46, 3) := by decide +kernel
theorem dX8_tick_7 : decode cX8_tick 7 = .ok (.ifCond .ne 6, 3) := by decide +kernel
theorem dX8_tick_10 : decode cX8_tick 10 = .ok (.bipush (-2), 2) := by decide +kernel
theorem dX8_tick_12 : decode cX8_tick 12 = .ok (.ireturn, 1) := by decide +kernel
theorem dX8_tick_13 : decode cX8_tick 13 = .ok (.aload_n 0, 1) := by decide +kernel
theorem dX8_tick_14 : decode cX8_tick 14 = .ok (.invokevirtual 65, 3) := by decide +kernel
theorem dX8_tick_17 : decode cX8_tick 17 = .ok (.aload_n 0, 1) := by decide +kernel
theorem dX8_tick_18 : decode cX8_tick 18 = .ok (.getfield 10, 3) := by decide +kernel
theorem dX8_tick_21 : decode cX8_tick 21 = .ok (.iconst 3, 1) := by decide +kernel
theorem dX8_tick_22 : decode cX8_tick 22 = .ok (.invokevirtual 181, 3) := by decide +kernel
theorem dX8_tick_25 : decode cX8_tick 25 = .ok (.istore_n 2, 1) := by decide +kernel
theorem dX8_tick_26 : decode cX8_tick 26 = .ok (.iconst 0, 1) := by decide +kernel
theorem dX8_tick_27 : decode cX8_tick 27 = .ok (.istore_n 3, 1) := by decide +kernel
theorem dX8_tick_28 : decode cX8_tick 28 = .ok (.iload_n 3, 1) := by decide +kernel
theorem dX8_tick_29 : decode cX8_tick 29 = .ok (.iload_n 1, 1) := by decide +kernel
theorem dX8_tick_30 : decode cX8_tick 30 = .ok (.if_icmp .ge 16, 3) := by decide +kernel
theorem dX8_tick_33 : decode cX8_tick 33 = .ok (.aload_n 0, 1) := by decide +kernel
theorem dX8_tick_34 : decode cX8_tick 34 = .ok (.getfield 10, 3) := by decide +kernel
theorem dX8_tick_37 : decode cX8_tick 37 = .ok (.invokevirtual 184, 3) := by decide +kernel
theorem dX8_tick_40 : decode cX8_tick 40 = .ok (.iinc 3 1, 3) := by decide +kernel
theorem dX8_tick_43 : decode cX8_tick 43 = .ok (.goto (-15), 3) := by decide +kernel
theorem dX8_tick_46 : decode cX8_tick 46 = .ok (.aload_n 0, 1) := by decide +kernel
theorem dX8_tick_47 : decode cX8_tick 47 = .ok (.getfield 10, 3) := by decide +kernel
theorem dX8_tick_50 : decode cX8_tick 50 = .ok (.iconst 3, 1) := by decide +kernel
theorem dX8_tick_51 : decode cX8_tick 51 = .ok (.invokevirtual 181, 3) := by decide +kernel
theorem dX8_tick_54 : decode cX8_tick 54 = .ok (.iload_n 2, 1) := by decide +kernel
theorem dX8_tick_55 : decode cX8_tick 55 = .ok (.isub, 1) := by decide +kernel
theorem dX8_tick_56 : decode cX8_tick 56 = .ok (.ireturn, 1) := by decide +kernel
set_option maxRecDepth 20000 in
theorem ggX8_type_X6_append : GoodIn wsX8_type wsX6_append := goodIn_r _ [6, 7, 8, 9, 10, 11, 20, 21, 22, 23, 24] (by decide +kernel) (by decide +kernel)
set_option maxRecDepth 20000 in
theorem gX8_type_X6_append : GoodIn wsX8_type (wsV RX8 187 RX6 yX6_append wsX6_append) := goodIn_app (goodIn_of _ (by decide +kernel)) ggX8_type_X6_append
theorem dX8_type_0 : decode cX8_type 0 = .ok (.aload_n 0, 1) := by decide +kernel
theorem dX8_type_1 : decode cX8_type 1 = .ok (.getfield 29, 3) := by decide +kernel
theorem dX8_type_4 : decode cX8_type 4 = .ok (.iload_n 1, 1) := by decide +kernel
theorem dX8_type_5 : decode cX8_type 5 = .ok (.invokevirtual 187, 3) := by decide +kernel
theorem dX8_type_8 : decode cX8_type 8 = .ok (.ireturn, 1) := by decide +kernel
theorem dX8_clearText_0 : decode cX8_clearText 0 = .ok (.aload_n 0, 1) := by decide +kernel
theorem dX8_clearText_1 : decode cX8_clearText 1 = .ok (.getfield 29, 3) := by decide +kernel
theorem dX8_clearText_4 : decode cX8_clearText 4 = .ok (.getfield 191, 3) := by decide +kernel
theorem dX8_clearText_7 : decode cX8_clearText 7 = .ok (.istore_n 1, 1) := by decide +kernel
theorem dX8_clearText_8 : decode cX8_clearText 8 = .ok (.aload_n 0, 1) := by decide +kernel
theorem dX8_clearText_9 : decode cX8_clearText 9 = .ok (.getfield 29, 3) := by decide +kernel
theorem dX8_clearText_12 : decode cX8_clearText 12 = .ok (.iconst 0, 1) := by decide +kernel
theorem dX8_clearText_13 : decode cX8_clearText 13 = .ok (.putfield 191, 3) := by decide +kernel
theorem dX8_clearText_16 : decode cX8_clearText 16 = .ok (.iload_n 1, 1) := by decide +kernel
theorem dX8_clearText_17 : decode cX8_clearText 17 = .ok (.ireturn, 1) := by decide +kernel
set_option maxRecDepth 20000 in
theorem ggX8_readTickets_X6_findFault : GoodIn wsX8_readTickets wsX6_findFault := goodIn_r _ [10, 11, 12, 13, 14, 15, 16, 17, 9, 18, 19, 20, 21, 22, 23, 24, 25, 26, 27, 28, 29, 30, 31, 32, 33, 34, 35, 36, 37, 38, 39, 40, 41, 42, 43, 44, 45, 46, 47, 212, 213, 214, 215, 216, 231, 232, 233, 234, 235] (by decide +kernel) (by decide +kernel)
set_option maxRecDepth 20000 in
theorem gX8_readTickets_X6_findFault : GoodIn wsX8_readTickets (wsV RX8 194 RX6 yX6_findFault wsX6_findFault) := goodIn_app (goodIn_of _ (by decide +kernel)) ggX8_readTickets_X6_findFault
set_option maxRecDepth 20000 in
theorem ggX8_readTickets_X8_firstRefusal : GoodIn wsX8_readTickets wsX8_firstRefusal := goodIn_r _ [51, 1, 3, 5, 2, 52, 53, 54, 55, 56, 57, 58, 59, 60, 61, 62, 37, 38, 39, 63, 64, 65, 66, 67, 68, 69, 70, 71, 72, 73, 74, 75, 76, 77, 78, 79, 80, 81, 82, 83, 84, 85, 86, 204, 205, 206, 207, 208, 209, 210, 211, 212, 213, 214, 215, 216, 231, 232, 233, 234, 235, 217, 218, 219, 220, 221, 222, 223, 224, 225, 226, 227, 228, 229, 230, 236, 237, 238, 239, 240, 241, 242, 243, 244, 245] (by decide +kernel) (by decide +kernel)
set_option maxRecDepth 20000 in
theorem gX8_readTickets_X8_firstRefusal : GoodIn wsX8_readTickets (wsV RX8 197 RX8 yX8_firstRefusal wsX8_firstRefusal) := goodIn_app (goodIn_of _ (by decide +kernel)) ggX8_readTickets_X8_firstRefusal
set_option maxRecDepth 20000 in
theorem ggX8_readTickets_X3_hasTickets : GoodIn wsX8_readTickets wsX3_hasTickets := goodIn_r _ [90, 91, 217, 218, 219, 220, 221, 222, 223, 224, 225, 226, 227, 228, 229, 230] (by decide +kernel) (by decide +kernel)
set_option maxRecDepth 20000 in
theorem gX8_readTickets_X3_hasTickets : GoodIn wsX8_readTickets (wsV RX8 119 RX3 yX3_hasTickets wsX3_hasTickets) := goodIn_app (goodIn_of _ (by decide +kernel)) ggX8_readTickets_X3_hasTickets
set_option maxRecDepth 20000 in
theorem ggX8_readTickets_X8_recordState : GoodIn wsX8_readTickets wsX8_recordState := goodIn_r _ [95, 96, 97, 2, 98, 99, 100, 38, 101, 102, 37, 39, 103, 104, 105, 55, 106, 67, 68, 107, 108, 109, 91, 110, 111, 112, 113, 114, 115, 116, 117, 118, 119, 120, 72, 121, 122, 123, 124, 125, 126, 75, 74, 127, 128, 129, 130, 131, 132, 133, 134, 135, 136, 137, 138, 139, 140, 141, 142, 143, 144, 145, 146, 147, 148, 149, 150, 151, 152, 153, 154, 155, 156, 157, 158, 159, 160, 161, 162, 163, 164, 165, 166, 79, 167, 81, 83, 85, 86, 84, 168, 169, 170, 171, 172, 173, 174, 175, 176, 177, 178, 179, 180, 181, 182, 183, 184, 185, 186, 187, 188, 204, 205, 206, 207, 208, 209, 210, 211, 217, 218, 219, 220, 221, 222, 223, 224, 225, 226, 227, 228, 229, 230, 236, 237, 238, 239, 240, 241, 242, 243, 244, 245, 246, 247, 248, 249, 250, 251, 252, 253, 254, 255, 256, 257, 258, 259, 260, 261, 262, 263, 264, 265, 266, 267, 268, 269, 231, 232, 233, 234, 235, 270, 271, 272, 273, 274, 275, 276, 277, 278] (by decide +kernel) (by decide +kernel)
set_option maxRecDepth 20000 in
theorem gX8_readTickets_X8_recordState : GoodIn wsX8_readTickets (wsV RX8 65 RX8 yX8_recordState wsX8_recordState) := goodIn_app (goodIn_of _ (by decide +kernel)) ggX8_readTickets_X8_recordState
set_option maxRecDepth 20000 in
theorem ggX8_readTickets_X3_admit : GoodIn wsX8_readTickets wsX3_admit := goodIn_r _ [192, 91, 107, 193, 194, 111, 114, 37, 38, 39, 195, 196, 197, 55, 198, 112, 199, 200, 201, 149, 202, 151, 203, 152, 153, 154, 155, 156, 157, 158, 159, 160, 161, 162, 163, 164, 165, 166, 79, 167, 81, 83, 85, 86, 84, 217, 218, 219, 220, 221, 222, 223, 224, 225, 226, 227, 228, 229, 230, 231, 232, 233, 234, 235, 256, 257, 258, 259, 260, 261, 262, 263, 264, 265, 266, 267, 268, 269] (by decide +kernel) (by decide +kernel)
set_option maxRecDepth 20000 in
theorem gX8_readTickets_X3_admit : GoodIn wsX8_readTickets (wsV RX8 122 RX3 yX3_admit wsX3_admit) := goodIn_app (goodIn_of _ (by decide +kernel)) ggX8_readTickets_X3_admit
theorem dX8_readTickets_0 : decode cX8_readTickets 0 = .ok (.aload_n 0, 1) := by decide +kernel
theorem dX8_readTickets_1 : decode cX8_readTickets 1 = .ok (.getfield 29, 3) := by decide +kernel
theorem dX8_readTickets_4 : decode cX8_readTickets 4 = .ok (.invokevirtual 194, 3) := by decide +kernel
theorem dX8_readTickets_7 : decode cX8_readTickets 7 = .ok (.istore_n 1, 1) := by decide +kernel
theorem dX8_readTickets_8 : decode cX8_readTickets 8 = .ok (.iload_n 1, 1) := by decide +kernel
theorem dX8_readTickets_9 : decode cX8_readTickets 9 = .ok (.ifCond .lt 8, 3) := by decide +kernel
theorem dX8_readTickets_12 : decode cX8_readTickets 12 = .ok (.bipush (-100), 2) := by decide +kernel
theorem dX8_readTickets_14 : decode cX8_readTickets 14 = .ok (.iload_n 1, 1) := by decide +kernel
theorem dX8_readTickets_15 : decode cX8_readTickets 15 = .ok (.isub, 1) := by decide +kernel
theorem dX8_readTickets_16 : decode cX8_readTickets 16 = .ok (.ireturn, 1) := by decide +kernel
theorem dX8_readTickets_17 : decode cX8_readTickets 17 = .ok (.aload_n 0, 1) := by decide +kernel
theorem dX8_readTickets_18 : decode cX8_readTickets 18 = .ok (.invokevirtual 197, 3) := by decide +kernel
theorem dX8_readTickets_21 : decode cX8_readTickets 21 = .ok (.istore_n 2, 1) := by decide +kernel
theorem dX8_readTickets_22 : decode cX8_readTickets 22 = .ok (.iload_n 2, 1) := by decide +kernel
theorem dX8_readTickets_23 : decode cX8_readTickets 23 = .ok (.ifCond .eq 5, 3) := by decide +kernel
theorem dX8_readTickets_26 : decode cX8_readTickets 26 = .ok (.iload_n 2, 1) := by decide +kernel
theorem dX8_readTickets_27 : decode cX8_readTickets 27 = .ok (.ireturn, 1) := by decide +kernel
theorem dX8_readTickets_28 : decode cX8_readTickets 28 = .ok (.aload_n 0, 1) := by decide +kernel
theorem dX8_readTickets_29 : decode cX8_readTickets 29 = .ok (.getfield 10, 3) := by decide +kernel
theorem dX8_readTickets_32 : decode cX8_readTickets 32 = .ok (.aload_n 0, 1) := by decide +kernel
theorem dX8_readTickets_33 : decode cX8_readTickets 33 = .ok (.getfield 29, 3) := by decide +kernel
theorem dX8_readTickets_36 : decode cX8_readTickets 36 = .ok (.getfield 200, 3) := by decide +kernel
theorem dX8_readTickets_39 : decode cX8_readTickets 39 = .ok (.invokevirtual 119, 3) := by decide +kernel
theorem dX8_readTickets_42 : decode cX8_readTickets 42 = .ok (.ifCond .ne 6, 3) := by decide +kernel
theorem dX8_readTickets_45 : decode cX8_readTickets 45 = .ok (.bipush (-3), 2) := by decide +kernel
theorem dX8_readTickets_47 : decode cX8_readTickets 47 = .ok (.ireturn, 1) := by decide +kernel
theorem dX8_readTickets_48 : decode cX8_readTickets 48 = .ok (.aload_n 0, 1) := by decide +kernel
theorem dX8_readTickets_49 : decode cX8_readTickets 49 = .ok (.invokevirtual 65, 3) := by decide +kernel
theorem dX8_readTickets_52 : decode cX8_readTickets 52 = .ok (.aload_n 0, 1) := by decide +kernel
theorem dX8_readTickets_53 : decode cX8_readTickets 53 = .ok (.getfield 10, 3) := by decide +kernel
theorem dX8_readTickets_56 : decode cX8_readTickets 56 = .ok (.getfield 203, 3) := by decide +kernel
theorem dX8_readTickets_59 : decode cX8_readTickets 59 = .ok (.istore_n 3, 1) := by decide +kernel
theorem dX8_readTickets_60 : decode cX8_readTickets 60 = .ok (.iconst 0, 1) := by decide +kernel
theorem dX8_readTickets_61 : decode cX8_readTickets 61 = .ok (.istore 4, 2) := by decide +kernel
theorem dX8_readTickets_63 : decode cX8_readTickets 63 = .ok (.iload 4, 2) := by decide +kernel
theorem dX8_readTickets_65 : decode cX8_readTickets 65 = .ok (.aload_n 0, 1) := by decide +kernel
theorem dX8_readTickets_66 : decode cX8_readTickets 66 = .ok (.getfield 29, 3) := by decide +kernel
theorem dX8_readTickets_69 : decode cX8_readTickets 69 = .ok (.getfield 200, 3) := by decide +kernel
theorem dX8_readTickets_72 : decode cX8_readTickets 72 = .ok (.if_icmp .ge 40, 3) := by decide +kernel
theorem dX8_readTickets_75 : decode cX8_readTickets 75 = .ok (.iload 4, 2) := by decide +kernel
theorem dX8_readTickets_77 : decode cX8_readTickets 77 = .ok (.aload_n 0, 1) := by decide +kernel
theorem dX8_readTickets_78 : decode cX8_readTickets 78 = .ok (.getfield 29, 3) := by decide +kernel
theorem dX8_readTickets_81 : decode cX8_readTickets 81 = .ok (.getfield 206, 3) := by decide +kernel
theorem dX8_readTickets_84 : decode cX8_readTickets 84 = .ok (.arraylength, 1) := by decide +kernel
theorem dX8_readTickets_85 : decode cX8_readTickets 85 = .ok (.if_icmp .ge 27, 3) := by decide +kernel
theorem dX8_readTickets_88 : decode cX8_readTickets 88 = .ok (.aload_n 0, 1) := by decide +kernel
theorem dX8_readTickets_89 : decode cX8_readTickets 89 = .ok (.getfield 10, 3) := by decide +kernel
theorem dX8_readTickets_92 : decode cX8_readTickets 92 = .ok (.aload_n 0, 1) := by decide +kernel
theorem dX8_readTickets_93 : decode cX8_readTickets 93 = .ok (.getfield 29, 3) := by decide +kernel
theorem dX8_readTickets_96 : decode cX8_readTickets 96 = .ok (.getfield 206, 3) := by decide +kernel
theorem dX8_readTickets_99 : decode cX8_readTickets 99 = .ok (.iload 4, 2) := by decide +kernel
theorem dX8_readTickets_101 : decode cX8_readTickets 101 = .ok (.aaload, 1) := by decide +kernel
theorem dX8_readTickets_102 : decode cX8_readTickets 102 = .ok (.invokevirtual 122, 3) := by decide +kernel
theorem dX8_readTickets_105 : decode cX8_readTickets 105 = .ok (.pop, 1) := by decide +kernel
theorem dX8_readTickets_106 : decode cX8_readTickets 106 = .ok (.iinc 4 1, 3) := by decide +kernel
theorem dX8_readTickets_109 : decode cX8_readTickets 109 = .ok (.goto (-46), 3) := by decide +kernel
theorem dX8_readTickets_112 : decode cX8_readTickets 112 = .ok (.aload_n 0, 1) := by decide +kernel
theorem dX8_readTickets_113 : decode cX8_readTickets 113 = .ok (.getfield 10, 3) := by decide +kernel
theorem dX8_readTickets_116 : decode cX8_readTickets 116 = .ok (.getfield 203, 3) := by decide +kernel
theorem dX8_readTickets_119 : decode cX8_readTickets 119 = .ok (.iload_n 3, 1) := by decide +kernel
theorem dX8_readTickets_120 : decode cX8_readTickets 120 = .ok (.isub, 1) := by decide +kernel
theorem dX8_readTickets_121 : decode cX8_readTickets 121 = .ok (.ireturn, 1) := by decide +kernel
set_option maxRecDepth 20000 in
theorem ggX8_firstRefusal_X3_refusalOf : GoodIn wsX8_firstRefusal wsX3_refusalOf := goodIn_r _ [9, 10, 11, 12, 13, 14, 8, 15, 16, 17, 18, 19, 20, 21, 22, 23, 24, 25, 26, 27, 28, 29, 30, 31, 32, 33, 34, 35, 36, 37, 38, 39, 40, 41, 42, 56, 57, 58, 59, 60, 61, 62, 63, 64, 65, 66, 67, 68, 69, 70, 71, 72, 73, 74, 75, 76, 77, 78, 79, 80, 81, 82, 83, 84] (by decide +kernel) (by decide +kernel)
set_option maxRecDepth 20000 in
theorem gX8_firstRefusal_X3_refusalOf : GoodIn wsX8_firstRefusal (wsV RX8 115 RX3 yX3_refusalOf wsX3_refusalOf) := goodIn_app (goodIn_of _ (by decide +kernel)) ggX8_firstRefusal_X3_refusalOf
theorem dX8_firstRefusal_0 : decode cX8_firstRefusal 0 = .ok (.iconst 0, 1) := by decide +kernel
theorem dX8_firstRefusal_1 : decode cX8_firstRefusal 1 = .ok (.istore_n 1, 1) := by decide +kernel
theorem dX8_firstRefusal_2 : decode cX8_firstRefusal 2 = .ok (.iload_n 1, 1) := by decide +kernel
theorem dX8_firstRefusal_3 : decode cX8_firstRefusal 3 = .ok (.aload_n 0, 1) := by decide +kernel
theorem dX8_firstRefusal_4 : decode cX8_firstRefusal 4 = .ok (.getfield 29, 3) := by decide +kernel
theorem dX8_firstRefusal_7 : decode cX8_firstRefusal 7 = .ok (.getfield 200, 3) := by decide +kernel
theorem dX8_firstRefusal_10 : decode cX8_firstRefusal 10 = .ok (.if_icmp .ge 44, 3) := by decide +kernel
theorem dX8_firstRefusal_13 : decode cX8_firstRefusal 13 = .ok (.iload_n 1, 1) := by decide +kernel
theorem dX8_firstRefusal_14 : decode cX8_firstRefusal 14 = .ok (.aload_n 0, 1) := by decide +kernel
theorem dX8_firstRefusal_15 : decode cX8_firstRefusal 15 = .ok (.getfield 29, 3) := by decide +kernel
theorem dX8_firstRefusal_18 : decode cX8_firstRefusal 18 = .ok (.getfield 206, 3) := by decide +kernel
theorem dX8_firstRefusal_21 : decode cX8_firstRefusal 21 = .ok (.arraylength, 1) := by decide +kernel
theorem dX8_firstRefusal_22 : decode cX8_firstRefusal 22 = .ok (.if_icmp .ge 32, 3) := by decide +kernel
theorem dX8_firstRefusal_25 : decode cX8_firstRefusal 25 = .ok (.aload_n 0, 1) := by decide +kernel
theorem dX8_firstRefusal_26 : decode cX8_firstRefusal 26 = .ok (.getfield 10, 3) := by decide +kernel
theorem dX8_firstRefusal_29 : decode cX8_firstRefusal 29 = .ok (.aload_n 0, 1) := by decide +kernel
theorem dX8_firstRefusal_30 : decode cX8_firstRefusal 30 = .ok (.getfield 29, 3) := by decide +kernel
theorem dX8_firstRefusal_33 : decode cX8_firstRefusal 33 = .ok (.getfield 206, 3) := by decide +kernel
theorem dX8_firstRefusal_36 : decode cX8_firstRefusal 36 = .ok (.iload_n 1, 1) := by decide +kernel
theorem dX8_firstRefusal_37 : decode cX8_firstRefusal 37 = .ok (.aaload, 1) := by decide +kernel
theorem dX8_firstRefusal_38 : decode cX8_firstRefusal 38 = .ok (.invokevirtual 115, 3) := by decide +kernel
theorem dX8_firstRefusal_41 : decode cX8_firstRefusal 41 = .ok (.istore_n 2, 1) := by decide +kernel
theorem dX8_firstRefusal_42 : decode cX8_firstRefusal 42 = .ok (.iload_n 2, 1) := by decide +kernel
theorem dX8_firstRefusal_43 : decode cX8_firstRefusal 43 = .ok (.ifCond .eq 5, 3) := by decide +kernel
theorem dX8_firstRefusal_46 : decode cX8_firstRefusal 46 = .ok (.iload_n 2, 1) := by decide +kernel
theorem dX8_firstRefusal_47 : decode cX8_firstRefusal 47 = .ok (.ireturn, 1) := by decide +kernel
theorem dX8_firstRefusal_48 : decode cX8_firstRefusal 48 = .ok (.iinc 1 1, 3) := by decide +kernel
theorem dX8_firstRefusal_51 : decode cX8_firstRefusal 51 = .ok (.goto (-49), 3) := by decide +kernel
theorem dX8_firstRefusal_54 : decode cX8_firstRefusal 54 = .ok (.iconst 0, 1) := by decide +kernel
theorem dX8_firstRefusal_55 : decode cX8_firstRefusal 55 = .ok (.ireturn, 1) := by decide +kernel
set_option maxRecDepth 20000 in
theorem ggX8_undo_X3_copyFrom : GoodIn wsX8_undo wsX3_copyFrom := goodIn_r _ [8, 9, 10, 11, 12, 13, 14, 15, 16, 17, 18, 19, 20, 21, 22, 23, 24, 25, 26, 27, 28, 29, 30, 31, 32, 33, 34, 35, 36, 37, 38, 39, 40, 41, 42, 43, 44, 45, 46, 47, 48, 49, 50, 51, 52, 53, 54, 55, 56, 57, 58, 59, 60, 61, 62, 63, 64, 65, 66, 67, 68, 69, 70, 71, 72, 73, 74, 75, 76, 77, 78, 79, 80, 81, 82, 83, 84, 85, 86, 87, 88, 89, 90, 91, 92, 93, 94, 95, 96, 97, 98, 99, 100, 101, 102, 111, 112, 113, 114, 115, 116, 117, 118, 119, 120, 121, 122, 123, 124, 125, 126, 127, 128, 129, 130, 131, 132, 133, 134, 135, 136, 137, 138, 139, 140, 141, 142, 143, 144, 145, 146, 147, 148, 149, 150, 151, 152, 153, 154, 155, 156, 157, 158, 159, 160, 161, 162, 163, 164, 165, 166, 167, 168, 169, 170, 171, 172] (by decide +kernel) (by decide +kernel)
set_option maxRecDepth 20000 in
theorem gX8_undo_X3_copyFrom : GoodIn wsX8_undo (wsV RX8 213 RX3 yX3_copyFrom wsX3_copyFrom) := goodIn_app (goodIn_of _ (by decide +kernel)) ggX8_undo_X3_copyFrom
theorem dX8_undo_0 : decode cX8_undo 0 = .ok (.aload_n 0, 1) := by decide +kernel
theorem dX8_undo_1 : decode cX8_undo 1 = .ok (.getfield 210, 3) := by decide +kernel
theorem dX8_undo_4 : decode cX8_undo 4 = .ok (.iconst 1, 1) := by decide +kernel
theorem dX8_undo_5 : decode cX8_undo 5 = .ok (.if_icmp .lt 15, 3) := by decide +kernel
theorem dX8_undo_8 : decode cX8_undo 8 = .ok (.aload_n 0, 1) := by decide +kernel
theorem dX8_undo_9 : decode cX8_undo 9 = .ok (.getfield 210, 3) := by decide +kernel
theorem dX8_undo_12 : decode cX8_undo 12 = .ok (.aload_n 0, 1) := by decide +kernel
theorem dX8_undo_13 : decode cX8_undo 13 = .ok (.getfield 22, 3) := by decide +kernel
theorem dX8_undo_16 : decode cX8_undo 16 = .ok (.arraylength, 1) := by decide +kernel
theorem dX8_undo_17 : decode cX8_undo 17 = .ok (.if_icmp .le 6, 3) := by decide +kernel
theorem dX8_undo_20 : decode cX8_undo 20 = .ok (.bipush (-5), 2) := by decide +kernel
theorem dX8_undo_22 : decode cX8_undo 22 = .ok (.ireturn, 1) := by decide +kernel
theorem dX8_undo_23 : decode cX8_undo 23 = .ok (.aload_n 0, 1) := by decide +kernel
theorem dX8_undo_24 : decode cX8_undo 24 = .ok (.dup, 1) := by decide +kernel
theorem dX8_undo_25 : decode cX8_undo 25 = .ok (.getfield 210, 3) := by decide +kernel
theorem dX8_undo_28 : decode cX8_undo 28 = .ok (.iconst 1, 1) := by decide +kernel
theorem dX8_undo_29 : decode cX8_undo 29 = .ok (.isub, 1) := by decide +kernel
theorem dX8_undo_30 : decode cX8_undo 30 = .ok (.putfield 210, 3) := by decide +kernel
theorem dX8_undo_33 : decode cX8_undo 33 = .ok (.aload_n 0, 1) := by decide +kernel
theorem dX8_undo_34 : decode cX8_undo 34 = .ok (.getfield 10, 3) := by decide +kernel
theorem dX8_undo_37 : decode cX8_undo 37 = .ok (.aload_n 0, 1) := by decide +kernel
theorem dX8_undo_38 : decode cX8_undo 38 = .ok (.getfield 22, 3) := by decide +kernel
theorem dX8_undo_41 : decode cX8_undo 41 = .ok (.aload_n 0, 1) := by decide +kernel
theorem dX8_undo_42 : decode cX8_undo 42 = .ok (.getfield 210, 3) := by decide +kernel
theorem dX8_undo_45 : decode cX8_undo 45 = .ok (.aaload, 1) := by decide +kernel
theorem dX8_undo_46 : decode cX8_undo 46 = .ok (.invokevirtual 213, 3) := by decide +kernel
theorem dX8_undo_49 : decode cX8_undo 49 = .ok (.aload_n 0, 1) := by decide +kernel
theorem dX8_undo_50 : decode cX8_undo 50 = .ok (.getfield 210, 3) := by decide +kernel
theorem dX8_undo_53 : decode cX8_undo 53 = .ok (.ireturn, 1) := by decide +kernel
set_option maxRecDepth 20000 in
theorem ggX8_keep_X3_copyFrom : GoodIn wsX8_keep wsX3_copyFrom := goodIn_r _ [9, 10, 11, 12, 13, 14, 15, 16, 17, 18, 19, 20, 21, 22, 23, 24, 25, 26, 27, 28, 29, 30, 31, 32, 33, 34, 35, 36, 37, 38, 39, 40, 41, 42, 43, 44, 45, 46, 47, 48, 49, 50, 51, 52, 53, 54, 55, 56, 57, 58, 59, 60, 61, 62, 63, 64, 65, 66, 67, 68, 69, 70, 71, 72, 73, 74, 75, 76, 77, 78, 79, 80, 81, 82, 83, 84, 85, 86, 87, 88, 89, 90, 91, 92, 93, 94, 95, 96, 97, 98, 99, 100, 101, 102, 103, 112, 113, 114, 115, 116, 117, 118, 119, 120, 121, 122, 123, 124, 125, 126, 127, 128, 129, 130, 131, 132, 133, 134, 135, 136, 137, 138, 139, 140, 141, 142, 143, 144, 145, 146, 147, 148, 149, 150, 151, 152, 153, 154, 155, 156, 157, 158, 159, 160, 161, 162, 163, 164, 165, 166, 167, 168, 169, 170, 171, 172, 173] (by decide +kernel) (by decide +kernel)
set_option maxRecDepth 20000 in
theorem gX8_keep_X3_copyFrom : GoodIn wsX8_keep (wsV RX8 213 RX3 yX3_copyFrom wsX3_copyFrom) := goodIn_app (goodIn_of _ (by decide +kernel)) ggX8_keep_X3_copyFrom
theorem dX8_keep_0 : decode cX8_keep 0 = .ok (.aload_n 0, 1) := by decide +kernel
theorem dX8_keep_1 : decode cX8_keep 1 = .ok (.getfield 16, 3) := by decide +kernel
theorem dX8_keep_4 : decode cX8_keep 4 = .ok (.aload_n 0, 1) := by decide +kernel
theorem dX8_keep_5 : decode cX8_keep 5 = .ok (.getfield 10, 3) := by decide +kernel
theorem dX8_keep_8 : decode cX8_keep 8 = .ok (.invokevirtual 213, 3) := by decide +kernel
theorem dX8_keep_11 : decode cX8_keep 11 = .ok (.aload_n 0, 1) := by decide +kernel
theorem dX8_keep_12 : decode cX8_keep 12 = .ok (.iconst 1, 1) := by decide +kernel
theorem dX8_keep_13 : decode cX8_keep 13 = .ok (.putfield 217, 3) := by decide +kernel
theorem dX8_keep_16 : decode cX8_keep 16 = .ok (.aload_n 0, 1) := by decide +kernel
theorem dX8_keep_17 : decode cX8_keep 17 = .ok (.getfield 10, 3) := by decide +kernel
theorem dX8_keep_20 : decode cX8_keep 20 = .ok (.getfield 220, 3) := by decide +kernel
theorem dX8_keep_23 : decode cX8_keep 23 = .ok (.ireturn, 1) := by decide +kernel
set_option maxRecDepth 20000 in
theorem ggX8_restore_X8_recordState : GoodIn wsX8_restore wsX8_recordState := goodIn_r _ [9, 10, 11, 2, 12, 13, 14, 8, 15, 16, 17, 18, 19, 20, 21, 22, 23, 24, 25, 26, 27, 28, 29, 30, 31, 32, 33, 34, 35, 36, 37, 38, 39, 40, 41, 42, 43, 44, 45, 46, 47, 48, 49, 50, 51, 52, 53, 54, 55, 56, 57, 58, 59, 60, 61, 62, 63, 64, 65, 66, 67, 68, 69, 70, 71, 72, 73, 74, 75, 76, 77, 78, 79, 80, 81, 82, 83, 84, 85, 86, 87, 88, 89, 90, 91, 92, 93, 94, 95, 96, 97, 98, 99, 100, 101, 102, 103, 104, 105, 106, 107, 108, 109, 110, 111, 112, 113, 114, 115, 116, 117, 118, 119, 120, 121, 122, 123, 124, 125, 126, 127, 128, 129, 130, 131, 132, 133, 134, 135, 136, 137, 138, 139, 140, 141, 142, 143, 144, 145, 146, 147, 148, 149, 150, 151, 152, 153, 154, 155, 156, 157, 158, 159, 160, 161, 162, 163, 164, 165, 166, 167, 168, 169, 170, 171, 172, 173, 174, 175, 176, 177, 178, 179, 180, 181, 182, 183, 184, 185, 186, 187] (by decide +kernel) (by decide +kernel)
set_option maxRecDepth 20000 in
theorem gX8_restore_X8_recordState : GoodIn wsX8_restore (wsV RX8 65 RX8 yX8_recordState wsX8_recordState) := goodIn_app (goodIn_of _ (by decide +kernel)) ggX8_restore_X8_recordState
set_option maxRecDepth 20000 in
theorem ggX8_restore_X3_copyFrom : GoodIn wsX8_restore wsX3_copyFrom := goodIn_r _ [23, 24, 25, 26, 27, 28, 29, 30, 31, 32, 33, 34, 35, 36, 37, 38, 39, 40, 41, 42, 43, 44, 45, 46, 47, 48, 49, 50, 51, 52, 53, 54, 55, 56, 57, 58, 59, 60, 61, 62, 63, 64, 65, 66, 67, 68, 69, 70, 71, 72, 73, 74, 75, 76, 77, 78, 79, 80, 81, 82, 83, 84, 85, 86, 87, 88, 89, 90, 91, 92, 93, 94, 95, 96, 97, 98, 99, 100, 101, 102, 103, 104, 105, 106, 107, 108, 109, 110, 111, 112, 113, 114, 115, 116, 117, 126, 127, 128, 129, 130, 131, 132, 133, 134, 135, 136, 137, 138, 139, 140, 141, 142, 143, 144, 145, 146, 147, 148, 149, 150, 151, 152, 153, 154, 155, 156, 157, 158, 159, 160, 161, 162, 163, 164, 165, 166, 167, 168, 169, 170, 171, 172, 173, 174, 175, 176, 177, 178, 179, 180, 181, 182, 183, 184, 185, 186, 187] (by decide +kernel) (by decide +kernel)
set_option maxRecDepth 20000 in
theorem gX8_restore_X3_copyFrom : GoodIn wsX8_restore (wsV RX8 213 RX3 yX3_copyFrom wsX3_copyFrom) := goodIn_app (goodIn_of _ (by decide +kernel)) ggX8_restore_X3_copyFrom
theorem dX8_restore_0 : decode cX8_restore 0 = .ok (.aload_n 0, 1) := by decide +kernel
theorem dX8_restore_1 : decode cX8_restore 1 = .ok (.getfield 217, 3) := by decide +kernel
theorem dX8_restore_4 : decode cX8_restore 4 = .ok (.ifCond .ne 6, 3) := by decide +kernel
theorem dX8_restore_7 : decode cX8_restore 7 = .ok (.bipush (-5), 2) := by decide +kernel
theorem dX8_restore_9 : decode cX8_restore 9 = .ok (.ireturn, 1) := by decide +kernel
theorem dX8_restore_10 : decode cX8_restore 10 = .ok (.aload_n 0, 1) := by decide +kernel
theorem dX8_restore_11 : decode cX8_restore 11 = .ok (.invokevirtual 65, 3) := by decide +kernel
theorem dX8_restore_14 : decode cX8_restore 14 = .ok (.aload_n 0, 1) := by decide +kernel
theorem dX8_restore_15 : decode cX8_restore 15 = .ok (.getfield 10, 3) := by decide +kernel
theorem dX8_restore_18 : decode cX8_restore 18 = .ok (.aload_n 0, 1) := by decide +kernel
theorem dX8_restore_19 : decode cX8_restore 19 = .ok (.getfield 16, 3) := by decide +kernel
theorem dX8_restore_22 : decode cX8_restore 22 = .ok (.invokevirtual 213, 3) := by decide +kernel
theorem dX8_restore_25 : decode cX8_restore 25 = .ok (.aload_n 0, 1) := by decide +kernel
theorem dX8_restore_26 : decode cX8_restore 26 = .ok (.getfield 10, 3) := by decide +kernel
theorem dX8_restore_29 : decode cX8_restore 29 = .ok (.getfield 220, 3) := by decide +kernel
theorem dX8_restore_32 : decode cX8_restore 32 = .ok (.ireturn, 1) := by decide +kernel
set_option maxRecDepth 20000 in
theorem ggX8_recordState_X8_dropOldestState : GoodIn wsX8_recordState wsX8_dropOldestState := goodIn_r _ [8, 2, 1, 111, 112, 113, 114, 115, 116, 117, 118] (by decide +kernel) (by decide +kernel)
set_option maxRecDepth 20000 in
theorem gX8_recordState_X8_dropOldestState : GoodIn wsX8_recordState (wsV RX8 223 RX8 yX8_dropOldestState wsX8_dropOldestState) := goodIn_app (goodIn_of _ (by decide +kernel)) ggX8_recordState_X8_dropOldestState
set_option maxRecDepth 20000 in
theorem ggX8_recordState_X8_within : GoodIn wsX8_recordState wsX8_within := goodIn_r _ [11] (by decide +kernel) (by decide +kernel)
set_option maxRecDepth 20000 in
theorem gX8_recordState_X8_within : GoodIn wsX8_recordState (va_wsS RX8 46 yX8_within wsX8_within) := goodIn_app (goodIn_of _ (by decide +kernel)) ggX8_recordState_X8_within
set_option maxRecDepth 20000 in
theorem ggX8_recordState_X3_copyFrom : GoodIn wsX8_recordState wsX3_copyFrom := goodIn_r _ [16, 17, 18, 19, 20, 21, 22, 23, 24, 25, 26, 27, 28, 29, 30, 31, 32, 33, 34, 35, 36, 37, 38, 39, 40, 41, 42, 43, 44, 45, 46, 47, 48, 49, 50, 51, 52, 53, 54, 55, 56, 57, 58, 59, 60, 61, 62, 63, 64, 65, 66, 67, 68, 69, 70, 71, 72, 73, 74, 75, 76, 77, 78, 79, 80, 81, 82, 83, 84, 85, 86, 87, 88, 89, 90, 91, 92, 93, 94, 95, 96, 97, 98, 99, 100, 101, 102, 103, 104, 105, 106, 107, 108, 109, 110, 119, 120, 121, 122, 123, 124, 125, 126, 127, 128, 129, 130, 131, 132, 133, 134, 135, 136, 137, 138, 139, 140, 141, 142, 143, 144, 145, 146, 147, 148, 149, 150, 151, 152, 153, 154, 155, 156, 157, 158, 159, 160, 161, 162, 163, 164, 165, 166, 167, 168, 169, 170, 171, 172, 173, 174, 175, 176, 177, 178, 179, 180] (by decide +kernel) (by decide +kernel)
set_option maxRecDepth 20000 in
theorem gX8_recordState_X3_copyFrom : GoodIn wsX8_recordState (wsV RX8 213 RX3 yX3_copyFrom wsX3_copyFrom) := goodIn_app (goodIn_of _ (by decide +kernel)) ggX8_recordState_X3_copyFrom
theorem dX8_recordState_0 : decode cX8_recordState 0 = .ok (.aload_n 0, 1) := by decide +kernel
theorem dX8_recordState_1 : decode cX8_recordState 1 = .ok (.getfield 210, 3) := by decide +kernel
theorem dX8_recordState_4 : decode cX8_recordState 4 = .ok (.aload_n 0, 1) := by decide +kernel
theorem dX8_recordState_5 : decode cX8_recordState 5 = .ok (.getfield 22, 3) := by decide +kernel
theorem dX8_recordState_8 : decode cX8_recordState 8 = .ok (.arraylength, 1) := by decide +kernel
theorem dX8_recordState_9 : decode cX8_recordState 9 = .ok (.if_icmp .lt 7, 3) := by decide +kernel
theorem dX8_recordState_12 : decode cX8_recordState 12 = .ok (.aload_n 0, 1) := by decide +kernel
theorem dX8_recordState_13 : decode cX8_recordState 13 = .ok (.invokevirtual 223, 3) := by decide +kernel
theorem dX8_recordState_16 : decode cX8_recordState 16 = .ok (.aload_n 0, 1) := by decide +kernel
theorem dX8_recordState_17 : decode cX8_recordState 17 = .ok (.getfield 210, 3) := by decide +kernel
theorem dX8_recordState_20 : decode cX8_recordState 20 = .ok (.iconst 0, 1) := by decide +kernel
theorem dX8_recordState_21 : decode cX8_recordState 21 = .ok (.aload_n 0, 1) := by decide +kernel
theorem dX8_recordState_22 : decode cX8_recordState 22 = .ok (.getfield 22, 3) := by decide +kernel
theorem dX8_recordState_25 : decode cX8_recordState 25 = .ok (.arraylength, 1) := by decide +kernel
theorem dX8_recordState_26 : decode cX8_recordState 26 = .ok (.iconst 1, 1) := by decide +kernel
theorem dX8_recordState_27 : decode cX8_recordState 27 = .ok (.isub, 1) := by decide +kernel
theorem dX8_recordState_28 : decode cX8_recordState 28 = .ok (.invokestatic 46, 3) := by decide +kernel
theorem dX8_recordState_31 : decode cX8_recordState 31 = .ok (.ifCond .eq 29, 3) := by decide +kernel
theorem dX8_recordState_34 : decode cX8_recordState 34 = .ok (.aload_n 0, 1) := by decide +kernel
theorem dX8_recordState_35 : decode cX8_recordState 35 = .ok (.getfield 22, 3) := by decide +kernel
theorem dX8_recordState_38 : decode cX8_recordState 38 = .ok (.aload_n 0, 1) := by decide +kernel
theorem dX8_recordState_39 : decode cX8_recordState 39 = .ok (.getfield 210, 3) := by decide +kernel
theorem dX8_recordState_42 : decode cX8_recordState 42 = .ok (.aaload, 1) := by decide +kernel
theorem dX8_recordState_43 : decode cX8_recordState 43 = .ok (.aload_n 0, 1) := by decide +kernel
theorem dX8_recordState_44 : decode cX8_recordState 44 = .ok (.getfield 10, 3) := by decide +kernel
theorem dX8_recordState_47 : decode cX8_recordState 47 = .ok (.invokevirtual 213, 3) := by decide +kernel
theorem dX8_recordState_50 : decode cX8_recordState 50 = .ok (.aload_n 0, 1) := by decide +kernel
theorem dX8_recordState_51 : decode cX8_recordState 51 = .ok (.dup, 1) := by decide +kernel
theorem dX8_recordState_52 : decode cX8_recordState 52 = .ok (.getfield 210, 3) := by decide +kernel
theorem dX8_recordState_55 : decode cX8_recordState 55 = .ok (.iconst 1, 1) := by decide +kernel
theorem dX8_recordState_56 : decode cX8_recordState 56 = .ok (.iadd, 1) := by decide +kernel
theorem dX8_recordState_57 : decode cX8_recordState 57 = .ok (.putfield 210, 3) := by decide +kernel
theorem dX8_recordState_60 : decode cX8_recordState 60 = .ok (.return_, 1) := by decide +kernel
theorem dX8_dropOldestState_0 : decode cX8_dropOldestState 0 = .ok (.aload_n 0, 1) := by decide +kernel
theorem dX8_dropOldestState_1 : decode cX8_dropOldestState 1 = .ok (.getfield 22, 3) := by decide +kernel
theorem dX8_dropOldestState_4 : decode cX8_dropOldestState 4 = .ok (.iconst 0, 1) := by decide +kernel
theorem dX8_dropOldestState_5 : decode cX8_dropOldestState 5 = .ok (.aaload, 1) := by decide +kernel
theorem dX8_dropOldestState_6 : decode cX8_dropOldestState 6 = .ok (.astore_n 1, 1) := by decide +kernel
theorem dX8_dropOldestState_7 : decode cX8_dropOldestState 7 = .ok (.iconst 1, 1) := by decide +kernel
theorem dX8_dropOldestState_8 : decode cX8_dropOldestState 8 = .ok (.istore_n 2, 1) := by decide +kernel
theorem dX8_dropOldestState_9 : decode cX8_dropOldestState 9 = .ok (.iload_n 2, 1) := by decide +kernel
theorem dX8_dropOldestState_10 : decode cX8_dropOldestState 10 = .ok (.aload_n 0, 1) := by decide +kernel
theorem dX8_dropOldestState_11 : decode cX8_dropOldestState 11 = .ok (.getfield 22, 3) := by decide +kernel
theorem dX8_dropOldestState_14 : decode cX8_dropOldestState 14 = .ok (.arraylength, 1) := by decide +kernel
theorem dX8_dropOldestState_15 : decode cX8_dropOldestState 15 = .ok (.if_icmp .ge 23, 3) := by decide +kernel
theorem dX8_dropOldestState_18 : decode cX8_dropOldestState 18 = .ok (.aload_n 0, 1) := by decide +kernel
theorem dX8_dropOldestState_19 : decode cX8_dropOldestState 19 = .ok (.getfield 22, 3) := by decide +kernel
theorem dX8_dropOldestState_22 : decode cX8_dropOldestState 22 = .ok (.iload_n 2, 1) := by decide +kernel
theorem dX8_dropOldestState_23 : decode cX8_dropOldestState 23 = .ok (.iconst 1, 1) := by decide +kernel
theorem dX8_dropOldestState_24 : decode cX8_dropOldestState 24 = .ok (.isub, 1) := by decide +kernel
theorem dX8_dropOldestState_25 : decode cX8_dropOldestState 25 = .ok (.aload_n 0, 1) := by decide +kernel
theorem dX8_dropOldestState_26 : decode cX8_dropOldestState 26 = .ok (.getfield 22, 3) := by decide +kernel
theorem dX8_dropOldestState_29 : decode cX8_dropOldestState 29 = .ok (.iload_n 2, 1) := by decide +kernel
theorem dX8_dropOldestState_30 : decode cX8_dropOldestState 30 = .ok (.aaload, 1) := by decide +kernel
theorem dX8_dropOldestState_31 : decode cX8_dropOldestState 31 = .ok (.aastore, 1) := by decide +kernel
theorem dX8_dropOldestState_32 : decode cX8_dropOldestState 32 = .ok (.iinc 2 1, 3) := by decide +kernel
theorem dX8_dropOldestState_35 : decode cX8_dropOldestState 35 = .ok (.goto (-26), 3) := by decide +kernel
theorem dX8_dropOldestState_38 : decode cX8_dropOldestState 38 = .ok (.aload_n 0, 1) := by decide +kernel
theorem dX8_dropOldestState_39 : decode cX8_dropOldestState 39 = .ok (.aload_n 0, 1) := by decide +kernel
theorem dX8_dropOldestState_40 : decode cX8_dropOldestState 40 = .ok (.getfield 22, 3) := by decide +kernel
theorem dX8_dropOldestState_43 : decode cX8_dropOldestState 43 = .ok (.arraylength, 1) := by decide +kernel
theorem dX8_dropOldestState_44 : decode cX8_dropOldestState 44 = .ok (.iconst 1, 1) := by decide +kernel
theorem dX8_dropOldestState_45 : decode cX8_dropOldestState 45 = .ok (.isub, 1) := by decide +kernel
theorem dX8_dropOldestState_46 : decode cX8_dropOldestState 46 = .ok (.putfield 210, 3) := by decide +kernel
theorem dX8_dropOldestState_49 : decode cX8_dropOldestState 49 = .ok (.aload_n 0, 1) := by decide +kernel
theorem dX8_dropOldestState_50 : decode cX8_dropOldestState 50 = .ok (.getfield 22, 3) := by decide +kernel
theorem dX8_dropOldestState_53 : decode cX8_dropOldestState 53 = .ok (.aload_n 0, 1) := by decide +kernel
theorem dX8_dropOldestState_54 : decode cX8_dropOldestState 54 = .ok (.getfield 210, 3) := by decide +kernel
theorem dX8_dropOldestState_57 : decode cX8_dropOldestState 57 = .ok (.aload_n 1, 1) := by decide +kernel
theorem dX8_dropOldestState_58 : decode cX8_dropOldestState 58 = .ok (.aastore, 1) := by decide +kernel
theorem dX8_dropOldestState_59 : decode cX8_dropOldestState 59 = .ok (.return_, 1) := by decide +kernel
set_option maxRecDepth 20000 in
theorem ggX8_line_X8_isLine : GoodIn wsX8_line wsX8_isLine := goodIn_r _ [12] (by decide +kernel) (by decide +kernel)
set_option maxRecDepth 20000 in
theorem gX8_line_X8_isLine : GoodIn wsX8_line (va_wsS RX8 40 yX8_isLine wsX8_isLine) := goodIn_app (goodIn_of _ (by decide +kernel)) ggX8_line_X8_isLine
set_option maxRecDepth 20000 in
theorem ggX8_line_X3_lineOf : GoodIn wsX8_line wsX3_lineOf := goodIn_r _ [17, 18, 19, 53, 54, 55, 56, 57, 58, 59, 60, 61, 62, 63, 64, 65, 66] (by decide +kernel) (by decide +kernel)
set_option maxRecDepth 20000 in
theorem gX8_line_X3_lineOf : GoodIn wsX8_line (wsV RX8 50 RX3 yX3_lineOf wsX3_lineOf) := goodIn_app (goodIn_of _ (by decide +kernel)) ggX8_line_X3_lineOf
set_option maxRecDepth 20000 in
theorem ggX8_line_X0_riderCount : GoodIn wsX8_line wsX0_riderCount := goodIn_r _ [24, 25, 43, 44, 45, 46, 47, 48, 49, 50, 51, 52] (by decide +kernel) (by decide +kernel)
set_option maxRecDepth 20000 in
theorem gX8_line_X0_riderCount : GoodIn wsX8_line (wsV RX8 54 RX0 yX0_riderCount wsX0_riderCount) := goodIn_app (goodIn_of _ (by decide +kernel)) ggX8_line_X0_riderCount
set_option maxRecDepth 20000 in
theorem ggX8_line_X3_hallLength : GoodIn wsX8_line wsX3_hallLength := goodIn_r _ [29, 30, 31, 32, 33, 34, 53, 54, 55, 56, 57, 58, 59, 60, 61, 62, 63, 64, 65, 66, 67, 68, 69, 70, 71, 72, 73, 74, 75, 76, 77, 78, 79, 80, 43, 44, 45, 46, 47, 48, 49, 50, 51, 52] (by decide +kernel) (by decide +kernel)
set_option maxRecDepth 20000 in
theorem gX8_line_X3_hallLength : GoodIn wsX8_line (wsV RX8 232 RX3 yX3_hallLength wsX3_hallLength) := goodIn_app (goodIn_of _ (by decide +kernel)) ggX8_line_X3_hallLength
theorem dX8_line_0 : decode cX8_line 0 = .ok (.iload_n 1, 1) := by decide +kernel
theorem dX8_line_1 : decode cX8_line 1 = .ok (.invokestatic 40, 3) := by decide +kernel
theorem dX8_line_4 : decode cX8_line 4 = .ok (.ifCond .ne 5, 3) := by decide +kernel
theorem dX8_line_7 : decode cX8_line 7 = .ok (.iconst (-1), 1) := by decide +kernel
theorem dX8_line_8 : decode cX8_line 8 = .ok (.ireturn, 1) := by decide +kernel
theorem dX8_line_9 : decode cX8_line 9 = .ok (.aload_n 0, 1) := by decide +kernel
theorem dX8_line_10 : decode cX8_line 10 = .ok (.getfield 10, 3) := by decide +kernel
theorem dX8_line_13 : decode cX8_line 13 = .ok (.iload_n 1, 1) := by decide +kernel
theorem dX8_line_14 : decode cX8_line 14 = .ok (.invokevirtual 50, 3) := by decide +kernel
theorem dX8_line_17 : decode cX8_line 17 = .ok (.astore_n 3, 1) := by decide +kernel
theorem dX8_line_18 : decode cX8_line 18 = .ok (.iload_n 2, 1) := by decide +kernel
theorem dX8_line_19 : decode cX8_line 19 = .ok (.tableswitch 104 0 8 #[49, 54, 59, 67, 75, 80, 85, 94, 99], 49) := by decide +kernel
theorem dX8_line_68 : decode cX8_line 68 = .ok (.aload_n 3, 1) := by decide +kernel
theorem dX8_line_69 : decode cX8_line 69 = .ok (.getfield 61, 3) := by decide +kernel
theorem dX8_line_72 : decode cX8_line 72 = .ok (.ireturn, 1) := by decide +kernel
theorem dX8_line_73 : decode cX8_line 73 = .ok (.aload_n 3, 1) := by decide +kernel
theorem dX8_line_74 : decode cX8_line 74 = .ok (.getfield 226, 3) := by decide +kernel
theorem dX8_line_77 : decode cX8_line 77 = .ok (.ireturn, 1) := by decide +kernel
theorem dX8_line_78 : decode cX8_line 78 = .ok (.aload_n 3, 1) := by decide +kernel
theorem dX8_line_79 : decode cX8_line 79 = .ok (.getfield 229, 3) := by decide +kernel
theorem dX8_line_82 : decode cX8_line 82 = .ok (.bipush 100, 2) := by decide +kernel
theorem dX8_line_84 : decode cX8_line 84 = .ok (.iadd, 1) := by decide +kernel
theorem dX8_line_85 : decode cX8_line 85 = .ok (.ireturn, 1) := by decide +kernel
theorem dX8_line_86 : decode cX8_line 86 = .ok (.aload_n 3, 1) := by decide +kernel
theorem dX8_line_87 : decode cX8_line 87 = .ok (.getfield 82, 3) := by decide +kernel
theorem dX8_line_90 : decode cX8_line 90 = .ok (.bipush 100, 2) := by decide +kernel
theorem dX8_line_92 : decode cX8_line 92 = .ok (.iadd, 1) := by decide +kernel
theorem dX8_line_93 : decode cX8_line 93 = .ok (.ireturn, 1) := by decide +kernel
theorem dX8_line_94 : decode cX8_line 94 = .ok (.aload_n 3, 1) := by decide +kernel
theorem dX8_line_95 : decode cX8_line 95 = .ok (.getfield 75, 3) := by decide +kernel
theorem dX8_line_98 : decode cX8_line 98 = .ok (.ireturn, 1) := by decide +kernel
theorem dX8_line_99 : decode cX8_line 99 = .ok (.aload_n 3, 1) := by decide +kernel
theorem dX8_line_100 : decode cX8_line 100 = .ok (.invokevirtual 54, 3) := by decide +kernel
theorem dX8_line_103 : decode cX8_line 103 = .ok (.ireturn, 1) := by decide +kernel
theorem dX8_line_104 : decode cX8_line 104 = .ok (.aload_n 0, 1) := by decide +kernel
theorem dX8_line_105 : decode cX8_line 105 = .ok (.getfield 10, 3) := by decide +kernel
theorem dX8_line_108 : decode cX8_line 108 = .ok (.aload_n 3, 1) := by decide +kernel
theorem dX8_line_109 : decode cX8_line 109 = .ok (.invokevirtual 232, 3) := by decide +kernel
theorem dX8_line_112 : decode cX8_line 112 = .ok (.ireturn, 1) := by decide +kernel
theorem dX8_line_113 : decode cX8_line 113 = .ok (.aload_n 3, 1) := by decide +kernel
theorem dX8_line_114 : decode cX8_line 114 = .ok (.getfield 236, 3) := by decide +kernel
theorem dX8_line_117 : decode cX8_line 117 = .ok (.ireturn, 1) := by decide +kernel
theorem dX8_line_118 : decode cX8_line 118 = .ok (.aload_n 3, 1) := by decide +kernel
theorem dX8_line_119 : decode cX8_line 119 = .ok (.getfield 239, 3) := by decide +kernel
theorem dX8_line_122 : decode cX8_line 122 = .ok (.ireturn, 1) := by decide +kernel
theorem dX8_line_123 : decode cX8_line 123 = .ok (.bipush (-2), 2) := by decide +kernel
theorem dX8_line_125 : decode cX8_line 125 = .ok (.ireturn, 1) := by decide +kernel
set_option maxRecDepth 20000 in
theorem ggX8_slot_X8_isLine : GoodIn wsX8_slot wsX8_isLine := goodIn_r _ [6] (by decide +kernel) (by decide +kernel)
set_option maxRecDepth 20000 in
theorem gX8_slot_X8_isLine : GoodIn wsX8_slot (va_wsS RX8 40 yX8_isLine wsX8_isLine) := goodIn_app (goodIn_of _ (by decide +kernel)) ggX8_slot_X8_isLine
set_option maxRecDepth 20000 in
theorem ggX8_slot_X3_lineOf : GoodIn wsX8_slot wsX3_lineOf := goodIn_r _ [11, 12, 13, 41, 42, 43, 44, 45, 46, 47, 48, 49, 50, 51, 52, 53, 54] (by decide +kernel) (by decide +kernel)
set_option maxRecDepth 20000 in
theorem gX8_slot_X3_lineOf : GoodIn wsX8_slot (wsV RX8 50 RX3 yX3_lineOf wsX3_lineOf) := goodIn_app (goodIn_of _ (by decide +kernel)) ggX8_slot_X3_lineOf
set_option maxRecDepth 20000 in
theorem ggX8_slot_X8_within : GoodIn wsX8_slot wsX8_within := goodIn_r _ [16] (by decide +kernel) (by decide +kernel)
set_option maxRecDepth 20000 in
theorem gX8_slot_X8_within : GoodIn wsX8_slot (va_wsS RX8 46 yX8_within wsX8_within) := goodIn_app (goodIn_of _ (by decide +kernel)) ggX8_slot_X8_within
set_option maxRecDepth 20000 in
theorem ggX8_slot_X0_riderIn : GoodIn wsX8_slot wsX0_riderIn := goodIn_r _ [21, 22, 15, 5, 16, 31, 32, 33, 34, 35, 36, 37, 38, 39, 40] (by decide +kernel) (by decide +kernel)
set_option maxRecDepth 20000 in
theorem gX8_slot_X0_riderIn : GoodIn wsX8_slot (wsV RX8 242 RX0 yX0_riderIn wsX0_riderIn) := goodIn_app (goodIn_of _ (by decide +kernel)) ggX8_slot_X0_riderIn
theorem dX8_slot_0 : decode cX8_slot 0 = .ok (.iload_n 1, 1) := by decide +kernel
theorem dX8_slot_1 : decode cX8_slot 1 = .ok (.invokestatic 40, 3) := by decide +kernel
theorem dX8_slot_4 : decode cX8_slot 4 = .ok (.ifCond .ne 5, 3) := by decide +kernel
theorem dX8_slot_7 : decode cX8_slot 7 = .ok (.iconst (-1), 1) := by decide +kernel
theorem dX8_slot_8 : decode cX8_slot 8 = .ok (.ireturn, 1) := by decide +kernel
theorem dX8_slot_9 : decode cX8_slot 9 = .ok (.aload_n 0, 1) := by decide +kernel
theorem dX8_slot_10 : decode cX8_slot 10 = .ok (.getfield 10, 3) := by decide +kernel
theorem dX8_slot_13 : decode cX8_slot 13 = .ok (.iload_n 1, 1) := by decide +kernel
theorem dX8_slot_14 : decode cX8_slot 14 = .ok (.invokevirtual 50, 3) := by decide +kernel
theorem dX8_slot_17 : decode cX8_slot 17 = .ok (.astore_n 3, 1) := by decide +kernel
theorem dX8_slot_18 : decode cX8_slot 18 = .ok (.iload_n 2, 1) := by decide +kernel
theorem dX8_slot_19 : decode cX8_slot 19 = .ok (.iconst 0, 1) := by decide +kernel
theorem dX8_slot_20 : decode cX8_slot 20 = .ok (.aload_n 3, 1) := by decide +kernel
theorem dX8_slot_21 : decode cX8_slot 21 = .ok (.getfield 61, 3) := by decide +kernel
theorem dX8_slot_24 : decode cX8_slot 24 = .ok (.iconst 1, 1) := by decide +kernel
theorem dX8_slot_25 : decode cX8_slot 25 = .ok (.isub, 1) := by decide +kernel
theorem dX8_slot_26 : decode cX8_slot 26 = .ok (.invokestatic 46, 3) := by decide +kernel
theorem dX8_slot_29 : decode cX8_slot 29 = .ok (.ifCond .eq 11, 3) := by decide +kernel
theorem dX8_slot_32 : decode cX8_slot 32 = .ok (.aload_n 3, 1) := by decide +kernel
theorem dX8_slot_33 : decode cX8_slot 33 = .ok (.iload_n 2, 1) := by decide +kernel
theorem dX8_slot_34 : decode cX8_slot 34 = .ok (.invokevirtual 242, 3) := by decide +kernel
theorem dX8_slot_37 : decode cX8_slot 37 = .ok (.goto 5, 3) := by decide +kernel
theorem dX8_slot_40 : decode cX8_slot 40 = .ok (.bipush (-2), 2) := by decide +kernel
theorem dX8_slot_42 : decode cX8_slot 42 = .ok (.ireturn, 1) := by decide +kernel
set_option maxRecDepth 20000 in
theorem ggX8_station_X3_stationOf : GoodIn wsX8_station wsX3_stationOf := goodIn_r _ [14, 15, 16, 17, 18, 19, 20, 13, 21, 22, 23, 24, 25, 26, 27, 28, 29, 30, 97, 98, 99, 100, 101, 102, 103, 104, 105, 106, 107, 108, 109, 110, 111, 112, 113, 114, 115, 116, 117, 118, 119, 120] (by decide +kernel) (by decide +kernel)
set_option maxRecDepth 20000 in
theorem gX8_station_X3_stationOf : GoodIn wsX8_station (wsV RX8 139 RX3 yX3_stationOf wsX3_stationOf) := goodIn_app (goodIn_of _ (by decide +kernel)) ggX8_station_X3_stationOf
set_option maxRecDepth 20000 in
theorem ggX8_station_X3_lineOf : GoodIn wsX8_station wsX3_lineOf := goodIn_r _ [21, 22, 23, 97, 98, 99, 100, 101, 102, 103, 104, 105, 106, 107, 108, 109, 110] (by decide +kernel) (by decide +kernel)
set_option maxRecDepth 20000 in
theorem gX8_station_X3_lineOf : GoodIn wsX8_station (wsV RX8 50 RX3 yX3_lineOf wsX3_lineOf) := goodIn_app (goodIn_of _ (by decide +kernel)) ggX8_station_X3_lineOf
set_option maxRecDepth 20000 in
theorem ggX8_station_X0_slotAt : GoodIn wsX8_station wsX0_slotAt := goodIn_r _ [35, 36, 37, 38, 39, 27, 40, 41, 111, 112, 113, 114, 115, 116, 117, 118, 119, 120] (by decide +kernel) (by decide +kernel)
set_option maxRecDepth 20000 in
theorem gX8_station_X0_slotAt : GoodIn wsX8_station (wsV RX8 251 RX0 yX0_slotAt wsX0_slotAt) := goodIn_app (goodIn_of _ (by decide +kernel)) ggX8_station_X0_slotAt
set_option maxRecDepth 20000 in
theorem ggX8_station_X3_queueLength : GoodIn wsX8_station wsX3_queueLength := goodIn_r _ [45, 46, 47, 48, 49, 50, 51, 52, 53, 54, 55, 56, 97, 98, 99, 100, 101, 102, 103, 104, 105, 106, 107, 108, 109, 110, 121, 122, 123, 124, 125, 126, 127, 128, 129, 130, 131, 132, 133, 134, 135, 136, 137, 138, 139] (by decide +kernel) (by decide +kernel)
set_option maxRecDepth 20000 in
theorem gX8_station_X3_queueLength : GoodIn wsX8_station (wsV RX8 257 RX3 yX3_queueLength wsX3_queueLength) := goodIn_app (goodIn_of _ (by decide +kernel)) ggX8_station_X3_queueLength
set_option maxRecDepth 20000 in
theorem ggX8_station_X3_nextToBoard : GoodIn wsX8_station wsX3_nextToBoard := goodIn_r _ [60, 61, 62, 63, 18, 19, 20, 13, 21, 22, 23, 64, 65, 66, 27, 67, 68, 69, 70, 71, 72, 46, 47, 73, 74, 48, 49, 50, 51, 52, 53, 54, 55, 56, 87, 88, 89, 90, 91, 92, 93, 94, 95, 96, 97, 98, 99, 100, 101, 102, 103, 104, 105, 106, 107, 108, 109, 110, 111, 112, 113, 114, 115, 116, 117, 118, 119, 120, 121, 122, 123, 124, 125, 126, 127, 128, 129, 130, 131, 132, 133, 134, 135, 136, 137, 138, 139] (by decide +kernel) (by decide +kernel)
set_option maxRecDepth 20000 in
theorem gX8_station_X3_nextToBoard : GoodIn wsX8_station (wsV RX8 272 RX3 yX3_nextToBoard wsX3_nextToBoard) := goodIn_app (goodIn_of _ (by decide +kernel)) ggX8_station_X3_nextToBoard
set_option maxRecDepth 20000 in
theorem ggX8_station_X8_numberOf : GoodIn wsX8_station wsX8_numberOf := goodIn_r _ [77, 78, 121, 122, 123, 124, 125, 126, 127, 128, 129, 130, 131, 132, 133, 134] (by decide +kernel) (by decide +kernel)
set_option maxRecDepth 20000 in
theorem gX8_station_X8_numberOf : GoodIn wsX8_station (va_wsS RX8 276 yX8_numberOf wsX8_numberOf) := goodIn_app (goodIn_of _ (by decide +kernel)) ggX8_station_X8_numberOf
theorem dX8_station_0 : decode cX8_station 0 = .ok (.aload_n 0, 1) := by decide +kernel
theorem dX8_station_1 : decode cX8_station 1 = .ok (.getfield 10, 3) := by decide +kernel
theorem dX8_station_4 : decode cX8_station 4 = .ok (.iload_n 1, 1) := by decide +kernel
theorem dX8_station_5 : decode cX8_station 5 = .ok (.invokevirtual 139, 3) := by decide +kernel
theorem dX8_station_8 : decode cX8_station 8 = .ok (.astore_n 3, 1) := by decide +kernel
theorem dX8_station_9 : decode cX8_station 9 = .ok (.aload_n 3, 1) := by decide +kernel
theorem dX8_station_10 : decode cX8_station 10 = .ok (.ifnonnull 5, 3) := by decide +kernel
theorem dX8_station_13 : decode cX8_station 13 = .ok (.iconst (-1), 1) := by decide +kernel
theorem dX8_station_14 : decode cX8_station 14 = .ok (.ireturn, 1) := by decide +kernel
theorem dX8_station_15 : decode cX8_station 15 = .ok (.iload_n 2, 1) := by decide +kernel
theorem dX8_station_16 : decode cX8_station 16 = .ok (.tableswitch 125 0 8 #[52, 57, 76, 88, 93, 98, 103, 108, 113], 52) := by decide +kernel
theorem dX8_station_68 : decode cX8_station 68 = .ok (.aload_n 3, 1) := by decide +kernel
theorem dX8_station_69 : decode cX8_station 69 = .ok (.getfield 245, 3) := by decide +kernel
theorem dX8_station_72 : decode cX8_station 72 = .ok (.ireturn, 1) := by decide +kernel
theorem dX8_station_73 : decode cX8_station 73 = .ok (.aload_n 0, 1) := by decide +kernel
theorem dX8_station_74 : decode cX8_station 74 = .ok (.getfield 10, 3) := by decide +kernel
theorem dX8_station_77 : decode cX8_station 77 = .ok (.aload_n 3, 1) := by decide +kernel
theorem dX8_station_78 : decode cX8_station 78 = .ok (.getfield 248, 3) := by decide +kernel
theorem dX8_station_81 : decode cX8_station 81 = .ok (.invokevirtual 50, 3) := by decide +kernel
theorem dX8_station_84 : decode cX8_station 84 = .ok (.aload_n 3, 1) := by decide +kernel
theorem dX8_station_85 : decode cX8_station 85 = .ok (.getfield 245, 3) := by decide +kernel
theorem dX8_station_88 : decode cX8_station 88 = .ok (.invokevirtual 251, 3) := by decide +kernel
theorem dX8_station_91 : decode cX8_station 91 = .ok (.ireturn, 1) := by decide +kernel
theorem dX8_station_92 : decode cX8_station 92 = .ok (.aload_n 0, 1) := by decide +kernel
theorem dX8_station_93 : decode cX8_station 93 = .ok (.getfield 10, 3) := by decide +kernel
theorem dX8_station_96 : decode cX8_station 96 = .ok (.aload_n 3, 1) := by decide +kernel
theorem dX8_station_97 : decode cX8_station 97 = .ok (.getfield 254, 3) := by decide +kernel
theorem dX8_station_100 : decode cX8_station 100 = .ok (.invokevirtual 257, 3) := by decide +kernel
theorem dX8_station_103 : decode cX8_station 103 = .ok (.ireturn, 1) := by decide +kernel
theorem dX8_station_104 : decode cX8_station 104 = .ok (.aload_n 3, 1) := by decide +kernel
theorem dX8_station_105 : decode cX8_station 105 = .ok (.getfield 260, 3) := by decide +kernel
theorem dX8_station_108 : decode cX8_station 108 = .ok (.ireturn, 1) := by decide +kernel
theorem dX8_station_109 : decode cX8_station 109 = .ok (.aload_n 3, 1) := by decide +kernel
theorem dX8_station_110 : decode cX8_station 110 = .ok (.getfield 263, 3) := by decide +kernel
theorem dX8_station_113 : decode cX8_station 113 = .ok (.ireturn, 1) := by decide +kernel
theorem dX8_station_114 : decode cX8_station 114 = .ok (.aload_n 3, 1) := by decide +kernel
theorem dX8_station_115 : decode cX8_station 115 = .ok (.getfield 266, 3) := by decide +kernel
theorem dX8_station_118 : decode cX8_station 118 = .ok (.ireturn, 1) := by decide +kernel
theorem dX8_station_119 : decode cX8_station 119 = .ok (.aload_n 3, 1) := by decide +kernel
theorem dX8_station_120 : decode cX8_station 120 = .ok (.getfield 269, 3) := by decide +kernel
theorem dX8_station_123 : decode cX8_station 123 = .ok (.ireturn, 1) := by decide +kernel
theorem dX8_station_124 : decode cX8_station 124 = .ok (.aload_n 3, 1) := by decide +kernel
theorem dX8_station_125 : decode cX8_station 125 = .ok (.getfield 144, 3) := by decide +kernel
theorem dX8_station_128 : decode cX8_station 128 = .ok (.ireturn, 1) := by decide +kernel
theorem dX8_station_129 : decode cX8_station 129 = .ok (.aload_n 0, 1) := by decide +kernel
theorem dX8_station_130 : decode cX8_station 130 = .ok (.getfield 10, 3) := by decide +kernel
theorem dX8_station_133 : decode cX8_station 133 = .ok (.aload_n 3, 1) := by decide +kernel
theorem dX8_station_134 : decode cX8_station 134 = .ok (.invokevirtual 272, 3) := by decide +kernel
theorem dX8_station_137 : decode cX8_station 137 = .ok (.invokestatic 276, 3) := by decide +kernel
theorem dX8_station_140 : decode cX8_station 140 = .ok (.ireturn, 1) := by decide +kernel
theorem dX8_station_141 : decode cX8_station 141 = .ok (.bipush (-2), 2) := by decide +kernel
theorem dX8_station_143 : decode cX8_station 143 = .ok (.ireturn, 1) := by decide +kernel
set_option maxRecDepth 20000 in
theorem ggX8_waiting_X3_stationOf : GoodIn wsX8_waiting wsX3_stationOf := goodIn_r _ [7, 8, 9, 10, 11, 12, 13, 6, 14, 15, 16, 17, 18, 19, 20, 21, 22, 23, 63, 64, 65, 66, 67, 68, 69, 70, 71, 72, 73, 74, 75, 76, 77, 78, 79, 80, 81, 82, 83, 84, 85, 86] (by decide +kernel) (by decide +kernel)
set_option maxRecDepth 20000 in
theorem gX8_waiting_X3_stationOf : GoodIn wsX8_waiting (wsV RX8 139 RX3 yX3_stationOf wsX3_stationOf) := goodIn_app (goodIn_of _ (by decide +kernel)) ggX8_waiting_X3_stationOf
set_option maxRecDepth 20000 in
theorem ggX8_waiting_X3_inQueue : GoodIn wsX8_waiting wsX3_inQueue := goodIn_r _ [27, 28, 29, 30, 31, 32, 33, 34, 35, 36, 37, 38, 39, 40, 63, 64, 65, 66, 67, 68, 69, 70, 71, 72, 73, 74, 75, 76, 87, 88, 89, 90, 91, 92, 93, 94, 95, 96, 97, 98, 99, 100, 101, 102, 103, 104, 105] (by decide +kernel) (by decide +kernel)
set_option maxRecDepth 20000 in
theorem gX8_waiting_X3_inQueue : GoodIn wsX8_waiting (wsV RX8 279 RX3 yX3_inQueue wsX3_inQueue) := goodIn_app (goodIn_of _ (by decide +kernel)) ggX8_waiting_X3_inQueue
set_option maxRecDepth 20000 in
theorem ggX8_waiting_X8_numberOf : GoodIn wsX8_waiting wsX8_numberOf := goodIn_r _ [43, 44, 87, 88, 89, 90, 91, 92, 93, 94, 95, 96, 97, 98, 99, 100] (by decide +kernel) (by decide +kernel)
set_option maxRecDepth 20000 in
theorem gX8_waiting_X8_numberOf : GoodIn wsX8_waiting (va_wsS RX8 276 yX8_numberOf wsX8_numberOf) := goodIn_app (goodIn_of _ (by decide +kernel)) ggX8_waiting_X8_numberOf
theorem dX8_waiting_0 : decode cX8_waiting 0 = .ok (.aload_n 0, 1) := by decide +kernel
theorem dX8_waiting_1 : decode cX8_waiting 1 = .ok (.getfield 10, 3) := by decide +kernel
theorem dX8_waiting_4 : decode cX8_waiting 4 = .ok (.iload_n 1, 1) := by decide +kernel
theorem dX8_waiting_5 : decode cX8_waiting 5 = .ok (.invokevirtual 139, 3) := by decide +kernel
theorem dX8_waiting_8 : decode cX8_waiting 8 = .ok (.astore_n 3, 1) := by decide +kernel
theorem dX8_waiting_9 : decode cX8_waiting 9 = .ok (.aload_n 3, 1) := by decide +kernel
theorem dX8_waiting_10 : decode cX8_waiting 10 = .ok (.ifnonnull 5, 3) := by decide +kernel
theorem dX8_waiting_13 : decode cX8_waiting 13 = .ok (.iconst (-1), 1) := by decide +kernel
theorem dX8_waiting_14 : decode cX8_waiting 14 = .ok (.ireturn, 1) := by decide +kernel
theorem dX8_waiting_15 : decode cX8_waiting 15 = .ok (.iload_n 2, 1) := by decide +kernel
theorem dX8_waiting_16 : decode cX8_waiting 16 = .ok (.ifCond .ge 8, 3) := by decide +kernel
theorem dX8_waiting_19 : decode cX8_waiting 19 = .ok (.bipush (-2), 2) := by decide +kernel
theorem dX8_waiting_21 : decode cX8_waiting 21 = .ok (.goto 18, 3) := by decide +kernel
theorem dX8_waiting_24 : decode cX8_waiting 24 = .ok (.aload_n 0, 1) := by decide +kernel
theorem dX8_waiting_25 : decode cX8_waiting 25 = .ok (.getfield 10, 3) := by decide +kernel
theorem dX8_waiting_28 : decode cX8_waiting 28 = .ok (.aload_n 3, 1) := by decide +kernel
theorem dX8_waiting_29 : decode cX8_waiting 29 = .ok (.getfield 254, 3) := by decide +kernel
theorem dX8_waiting_32 : decode cX8_waiting 32 = .ok (.iload_n 2, 1) := by decide +kernel
theorem dX8_waiting_33 : decode cX8_waiting 33 = .ok (.invokevirtual 279, 3) := by decide +kernel
theorem dX8_waiting_36 : decode cX8_waiting 36 = .ok (.invokestatic 276, 3) := by decide +kernel
theorem dX8_waiting_39 : decode cX8_waiting 39 = .ok (.ireturn, 1) := by decide +kernel
set_option maxRecDepth 20000 in
theorem ggX8_calls_X3_stationOf : GoodIn wsX8_calls wsX3_stationOf := goodIn_r _ [6, 7, 8, 9, 10, 11, 12, 5, 13, 14, 15, 16, 17, 18, 19, 20, 21, 22, 38, 39, 40, 41, 42, 43, 44, 45, 46, 47, 48, 49, 50, 51, 52, 53, 54, 55, 56, 57, 58, 59, 60, 61] (by decide +kernel) (by decide +kernel)
set_option maxRecDepth 20000 in
theorem gX8_calls_X3_stationOf : GoodIn wsX8_calls (wsV RX8 139 RX3 yX3_stationOf wsX3_stationOf) := goodIn_app (goodIn_of _ (by decide +kernel)) ggX8_calls_X3_stationOf
set_option maxRecDepth 20000 in
theorem ggX8_calls_X4_callAt : GoodIn wsX8_calls wsX4_callAt := goodIn_r _ [27, 28, 29, 62, 63, 64, 65, 66, 67, 68, 69, 70, 71] (by decide +kernel) (by decide +kernel)
set_option maxRecDepth 20000 in
theorem gX8_calls_X4_callAt : GoodIn wsX8_calls (wsV RX8 152 RX4 yX4_callAt wsX4_callAt) := goodIn_app (goodIn_of _ (by decide +kernel)) ggX8_calls_X4_callAt
theorem dX8_calls_0 : decode cX8_calls 0 = .ok (.aload_n 0, 1) := by decide +kernel
theorem dX8_calls_1 : decode cX8_calls 1 = .ok (.getfield 10, 3) := by decide +kernel
theorem dX8_calls_4 : decode cX8_calls 4 = .ok (.iload_n 1, 1) := by decide +kernel
theorem dX8_calls_5 : decode cX8_calls 5 = .ok (.invokevirtual 139, 3) := by decide +kernel
theorem dX8_calls_8 : decode cX8_calls 8 = .ok (.astore_n 3, 1) := by decide +kernel
theorem dX8_calls_9 : decode cX8_calls 9 = .ok (.aload_n 3, 1) := by decide +kernel
theorem dX8_calls_10 : decode cX8_calls 10 = .ok (.ifnonnull 5, 3) := by decide +kernel
theorem dX8_calls_13 : decode cX8_calls 13 = .ok (.iconst (-1), 1) := by decide +kernel
theorem dX8_calls_14 : decode cX8_calls 14 = .ok (.ireturn, 1) := by decide +kernel
theorem dX8_calls_15 : decode cX8_calls 15 = .ok (.iload_n 2, 1) := by decide +kernel
theorem dX8_calls_16 : decode cX8_calls 16 = .ok (.ifCond .ge 8, 3) := by decide +kernel
theorem dX8_calls_19 : decode cX8_calls 19 = .ok (.bipush (-2), 2) := by decide +kernel
theorem dX8_calls_21 : decode cX8_calls 21 = .ok (.goto 8, 3) := by decide +kernel
theorem dX8_calls_24 : decode cX8_calls 24 = .ok (.aload_n 3, 1) := by decide +kernel
theorem dX8_calls_25 : decode cX8_calls 25 = .ok (.iload_n 2, 1) := by decide +kernel
theorem dX8_calls_26 : decode cX8_calls 26 = .ok (.invokevirtual 152, 3) := by decide +kernel
theorem dX8_calls_29 : decode cX8_calls 29 = .ok (.ireturn, 1) := by decide +kernel
