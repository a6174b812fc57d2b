set_option maxRecDepth 20000 in
theorem ggX8_ticket_X3_ticketOf : GoodIn wsX8_ticket wsX3_ticketOf := goodIn_r _ [21, 22, 23, 24, 25, 26, 54, 55, 56, 57, 58, 59, 60, 61, 62, 63, 64, 65, 66, 67] (by decide +kernel) (by decide +kernel)
set_option maxRecDepth 20000 in
theorem gX8_ticket_X3_ticketOf : GoodIn wsX8_ticket (wsV RX8 125 RX3 yX3_ticketOf wsX3_ticketOf) := goodIn_app (goodIn_of _ (by decide +kernel)) ggX8_ticket_X3_ticketOf
theorem dX8_ticket_0 : decode cX8_ticket 0 = .ok (.aload_n 0, 1) := by decide +kernel
theorem dX8_ticket_1 : decode cX8_ticket 1 = .ok (.getfield 10, 3) := by decide +kernel
theorem dX8_ticket_4 : decode cX8_ticket 4 = .ok (.iload_n 1, 1) := by decide +kernel
theorem dX8_ticket_5 : decode cX8_ticket 5 = .ok (.invokevirtual 125, 3) := by decide +kernel
theorem dX8_ticket_8 : decode cX8_ticket 8 = .ok (.astore_n 3, 1) := by decide +kernel
theorem dX8_ticket_9 : decode cX8_ticket 9 = .ok (.aload_n 3, 1) := by decide +kernel
theorem dX8_ticket_10 : decode cX8_ticket 10 = .ok (.ifnonnull 5, 3) := by decide +kernel
theorem dX8_ticket_13 : decode cX8_ticket 13 = .ok (.iconst (-1), 1) := by decide +kernel
theorem dX8_ticket_14 : decode cX8_ticket 14 = .ok (.ireturn, 1) := by decide +kernel
theorem dX8_ticket_15 : decode cX8_ticket 15 = .ok (.iload_n 2, 1) := by decide +kernel
theorem dX8_ticket_16 : decode cX8_ticket 16 = .ok (.tableswitch 154 0 13 #[72, 80, 88, 96, 104, 109, 114, 119, 124, 129, 134, 139, 144, 149], 72) := by decide +kernel
theorem dX8_ticket_88 : decode cX8_ticket 88 = .ok (.aload_n 3, 1) := by decide +kernel
theorem dX8_ticket_89 : decode cX8_ticket 89 = .ok (.getfield 161, 3) := by decide +kernel
theorem dX8_ticket_92 : decode cX8_ticket 92 = .ok (.getfield 100, 3) := by decide +kernel
theorem dX8_ticket_95 : decode cX8_ticket 95 = .ok (.ireturn, 1) := by decide +kernel
theorem dX8_ticket_96 : decode cX8_ticket 96 = .ok (.aload_n 3, 1) := by decide +kernel
theorem dX8_ticket_97 : decode cX8_ticket 97 = .ok (.getfield 161, 3) := by decide +kernel
theorem dX8_ticket_100 : decode cX8_ticket 100 = .ok (.getfield 103, 3) := by decide +kernel
theorem dX8_ticket_103 : decode cX8_ticket 103 = .ok (.ireturn, 1) := by decide +kernel
theorem dX8_ticket_104 : decode cX8_ticket 104 = .ok (.aload_n 3, 1) := by decide +kernel
theorem dX8_ticket_105 : decode cX8_ticket 105 = .ok (.getfield 161, 3) := by decide +kernel
theorem dX8_ticket_108 : decode cX8_ticket 108 = .ok (.getfield 106, 3) := by decide +kernel
theorem dX8_ticket_111 : decode cX8_ticket 111 = .ok (.ireturn, 1) := by decide +kernel
theorem dX8_ticket_112 : decode cX8_ticket 112 = .ok (.aload_n 3, 1) := by decide +kernel
theorem dX8_ticket_113 : decode cX8_ticket 113 = .ok (.getfield 161, 3) := by decide +kernel
theorem dX8_ticket_116 : decode cX8_ticket 116 = .ok (.getfield 109, 3) := by decide +kernel
theorem dX8_ticket_119 : decode cX8_ticket 119 = .ok (.ireturn, 1) := by decide +kernel
theorem dX8_ticket_120 : decode cX8_ticket 120 = .ok (.aload_n 3, 1) := by decide +kernel
theorem dX8_ticket_121 : decode cX8_ticket 121 = .ok (.getfield 283, 3) := by decide +kernel
theorem dX8_ticket_124 : decode cX8_ticket 124 = .ok (.ireturn, 1) := by decide +kernel
theorem dX8_ticket_125 : decode cX8_ticket 125 = .ok (.aload_n 3, 1) := by decide +kernel
theorem dX8_ticket_126 : decode cX8_ticket 126 = .ok (.getfield 286, 3) := by decide +kernel
theorem dX8_ticket_129 : decode cX8_ticket 129 = .ok (.ireturn, 1) := by decide +kernel
theorem dX8_ticket_130 : decode cX8_ticket 130 = .ok (.aload_n 3, 1) := by decide +kernel
theorem dX8_ticket_131 : decode cX8_ticket 131 = .ok (.getfield 287, 3) := by decide +kernel
theorem dX8_ticket_134 : decode cX8_ticket 134 = .ok (.ireturn, 1) := by decide +kernel
theorem dX8_ticket_135 : decode cX8_ticket 135 = .ok (.aload_n 3, 1) := by decide +kernel
theorem dX8_ticket_136 : decode cX8_ticket 136 = .ok (.getfield 290, 3) := by decide +kernel
theorem dX8_ticket_139 : decode cX8_ticket 139 = .ok (.ireturn, 1) := by decide +kernel
theorem dX8_ticket_140 : decode cX8_ticket 140 = .ok (.aload_n 3, 1) := by decide +kernel
theorem dX8_ticket_141 : decode cX8_ticket 141 = .ok (.getfield 291, 3) := by decide +kernel
theorem dX8_ticket_144 : decode cX8_ticket 144 = .ok (.ireturn, 1) := by decide +kernel
theorem dX8_ticket_145 : decode cX8_ticket 145 = .ok (.aload_n 3, 1) := by decide +kernel
theorem dX8_ticket_146 : decode cX8_ticket 146 = .ok (.getfield 294, 3) := by decide +kernel
theorem dX8_ticket_149 : decode cX8_ticket 149 = .ok (.ireturn, 1) := by decide +kernel
theorem dX8_ticket_150 : decode cX8_ticket 150 = .ok (.aload_n 3, 1) := by decide +kernel
theorem dX8_ticket_151 : decode cX8_ticket 151 = .ok (.getfield 297, 3) := by decide +kernel
theorem dX8_ticket_154 : decode cX8_ticket 154 = .ok (.ireturn, 1) := by decide +kernel
theorem dX8_ticket_155 : decode cX8_ticket 155 = .ok (.aload_n 3, 1) := by decide +kernel
theorem dX8_ticket_156 : decode cX8_ticket 156 = .ok (.getfield 300, 3) := by decide +kernel
theorem dX8_ticket_159 : decode cX8_ticket 159 = .ok (.ireturn, 1) := by decide +kernel
theorem dX8_ticket_160 : decode cX8_ticket 160 = .ok (.aload_n 3, 1) := by decide +kernel
theorem dX8_ticket_161 : decode cX8_ticket 161 = .ok (.getfield 303, 3) := by decide +kernel
theorem dX8_ticket_164 : decode cX8_ticket 164 = .ok (.ireturn, 1) := by decide +kernel
theorem dX8_ticket_165 : decode cX8_ticket 165 = .ok (.aload_n 3, 1) := by decide +kernel
theorem dX8_ticket_166 : decode cX8_ticket 166 = .ok (.getfield 306, 3) := by decide +kernel
theorem dX8_ticket_169 : decode cX8_ticket 169 = .ok (.ireturn, 1) := by decide +kernel
theorem dX8_ticket_170 : decode cX8_ticket 170 = .ok (.bipush (-2), 2) := by decide +kernel
theorem dX8_ticket_172 : decode cX8_ticket 172 = .ok (.ireturn, 1) := by decide +kernel
set_option maxRecDepth 20000 in
theorem ggX8_ordered_X3_orderOf : GoodIn wsX8_ordered wsX3_orderOf := goodIn_r _ [14, 15, 16, 17, 18, 19, 39, 40, 41, 42, 43, 44, 45, 46, 47, 48, 49, 50, 51, 52] (by decide +kernel) (by decide +kernel)
set_option maxRecDepth 20000 in
theorem gX8_ordered_X3_orderOf : GoodIn wsX8_ordered (wsV RX8 168 RX3 yX3_orderOf wsX3_orderOf) := goodIn_app (goodIn_of _ (by decide +kernel)) ggX8_ordered_X3_orderOf
theorem dX8_ordered_0 : decode cX8_ordered 0 = .ok (.aload_n 0, 1) := by decide +kernel
theorem dX8_ordered_1 : decode cX8_ordered 1 = .ok (.getfield 10, 3) := by decide +kernel
theorem dX8_ordered_4 : decode cX8_ordered 4 = .ok (.iload_n 1, 1) := by decide +kernel
theorem dX8_ordered_5 : decode cX8_ordered 5 = .ok (.invokevirtual 168, 3) := by decide +kernel
theorem dX8_ordered_8 : decode cX8_ordered 8 = .ok (.astore_n 3, 1) := by decide +kernel
theorem dX8_ordered_9 : decode cX8_ordered 9 = .ok (.aload_n 3, 1) := by decide +kernel
theorem dX8_ordered_10 : decode cX8_ordered 10 = .ok (.ifnonnull 5, 3) := by decide +kernel
theorem dX8_ordered_13 : decode cX8_ordered 13 = .ok (.iconst (-1), 1) := by decide +kernel
theorem dX8_ordered_14 : decode cX8_ordered 14 = .ok (.ireturn, 1) := by decide +kernel
theorem dX8_ordered_15 : decode cX8_ordered 15 = .ok (.iload_n 2, 1) := by decide +kernel
theorem dX8_ordered_16 : decode cX8_ordered 16 = .ok (.tableswitch 93 0 6 #[44, 49, 54, 59, 64, 77, 85], 44) := by decide +kernel
theorem dX8_ordered_60 : decode cX8_ordered 60 = .ok (.aload_n 3, 1) := by decide +kernel
theorem dX8_ordered_61 : decode cX8_ordered 61 = .ok (.getfield 309, 3) := by decide +kernel
theorem dX8_ordered_64 : decode cX8_ordered 64 = .ok (.ireturn, 1) := by decide +kernel
theorem dX8_ordered_65 : decode cX8_ordered 65 = .ok (.aload_n 3, 1) := by decide +kernel
theorem dX8_ordered_66 : decode cX8_ordered 66 = .ok (.getfield 312, 3) := by decide +kernel
theorem dX8_ordered_69 : decode cX8_ordered 69 = .ok (.ireturn, 1) := by decide +kernel
theorem dX8_ordered_70 : decode cX8_ordered 70 = .ok (.aload_n 3, 1) := by decide +kernel
theorem dX8_ordered_71 : decode cX8_ordered 71 = .ok (.getfield 178, 3) := by decide +kernel
theorem dX8_ordered_74 : decode cX8_ordered 74 = .ok (.ireturn, 1) := by decide +kernel
theorem dX8_ordered_75 : decode cX8_ordered 75 = .ok (.aload_n 3, 1) := by decide +kernel
theorem dX8_ordered_76 : decode cX8_ordered 76 = .ok (.getfield 315, 3) := by decide +kernel
theorem dX8_ordered_79 : decode cX8_ordered 79 = .ok (.ireturn, 1) := by decide +kernel
theorem dX8_ordered_80 : decode cX8_ordered 80 = .ok (.aload_n 3, 1) := by decide +kernel
theorem dX8_ordered_81 : decode cX8_ordered 81 = .ok (.getfield 172, 3) := by decide +kernel
theorem dX8_ordered_84 : decode cX8_ordered 84 = .ok (.ifCond .eq 7, 3) := by decide +kernel
theorem dX8_ordered_87 : decode cX8_ordered 87 = .ok (.iconst 1, 1) := by decide +kernel
theorem dX8_ordered_88 : decode cX8_ordered 88 = .ok (.goto 4, 3) := by decide +kernel
theorem dX8_ordered_91 : decode cX8_ordered 91 = .ok (.iconst 0, 1) := by decide +kernel
theorem dX8_ordered_92 : decode cX8_ordered 92 = .ok (.ireturn, 1) := by decide +kernel
theorem dX8_ordered_93 : decode cX8_ordered 93 = .ok (.aload_n 3, 1) := by decide +kernel
theorem dX8_ordered_94 : decode cX8_ordered 94 = .ok (.getfield 316, 3) := by decide +kernel
theorem dX8_ordered_97 : decode cX8_ordered 97 = .ok (.getfield 100, 3) := by decide +kernel
theorem dX8_ordered_100 : decode cX8_ordered 100 = .ok (.ireturn, 1) := by decide +kernel
theorem dX8_ordered_101 : decode cX8_ordered 101 = .ok (.aload_n 3, 1) := by decide +kernel
theorem dX8_ordered_102 : decode cX8_ordered 102 = .ok (.getfield 316, 3) := by decide +kernel
theorem dX8_ordered_105 : decode cX8_ordered 105 = .ok (.getfield 106, 3) := by decide +kernel
theorem dX8_ordered_108 : decode cX8_ordered 108 = .ok (.ireturn, 1) := by decide +kernel
theorem dX8_ordered_109 : decode cX8_ordered 109 = .ok (.bipush (-2), 2) := by decide +kernel
theorem dX8_ordered_111 : decode cX8_ordered 111 = .ok (.ireturn, 1) := by decide +kernel
set_option maxRecDepth 20000 in
theorem ggX8_price_X8_within : GoodIn wsX8_price wsX8_within := goodIn_r _ [5] (by decide +kernel) (by decide +kernel)
set_option maxRecDepth 20000 in
theorem gX8_price_X8_within : GoodIn wsX8_price (va_wsS RX8 46 yX8_within wsX8_within) := goodIn_app (goodIn_of _ (by decide +kernel)) ggX8_price_X8_within
set_option maxRecDepth 20000 in
theorem ggX8_price_X3_priceOf : GoodIn wsX8_price wsX3_priceOf := goodIn_r _ [10, 11, 20, 21, 22, 23, 24, 25, 26, 27, 28, 29, 30, 31, 32, 33] (by decide +kernel) (by decide +kernel)
set_option maxRecDepth 20000 in
theorem gX8_price_X3_priceOf : GoodIn wsX8_price (wsV RX8 317 RX3 yX3_priceOf wsX3_priceOf) := goodIn_app (goodIn_of _ (by decide +kernel)) ggX8_price_X3_priceOf
theorem dX8_price_0 : decode cX8_price 0 = .ok (.iload_n 1, 1) := by decide +kernel
theorem dX8_price_1 : decode cX8_price 1 = .ok (.iconst 1, 1) := by decide +kernel
theorem dX8_price_2 : decode cX8_price 2 = .ok (.iconst 3, 1) := by decide +kernel
theorem dX8_price_3 : decode cX8_price 3 = .ok (.invokestatic 46, 3) := by decide +kernel
theorem dX8_price_6 : decode cX8_price 6 = .ok (.ifCond .eq 13, 3) := by decide +kernel
theorem dX8_price_9 : decode cX8_price 9 = .ok (.iload_n 2, 1) := by decide +kernel
theorem dX8_price_10 : decode cX8_price 10 = .ok (.iconst 1, 1) := by decide +kernel
theorem dX8_price_11 : decode cX8_price 11 = .ok (.bipush 9, 2) := by decide +kernel
theorem dX8_price_13 : decode cX8_price 13 = .ok (.invokestatic 46, 3) := by decide +kernel
theorem dX8_price_16 : decode cX8_price 16 = .ok (.ifCond .ne 6, 3) := by decide +kernel
theorem dX8_price_19 : decode cX8_price 19 = .ok (.bipush (-2), 2) := by decide +kernel
theorem dX8_price_21 : decode cX8_price 21 = .ok (.ireturn, 1) := by decide +kernel
theorem dX8_price_22 : decode cX8_price 22 = .ok (.aload_n 0, 1) := by decide +kernel
theorem dX8_price_23 : decode cX8_price 23 = .ok (.getfield 10, 3) := by decide +kernel
theorem dX8_price_26 : decode cX8_price 26 = .ok (.iload_n 1, 1) := by decide +kernel
theorem dX8_price_27 : decode cX8_price 27 = .ok (.iload_n 2, 1) := by decide +kernel
theorem dX8_price_28 : decode cX8_price 28 = .ok (.invokevirtual 317, 3) := by decide +kernel
theorem dX8_price_31 : decode cX8_price 31 = .ok (.ireturn, 1) := by decide +kernel
set_option maxRecDepth 20000 in
theorem ggX8_fate_X3_ticketOf : GoodIn wsX8_fate wsX3_ticketOf := goodIn_r _ [7, 8, 9, 10, 11, 12, 305, 306, 307, 308, 309, 310, 311, 312, 313, 314, 315, 316, 317, 318] (by decide +kernel) (by decide +kernel)
set_option maxRecDepth 20000 in
theorem gX8_fate_X3_ticketOf : GoodIn wsX8_fate (wsV RX8 125 RX3 yX3_ticketOf wsX3_ticketOf) := goodIn_app (goodIn_of _ (by decide +kernel)) ggX8_fate_X3_ticketOf
set_option maxRecDepth 20000 in
theorem ggX8_fate_X8_within : GoodIn wsX8_fate wsX8_within := goodIn_r _ [12] (by decide +kernel) (by decide +kernel)
set_option maxRecDepth 20000 in
theorem gX8_fate_X8_within : GoodIn wsX8_fate (va_wsS RX8 46 yX8_within wsX8_within) := goodIn_app (goodIn_of _ (by decide +kernel)) ggX8_fate_X8_within
set_option maxRecDepth 20000 in
theorem ggX8_fate_X5_hasEnded : GoodIn wsX8_fate wsX5_hasEnded := goodIn_r _ [18, 19, 319, 320, 321, 322, 323, 324, 325, 326, 327, 328, 329, 330, 331, 332] (by decide +kernel) (by decide +kernel)
set_option maxRecDepth 20000 in
theorem gX8_fate_X5_hasEnded : GoodIn wsX8_fate (wsV RX8 129 RX5 yX5_hasEnded wsX5_hasEnded) := goodIn_app (goodIn_of _ (by decide +kernel)) ggX8_fate_X5_hasEnded
set_option maxRecDepth 20000 in
theorem ggX8_fate_X3_copyFrom : GoodIn wsX8_fate wsX3_copyFrom := goodIn_r _ [23, 24, 25, 9, 26, 27, 8, 28, 29, 30, 31, 32, 33, 34, 35, 36, 37, 38, 39, 40, 41, 42, 43, 44, 45, 46, 47, 48, 49, 50, 51, 52, 53, 54, 55, 56, 57, 58, 59, 60, 61, 62, 63, 64, 65, 66, 67, 68, 69, 17, 70, 71, 72, 73, 19, 74, 75, 76, 77, 78, 79, 80, 81, 82, 83, 84, 85, 86, 87, 88, 89, 90, 91, 92, 93, 94, 95, 96, 97, 98, 99, 100, 101, 102, 103, 104, 105, 106, 107, 108, 109, 110, 111, 112, 113, 305, 306, 307, 308, 309, 310, 311, 312, 313, 314, 315, 316, 317, 318, 333, 334, 335, 336, 337, 338, 339, 340, 341, 342, 343, 344, 345, 346, 347, 348, 349, 350, 351, 352, 319, 320, 321, 322, 323, 324, 325, 326, 327, 328, 329, 330, 331, 332, 353, 354, 355, 356, 357, 358, 359, 360, 361, 362, 363, 364, 365, 366] (by decide +kernel) (by decide +kernel)
set_option maxRecDepth 20000 in
theorem gX8_fate_X3_copyFrom : GoodIn wsX8_fate (wsV RX8 213 RX3 yX3_copyFrom wsX3_copyFrom) := goodIn_app (goodIn_of _ (by decide +kernel)) ggX8_fate_X3_copyFrom
set_option maxRecDepth 20000 in
theorem ggX8_fate_X3_passTick : GoodIn wsX8_fate wsX3_passTick := goodIn_r _ [117, 24, 25, 29, 118, 119, 120, 6, 121, 28, 26, 122, 123, 124, 96, 125, 103, 99, 100, 126, 127, 128, 129, 130, 131, 132, 133, 134, 135, 136, 8, 137, 138, 139, 140, 9, 141, 142, 32, 10, 11, 12, 143, 144, 145, 146, 30, 147, 148, 149, 17, 150, 71, 151, 72, 73, 19, 74, 75, 76, 77, 78, 79, 80, 81, 82, 83, 84, 85, 86, 87, 88, 89, 90, 91, 92, 152, 153, 154, 155, 156, 157, 158, 159, 160, 161, 162, 163, 164, 165, 166, 167, 168, 39, 169, 49, 170, 171, 172, 173, 48, 174, 175, 176, 177, 41, 178, 4, 5, 7, 179, 180, 181, 182, 183, 184, 185, 186, 187, 27, 188, 189, 190, 191, 192, 193, 194, 195, 35, 33, 196, 197, 198, 199, 108, 200, 113, 110, 112, 201, 202, 203, 204, 205, 206, 207, 57, 208, 61, 209, 210, 211, 212, 59, 213, 214, 215, 216, 217, 218, 219, 220, 34, 221, 222, 223, 224, 225, 226, 227, 228, 229, 230, 231, 232, 233, 234, 235, 236, 237, 238, 239, 240, 241, 242, 243, 244, 245, 246, 247, 248, 249, 250, 251, 252, 253, 254, 255, 256, 257, 258, 259, 260, 261, 262, 263, 264, 265, 266, 267, 268, 269, 270, 271, 31, 272, 273, 274, 275, 276, 277, 278, 279, 280, 281, 282, 283, 284, 285, 286, 287, 288, 289, 290, 50, 51, 52, 53, 305, 306, 307, 308, 309, 310, 311, 312, 313, 314, 315, 316, 317, 318, 358, 359, 360, 361, 362, 363, 353, 354, 355, 356, 357, 319, 320, 321, 322, 323, 324, 325, 326, 327, 328, 329, 330, 331, 332, 333, 334, 335, 336, 337, 338, 339, 340, 341, 342, 343, 344, 345, 346, 347, 348, 349, 350, 351, 352, 364, 365, 366] (by decide +kernel) (by decide +kernel)
set_option maxRecDepth 20000 in
theorem gX8_fate_X3_passTick : GoodIn wsX8_fate (wsV RX8 184 RX3 yX3_passTick wsX3_passTick) := goodIn_app (goodIn_of _ (by decide +kernel)) ggX8_fate_X3_passTick
set_option maxRecDepth 20000 in
theorem ggX8_fate_X8_fateTold : GoodIn wsX8_fate wsX8_fateTold := goodIn_r _ [293, 294, 295, 296, 319, 320, 321, 322, 323, 324, 325, 326, 327, 328, 329, 330, 331, 332] (by decide +kernel) (by decide +kernel)
set_option maxRecDepth 20000 in
theorem gX8_fate_X8_fateTold : GoodIn wsX8_fate (va_wsS RX8 321 yX8_fateTold wsX8_fateTold) := goodIn_app (goodIn_of _ (by decide +kernel)) ggX8_fate_X8_fateTold
theorem dX8_fate_0 : decode cX8_fate 0 = .ok (.aload_n 0, 1) := by decide +kernel
theorem dX8_fate_1 : decode cX8_fate 1 = .ok (.getfield 10, 3) := by decide +kernel
theorem dX8_fate_4 : decode cX8_fate 4 = .ok (.iload_n 1, 1) := by decide +kernel
theorem dX8_fate_5 : decode cX8_fate 5 = .ok (.invokevirtual 125, 3) := by decide +kernel
theorem dX8_fate_8 : decode cX8_fate 8 = .ok (.astore_n 3, 1) := by decide +kernel
theorem dX8_fate_9 : decode cX8_fate 9 = .ok (.aload_n 3, 1) := by decide +kernel
theorem dX8_fate_10 : decode cX8_fate 10 = .ok (.ifnonnull 5, 3) := by decide +kernel
theorem dX8_fate_13 : decode cX8_fate 13 = .ok (.iconst (-1), 1) := by decide +kernel
theorem dX8_fate_14 : decode cX8_fate 14 = .ok (.ireturn, 1) := by decide +kernel
theorem dX8_fate_15 : decode cX8_fate 15 = .ok (.iload_n 2, 1) := by decide +kernel
theorem dX8_fate_16 : decode cX8_fate 16 = .ok (.iconst 0, 1) := by decide +kernel
theorem dX8_fate_17 : decode cX8_fate 17 = .ok (.iconst 3, 1) := by decide +kernel
theorem dX8_fate_18 : decode cX8_fate 18 = .ok (.invokestatic 46, 3) := by decide +kernel
theorem dX8_fate_21 : decode cX8_fate 21 = .ok (.ifCond .ne 6, 3) := by decide +kernel
theorem dX8_fate_24 : decode cX8_fate 24 = .ok (.bipush (-2), 2) := by decide +kernel
theorem dX8_fate_26 : decode cX8_fate 26 = .ok (.ireturn, 1) := by decide +kernel
theorem dX8_fate_27 : decode cX8_fate 27 = .ok (.aload_n 3, 1) := by decide +kernel
theorem dX8_fate_28 : decode cX8_fate 28 = .ok (.invokevirtual 129, 3) := by decide +kernel
theorem dX8_fate_31 : decode cX8_fate 31 = .ok (.ifCond .eq 6, 3) := by decide +kernel
theorem dX8_fate_34 : decode cX8_fate 34 = .ok (.bipush (-4), 2) := by decide +kernel
theorem dX8_fate_36 : decode cX8_fate 36 = .ok (.ireturn, 1) := by decide +kernel
theorem dX8_fate_37 : decode cX8_fate 37 = .ok (.aload_n 0, 1) := by decide +kernel
theorem dX8_fate_38 : decode cX8_fate 38 = .ok (.getfield 19, 3) := by decide +kernel
theorem dX8_fate_41 : decode cX8_fate 41 = .ok (.aload_n 0, 1) := by decide +kernel
theorem dX8_fate_42 : decode cX8_fate 42 = .ok (.getfield 10, 3) := by decide +kernel
theorem dX8_fate_45 : decode cX8_fate 45 = .ok (.invokevirtual 213, 3) := by decide +kernel
theorem dX8_fate_48 : decode cX8_fate 48 = .ok (.aload_n 0, 1) := by decide +kernel
theorem dX8_fate_49 : decode cX8_fate 49 = .ok (.getfield 19, 3) := by decide +kernel
theorem dX8_fate_52 : decode cX8_fate 52 = .ok (.iload_n 1, 1) := by decide +kernel
theorem dX8_fate_53 : decode cX8_fate 53 = .ok (.invokevirtual 125, 3) := by decide +kernel
theorem dX8_fate_56 : decode cX8_fate 56 = .ok (.astore 4, 2) := by decide +kernel
theorem dX8_fate_58 : decode cX8_fate 58 = .ok (.iconst 1, 1) := by decide +kernel
theorem dX8_fate_59 : decode cX8_fate 59 = .ok (.istore 5, 2) := by decide +kernel
theorem dX8_fate_61 : decode cX8_fate 61 = .ok (.aload 4, 2) := by decide +kernel
theorem dX8_fate_63 : decode cX8_fate 63 = .ok (.ifnull 41, 3) := by decide +kernel
theorem dX8_fate_66 : decode cX8_fate 66 = .ok (.iload 5, 2) := by decide +kernel
theorem dX8_fate_68 : decode cX8_fate 68 = .ok (.sipush 300, 3) := by decide +kernel
theorem dX8_fate_71 : decode cX8_fate 71 = .ok (.if_icmp .gt 33, 3) := by decide +kernel
theorem dX8_fate_74 : decode cX8_fate 74 = .ok (.aload_n 0, 1) := by decide +kernel
theorem dX8_fate_75 : decode cX8_fate 75 = .ok (.getfield 19, 3) := by decide +kernel
theorem dX8_fate_78 : decode cX8_fate 78 = .ok (.invokevirtual 184, 3) := by decide +kernel
theorem dX8_fate_81 : decode cX8_fate 81 = .ok (.aload 4, 2) := by decide +kernel
theorem dX8_fate_83 : decode cX8_fate 83 = .ok (.invokevirtual 129, 3) := by decide +kernel
theorem dX8_fate_86 : decode cX8_fate 86 = .ok (.ifCond .eq 12, 3) := by decide +kernel
theorem dX8_fate_89 : decode cX8_fate 89 = .ok (.aload 4, 2) := by decide +kernel
theorem dX8_fate_91 : decode cX8_fate 91 = .ok (.iload_n 2, 1) := by decide +kernel
theorem dX8_fate_92 : decode cX8_fate 92 = .ok (.iload 5, 2) := by decide +kernel
theorem dX8_fate_94 : decode cX8_fate 94 = .ok (.invokestatic 321, 3) := by decide +kernel
theorem dX8_fate_97 : decode cX8_fate 97 = .ok (.ireturn, 1) := by decide +kernel
theorem dX8_fate_98 : decode cX8_fate 98 = .ok (.iinc 5 1, 3) := by decide +kernel
theorem dX8_fate_101 : decode cX8_fate 101 = .ok (.goto (-40), 3) := by decide +kernel
theorem dX8_fate_104 : decode cX8_fate 104 = .ok (.bipush (-5), 2) := by decide +kernel
theorem dX8_fate_106 : decode cX8_fate 106 = .ok (.ireturn, 1) := by decide +kernel
theorem dX8_fateTold_0 : decode cX8_fateTold 0 = .ok (.iload_n 1, 1) := by decide +kernel
theorem dX8_fateTold_1 : decode cX8_fateTold 1 = .ok (.tableswitch 39 0 2 #[27, 32, 34], 27) := by decide +kernel
theorem dX8_fateTold_28 : decode cX8_fateTold 28 = .ok (.aload_n 0, 1) := by decide +kernel
theorem dX8_fateTold_29 : decode cX8_fateTold 29 = .ok (.getfield 287, 3) := by decide +kernel
theorem dX8_fateTold_32 : decode cX8_fateTold 32 = .ok (.ireturn, 1) := by decide +kernel
theorem dX8_fateTold_33 : decode cX8_fateTold 33 = .ok (.iload_n 2, 1) := by decide +kernel
theorem dX8_fateTold_34 : decode cX8_fateTold 34 = .ok (.ireturn, 1) := by decide +kernel
theorem dX8_fateTold_35 : decode cX8_fateTold 35 = .ok (.aload_n 0, 1) := by decide +kernel
theorem dX8_fateTold_36 : decode cX8_fateTold 36 = .ok (.getfield 303, 3) := by decide +kernel
theorem dX8_fateTold_39 : decode cX8_fateTold 39 = .ok (.ireturn, 1) := by decide +kernel
theorem dX8_fateTold_40 : decode cX8_fateTold 40 = .ok (.aload_n 0, 1) := by decide +kernel
theorem dX8_fateTold_41 : decode cX8_fateTold 41 = .ok (.getfield 283, 3) := by decide +kernel
theorem dX8_fateTold_44 : decode cX8_fateTold 44 = .ok (.ireturn, 1) := by decide +kernel
set_option maxRecDepth 20000 in
theorem ggX8_slotIn_X3_stationOf : GoodIn wsX8_slotIn wsX3_stationOf := goodIn_r _ [8, 9, 10, 11, 12, 13, 14, 7, 15, 16, 17, 18, 19, 20, 21, 22, 23, 24, 90, 91, 92, 93, 94, 95, 96, 97, 98, 99, 100, 101, 102, 103, 104, 105, 106, 107, 108, 109, 110, 111, 112, 113] (by decide +kernel) (by decide +kernel)
set_option maxRecDepth 20000 in
theorem gX8_slotIn_X3_stationOf : GoodIn wsX8_slotIn (wsV RX8 139 RX3 yX3_stationOf wsX3_stationOf) := goodIn_app (goodIn_of _ (by decide +kernel)) ggX8_slotIn_X3_stationOf
set_option maxRecDepth 20000 in
theorem ggX8_slotIn_X8_within : GoodIn wsX8_slotIn wsX8_within := goodIn_r _ [11] (by decide +kernel) (by decide +kernel)
set_option maxRecDepth 20000 in
theorem gX8_slotIn_X8_within : GoodIn wsX8_slotIn (va_wsS RX8 46 yX8_within wsX8_within) := goodIn_app (goodIn_of _ (by decide +kernel)) ggX8_slotIn_X8_within
set_option maxRecDepth 20000 in
theorem ggX8_slotIn_X8_trialLine : GoodIn wsX8_slotIn wsX8_trialLine := goodIn_r _ [29, 30, 1, 31, 13, 14, 7, 15, 16, 17, 32, 33, 34, 21, 35, 36, 37, 38, 39, 40, 24, 23, 41, 42, 43, 44, 45, 46, 47, 48, 49, 50, 51, 52, 53, 54, 55, 56, 57, 58, 59, 72, 73, 74, 75, 76, 77, 78, 79, 90, 91, 92, 93, 94, 95, 96, 97, 98, 99, 100, 101, 102, 103, 104, 105, 106, 107, 108, 109, 110, 111, 112, 113, 80, 81, 82, 83, 84, 85, 86, 87, 88, 89] (by decide +kernel) (by decide +kernel)
set_option maxRecDepth 20000 in
theorem gX8_slotIn_X8_trialLine : GoodIn wsX8_slotIn (wsV RX8 325 RX8 yX8_trialLine wsX8_trialLine) := goodIn_app (goodIn_of _ (by decide +kernel)) ggX8_slotIn_X8_trialLine
set_option maxRecDepth 20000 in
theorem ggX8_slotIn_X0_advance : GoodIn wsX8_slotIn wsX0_advance := goodIn_r _ [63, 43, 44, 45, 46, 42, 64, 65, 66, 21, 67, 41, 104, 105, 106, 107, 108, 109, 110, 111, 112, 113] (by decide +kernel) (by decide +kernel)
set_option maxRecDepth 20000 in
theorem gX8_slotIn_X0_advance : GoodIn wsX8_slotIn (wsV RX8 328 RX0 yX0_advance wsX0_advance) := goodIn_app (goodIn_of _ (by decide +kernel)) ggX8_slotIn_X0_advance
set_option maxRecDepth 20000 in
theorem ggX8_slotIn_X0_slotAt : GoodIn wsX8_slotIn wsX0_slotAt := goodIn_r _ [71, 42, 64, 65, 66, 21, 67, 41, 104, 105, 106, 107, 108, 109, 110, 111, 112, 113] (by decide +kernel) (by decide +kernel)
set_option maxRecDepth 20000 in
theorem gX8_slotIn_X0_slotAt : GoodIn wsX8_slotIn (wsV RX8 251 RX0 yX0_slotAt wsX0_slotAt) := goodIn_app (goodIn_of _ (by decide +kernel)) ggX8_slotIn_X0_slotAt
theorem dX8_slotIn_0 : decode cX8_slotIn 0 = .ok (.aload_n 0, 1) := by decide +kernel
theorem dX8_slotIn_1 : decode cX8_slotIn 1 = .ok (.getfield 10, 3) := by decide +kernel
theorem dX8_slotIn_4 : decode cX8_slotIn 4 = .ok (.iload_n 1, 1) := by decide +kernel
theorem dX8_slotIn_5 : decode cX8_slotIn 5 = .ok (.invokevirtual 139, 3) := by decide +kernel
theorem dX8_slotIn_8 : decode cX8_slotIn 8 = .ok (.astore_n 3, 1) := by decide +kernel
theorem dX8_slotIn_9 : decode cX8_slotIn 9 = .ok (.aload_n 3, 1) := by decide +kernel
theorem dX8_slotIn_10 : decode cX8_slotIn 10 = .ok (.ifnonnull 5, 3) := by decide +kernel
theorem dX8_slotIn_13 : decode cX8_slotIn 13 = .ok (.iconst (-1), 1) := by decide +kernel
theorem dX8_slotIn_14 : decode cX8_slotIn 14 = .ok (.ireturn, 1) := by decide +kernel
theorem dX8_slotIn_15 : decode cX8_slotIn 15 = .ok (.iload_n 2, 1) := by decide +kernel
theorem dX8_slotIn_16 : decode cX8_slotIn 16 = .ok (.iconst 0, 1) := by decide +kernel
theorem dX8_slotIn_17 : decode cX8_slotIn 17 = .ok (.sipush 300, 3) := by decide +kernel
theorem dX8_slotIn_20 : decode cX8_slotIn 20 = .ok (.invokestatic 46, 3) := by decide +kernel
theorem dX8_slotIn_23 : decode cX8_slotIn 23 = .ok (.ifCond .ne 6, 3) := by decide +kernel
theorem dX8_slotIn_26 : decode cX8_slotIn 26 = .ok (.bipush (-2), 2) := by decide +kernel
theorem dX8_slotIn_28 : decode cX8_slotIn 28 = .ok (.ireturn, 1) := by decide +kernel
theorem dX8_slotIn_29 : decode cX8_slotIn 29 = .ok (.aload_n 0, 1) := by decide +kernel
theorem dX8_slotIn_30 : decode cX8_slotIn 30 = .ok (.aload_n 3, 1) := by decide +kernel
theorem dX8_slotIn_31 : decode cX8_slotIn 31 = .ok (.getfield 248, 3) := by decide +kernel
theorem dX8_slotIn_34 : decode cX8_slotIn 34 = .ok (.invokevirtual 325, 3) := by decide +kernel
theorem dX8_slotIn_37 : decode cX8_slotIn 37 = .ok (.astore 4, 2) := by decide +kernel
theorem dX8_slotIn_39 : decode cX8_slotIn 39 = .ok (.iconst 0, 1) := by decide +kernel
theorem dX8_slotIn_40 : decode cX8_slotIn 40 = .ok (.istore 5, 2) := by decide +kernel
theorem dX8_slotIn_42 : decode cX8_slotIn 42 = .ok (.iload 5, 2) := by decide +kernel
theorem dX8_slotIn_44 : decode cX8_slotIn 44 = .ok (.iload_n 2, 1) := by decide +kernel
theorem dX8_slotIn_45 : decode cX8_slotIn 45 = .ok (.if_icmp .ge 15, 3) := by decide +kernel
theorem dX8_slotIn_48 : decode cX8_slotIn 48 = .ok (.aload 4, 2) := by decide +kernel
theorem dX8_slotIn_50 : decode cX8_slotIn 50 = .ok (.invokevirtual 328, 3) := by decide +kernel
theorem dX8_slotIn_53 : decode cX8_slotIn 53 = .ok (.pop, 1) := by decide +kernel
theorem dX8_slotIn_54 : decode cX8_slotIn 54 = .ok (.iinc 5 1, 3) := by decide +kernel
theorem dX8_slotIn_57 : decode cX8_slotIn 57 = .ok (.goto (-15), 3) := by decide +kernel
theorem dX8_slotIn_60 : decode cX8_slotIn 60 = .ok (.aload 4, 2) := by decide +kernel
theorem dX8_slotIn_62 : decode cX8_slotIn 62 = .ok (.aload_n 3, 1) := by decide +kernel
theorem dX8_slotIn_63 : decode cX8_slotIn 63 = .ok (.getfield 245, 3) := by decide +kernel
theorem dX8_slotIn_66 : decode cX8_slotIn 66 = .ok (.invokevirtual 251, 3) := by decide +kernel
theorem dX8_slotIn_69 : decode cX8_slotIn 69 = .ok (.ireturn, 1) := by decide +kernel
set_option maxRecDepth 20000 in
theorem ggX8_lapsNeeded_X3_stationOf : GoodIn wsX8_lapsNeeded wsX3_stationOf := goodIn_r _ [8, 9, 10, 11, 12, 13, 14, 7, 15, 16, 17, 18, 19, 20, 21, 22, 23, 24, 92, 93, 94, 95, 96, 97, 98, 99, 100, 101, 102, 103, 104, 105, 106, 107, 108, 109, 110, 111, 112, 113, 114, 115] (by decide +kernel) (by decide +kernel)
set_option maxRecDepth 20000 in
theorem gX8_lapsNeeded_X3_stationOf : GoodIn wsX8_lapsNeeded (wsV RX8 139 RX3 yX3_stationOf wsX3_stationOf) := goodIn_app (goodIn_of _ (by decide +kernel)) ggX8_lapsNeeded_X3_stationOf
set_option maxRecDepth 20000 in
theorem ggX8_lapsNeeded_X8_trialLine : GoodIn wsX8_lapsNeeded wsX8_trialLine := goodIn_r _ [28, 29, 1, 30, 13, 14, 7, 15, 16, 17, 31, 32, 33, 21, 34, 35, 36, 37, 38, 39, 24, 23, 40, 41, 42, 43, 44, 45, 46, 47, 48, 49, 50, 51, 52, 53, 54, 55, 56, 57, 58, 74, 75, 76, 77, 78, 79, 80, 81, 92, 93, 94, 95, 96, 97, 98, 99, 100, 101, 102, 103, 104, 105, 106, 107, 108, 109, 110, 111, 112, 113, 114, 115, 82, 83, 84, 85, 86, 87, 88, 89, 90, 91] (by decide +kernel) (by decide +kernel)
set_option maxRecDepth 20000 in
theorem gX8_lapsNeeded_X8_trialLine : GoodIn wsX8_lapsNeeded (wsV RX8 325 RX8 yX8_trialLine wsX8_trialLine) := goodIn_app (goodIn_of _ (by decide +kernel)) ggX8_lapsNeeded_X8_trialLine
set_option maxRecDepth 20000 in
theorem ggX8_lapsNeeded_X8_fewestLaps : GoodIn wsX8_lapsNeeded wsX8_fewestLaps := goodIn_r _ [61, 62, 63, 64, 21, 65, 41, 66, 67, 68, 69, 40, 70, 71, 72, 73, 42, 43, 44, 45, 106, 107, 108, 109, 110, 111, 112, 113, 114, 115] (by decide +kernel) (by decide +kernel)
set_option maxRecDepth 20000 in
theorem gX8_lapsNeeded_X8_fewestLaps : GoodIn wsX8_lapsNeeded (va_wsS RX8 331 yX8_fewestLaps wsX8_fewestLaps) := goodIn_app (goodIn_of _ (by decide +kernel)) ggX8_lapsNeeded_X8_fewestLaps
theorem dX8_lapsNeeded_0 : decode cX8_lapsNeeded 0 = .ok (.aload_n 0, 1) := by decide +kernel
theorem dX8_lapsNeeded_1 : decode cX8_lapsNeeded 1 = .ok (.getfield 10, 3) := by decide +kernel
theorem dX8_lapsNeeded_4 : decode cX8_lapsNeeded 4 = .ok (.iload_n 1, 1) := by decide +kernel
theorem dX8_lapsNeeded_5 : decode cX8_lapsNeeded 5 = .ok (.invokevirtual 139, 3) := by decide +kernel
theorem dX8_lapsNeeded_8 : decode cX8_lapsNeeded 8 = .ok (.astore_n 3, 1) := by decide +kernel
theorem dX8_lapsNeeded_9 : decode cX8_lapsNeeded 9 = .ok (.aload_n 0, 1) := by decide +kernel
theorem dX8_lapsNeeded_10 : decode cX8_lapsNeeded 10 = .ok (.getfield 10, 3) := by decide +kernel
theorem dX8_lapsNeeded_13 : decode cX8_lapsNeeded 13 = .ok (.iload_n 2, 1) := by decide +kernel
theorem dX8_lapsNeeded_14 : decode cX8_lapsNeeded 14 = .ok (.invokevirtual 139, 3) := by decide +kernel
theorem dX8_lapsNeeded_17 : decode cX8_lapsNeeded 17 = .ok (.astore 4, 2) := by decide +kernel
theorem dX8_lapsNeeded_19 : decode cX8_lapsNeeded 19 = .ok (.aload_n 3, 1) := by decide +kernel
theorem dX8_lapsNeeded_20 : decode cX8_lapsNeeded 20 = .ok (.ifnull 8, 3) := by decide +kernel
theorem dX8_lapsNeeded_23 : decode cX8_lapsNeeded 23 = .ok (.aload 4, 2) := by decide +kernel
theorem dX8_lapsNeeded_25 : decode cX8_lapsNeeded 25 = .ok (.ifnonnull 5, 3) := by decide +kernel
theorem dX8_lapsNeeded_28 : decode cX8_lapsNeeded 28 = .ok (.iconst (-1), 1) := by decide +kernel
theorem dX8_lapsNeeded_29 : decode cX8_lapsNeeded 29 = .ok (.ireturn, 1) := by decide +kernel
theorem dX8_lapsNeeded_30 : decode cX8_lapsNeeded 30 = .ok (.iload_n 1, 1) := by decide +kernel
theorem dX8_lapsNeeded_31 : decode cX8_lapsNeeded 31 = .ok (.iload_n 2, 1) := by decide +kernel
theorem dX8_lapsNeeded_32 : decode cX8_lapsNeeded 32 = .ok (.if_icmp .eq 15, 3) := by decide +kernel
theorem dX8_lapsNeeded_35 : decode cX8_lapsNeeded 35 = .ok (.aload_n 3, 1) := by decide +kernel
theorem dX8_lapsNeeded_36 : decode cX8_lapsNeeded 36 = .ok (.getfield 248, 3) := by decide +kernel
theorem dX8_lapsNeeded_39 : decode cX8_lapsNeeded 39 = .ok (.aload 4, 2) := by decide +kernel
theorem dX8_lapsNeeded_41 : decode cX8_lapsNeeded 41 = .ok (.getfield 248, 3) := by decide +kernel
theorem dX8_lapsNeeded_44 : decode cX8_lapsNeeded 44 = .ok (.if_icmp .eq 6, 3) := by decide +kernel
theorem dX8_lapsNeeded_47 : decode cX8_lapsNeeded 47 = .ok (.bipush (-2), 2) := by decide +kernel
theorem dX8_lapsNeeded_49 : decode cX8_lapsNeeded 49 = .ok (.ireturn, 1) := by decide +kernel
theorem dX8_lapsNeeded_50 : decode cX8_lapsNeeded 50 = .ok (.aload_n 3, 1) := by decide +kernel
theorem dX8_lapsNeeded_51 : decode cX8_lapsNeeded 51 = .ok (.getfield 245, 3) := by decide +kernel
theorem dX8_lapsNeeded_54 : decode cX8_lapsNeeded 54 = .ok (.aload 4, 2) := by decide +kernel
theorem dX8_lapsNeeded_56 : decode cX8_lapsNeeded 56 = .ok (.getfield 245, 3) := by decide +kernel
theorem dX8_lapsNeeded_59 : decode cX8_lapsNeeded 59 = .ok (.aload_n 0, 1) := by decide +kernel
theorem dX8_lapsNeeded_60 : decode cX8_lapsNeeded 60 = .ok (.aload_n 3, 1) := by decide +kernel
theorem dX8_lapsNeeded_61 : decode cX8_lapsNeeded 61 = .ok (.getfield 248, 3) := by decide +kernel
theorem dX8_lapsNeeded_64 : decode cX8_lapsNeeded 64 = .ok (.invokevirtual 325, 3) := by decide +kernel
theorem dX8_lapsNeeded_67 : decode cX8_lapsNeeded 67 = .ok (.invokestatic 331, 3) := by decide +kernel
theorem dX8_lapsNeeded_70 : decode cX8_lapsNeeded 70 = .ok (.ireturn, 1) := by decide +kernel
set_option maxRecDepth 20000 in
theorem ggX8_fewestLaps_X0_slotAt : GoodIn wsX8_fewestLaps wsX0_slotAt := goodIn_r _ [5, 6, 7, 8, 9, 4, 10, 11, 20, 21, 22, 23, 24, 25, 26, 27, 28, 29] (by decide +kernel) (by decide +kernel)
set_option maxRecDepth 20000 in
theorem gX8_fewestLaps_X0_slotAt : GoodIn wsX8_fewestLaps (wsV RX8 251 RX0 yX0_slotAt wsX0_slotAt) := goodIn_app (goodIn_of _ (by decide +kernel)) ggX8_fewestLaps_X0_slotAt
set_option maxRecDepth 20000 in
theorem ggX8_fewestLaps_X0_advance : GoodIn wsX8_fewestLaps wsX0_advance := goodIn_r _ [15, 16, 17, 18, 19, 6, 7, 8, 9, 4, 10, 11, 20, 21, 22, 23, 24, 25, 26, 27, 28, 29] (by decide +kernel) (by decide +kernel)
set_option maxRecDepth 20000 in
theorem gX8_fewestLaps_X0_advance : GoodIn wsX8_fewestLaps (wsV RX8 328 RX0 yX0_advance wsX0_advance) := goodIn_app (goodIn_of _ (by decide +kernel)) ggX8_fewestLaps_X0_advance
theorem dX8_fewestLaps_0 : decode cX8_fewestLaps 0 = .ok (.aload_n 2, 1) := by decide +kernel
theorem dX8_fewestLaps_1 : decode cX8_fewestLaps 1 = .ok (.iload_n 0, 1) := by decide +kernel
theorem dX8_fewestLaps_2 : decode cX8_fewestLaps 2 = .ok (.invokevirtual 251, 3) := by decide +kernel
theorem dX8_fewestLaps_5 : decode cX8_fewestLaps 5 = .ok (.istore_n 3, 1) := by decide +kernel
theorem dX8_fewestLaps_6 : decode cX8_fewestLaps 6 = .ok (.iconst 1, 1) := by decide +kernel
theorem dX8_fewestLaps_7 : decode cX8_fewestLaps 7 = .ok (.istore 4, 2) := by decide +kernel
theorem dX8_fewestLaps_9 : decode cX8_fewestLaps 9 = .ok (.iconst 1, 1) := by decide +kernel
theorem dX8_fewestLaps_10 : decode cX8_fewestLaps 10 = .ok (.istore 5, 2) := by decide +kernel
theorem dX8_fewestLaps_12 : decode cX8_fewestLaps 12 = .ok (.iload 5, 2) := by decide +kernel
theorem dX8_fewestLaps_14 : decode cX8_fewestLaps 14 = .ok (.sipush 300, 3) := by decide +kernel
theorem dX8_fewestLaps_17 : decode cX8_fewestLaps 17 = .ok (.if_icmp .gt 48, 3) := by decide +kernel
theorem dX8_fewestLaps_20 : decode cX8_fewestLaps 20 = .ok (.aload_n 2, 1) := by decide +kernel
theorem dX8_fewestLaps_21 : decode cX8_fewestLaps 21 = .ok (.invokevirtual 328, 3) := by decide +kernel
theorem dX8_fewestLaps_24 : decode cX8_fewestLaps 24 = .ok (.pop, 1) := by decide +kernel
theorem dX8_fewestLaps_25 : decode cX8_fewestLaps 25 = .ok (.aload_n 2, 1) := by decide +kernel
theorem dX8_fewestLaps_26 : decode cX8_fewestLaps 26 = .ok (.iload_n 1, 1) := by decide +kernel
theorem dX8_fewestLaps_27 : decode cX8_fewestLaps 27 = .ok (.invokevirtual 251, 3) := by decide +kernel
theorem dX8_fewestLaps_30 : decode cX8_fewestLaps 30 = .ok (.iload_n 3, 1) := by decide +kernel
theorem dX8_fewestLaps_31 : decode cX8_fewestLaps 31 = .ok (.if_icmp .ne 6, 3) := by decide +kernel
theorem dX8_fewestLaps_34 : decode cX8_fewestLaps 34 = .ok (.iload 4, 2) := by decide +kernel
theorem dX8_fewestLaps_36 : decode cX8_fewestLaps 36 = .ok (.ireturn, 1) := by decide +kernel
theorem dX8_fewestLaps_37 : decode cX8_fewestLaps 37 = .ok (.aload_n 2, 1) := by decide +kernel
theorem dX8_fewestLaps_38 : decode cX8_fewestLaps 38 = .ok (.iload_n 0, 1) := by decide +kernel
theorem dX8_fewestLaps_39 : decode cX8_fewestLaps 39 = .ok (.invokevirtual 251, 3) := by decide +kernel
theorem dX8_fewestLaps_42 : decode cX8_fewestLaps 42 = .ok (.iload_n 3, 1) := by decide +kernel
theorem dX8_fewestLaps_43 : decode cX8_fewestLaps 43 = .ok (.if_icmp .ne 6, 3) := by decide +kernel
theorem dX8_fewestLaps_46 : decode cX8_fewestLaps 46 = .ok (.iinc 4 1, 3) := by decide +kernel
theorem dX8_fewestLaps_49 : decode cX8_fewestLaps 49 = .ok (.iload 4, 2) := by decide +kernel
theorem dX8_fewestLaps_51 : decode cX8_fewestLaps 51 = .ok (.bipush 9, 2) := by decide +kernel
theorem dX8_fewestLaps_53 : decode cX8_fewestLaps 53 = .ok (.if_icmp .le 6, 3) := by decide +kernel
theorem dX8_fewestLaps_56 : decode cX8_fewestLaps 56 = .ok (.bipush (-5), 2) := by decide +kernel
theorem dX8_fewestLaps_58 : decode cX8_fewestLaps 58 = .ok (.ireturn, 1) := by decide +kernel
theorem dX8_fewestLaps_59 : decode cX8_fewestLaps 59 = .ok (.iinc 5 1, 3) := by decide +kernel
theorem dX8_fewestLaps_62 : decode cX8_fewestLaps 62 = .ok (.goto (-50), 3) := by decide +kernel
theorem dX8_fewestLaps_65 : decode cX8_fewestLaps 65 = .ok (.bipush (-5), 2) := by decide +kernel
theorem dX8_fewestLaps_67 : decode cX8_fewestLaps 67 = .ok (.ireturn, 1) := by decide +kernel
set_option maxRecDepth 20000 in
theorem ggX8_trialLine_X3_lineOf : GoodIn wsX8_trialLine wsX3_lineOf := goodIn_r _ [7, 8, 9, 49, 50, 51, 52, 53, 54, 55, 56, 57, 58, 59, 60, 61, 62] (by decide +kernel) (by decide +kernel)
set_option maxRecDepth 20000 in
theorem gX8_trialLine_X3_lineOf : GoodIn wsX8_trialLine (wsV RX8 50 RX3 yX3_lineOf wsX3_lineOf) := goodIn_app (goodIn_of _ (by decide +kernel)) ggX8_trialLine_X3_lineOf
set_option maxRecDepth 20000 in
theorem ggX8_trialLine_X0_copyFrom : GoodIn wsX8_trialLine wsX0_copyFrom := goodIn_r _ [14, 15, 16, 17, 18, 19, 20, 21, 22, 23, 24, 25, 26, 27, 28, 29, 30, 31, 32, 33, 34, 35, 36, 37, 38, 39, 40, 63, 64, 65, 66, 67, 68, 69, 70, 71, 72, 73, 74, 75, 76, 77, 78, 79, 80, 81, 82] (by decide +kernel) (by decide +kernel)
set_option maxRecDepth 20000 in
theorem gX8_trialLine_X0_copyFrom : GoodIn wsX8_trialLine (wsV RX8 335 RX0 yX0_copyFrom wsX0_copyFrom) := goodIn_app (goodIn_of _ (by decide +kernel)) ggX8_trialLine_X0_copyFrom
theorem dX8_trialLine_0 : decode cX8_trialLine 0 = .ok (.aload_n 0, 1) := by decide +kernel
theorem dX8_trialLine_1 : decode cX8_trialLine 1 = .ok (.getfield 19, 3) := by decide +kernel
theorem dX8_trialLine_4 : decode cX8_trialLine 4 = .ok (.iload_n 1, 1) := by decide +kernel
theorem dX8_trialLine_5 : decode cX8_trialLine 5 = .ok (.invokevirtual 50, 3) := by decide +kernel
theorem dX8_trialLine_8 : decode cX8_trialLine 8 = .ok (.astore_n 2, 1) := by decide +kernel
theorem dX8_trialLine_9 : decode cX8_trialLine 9 = .ok (.aload_n 2, 1) := by decide +kernel
theorem dX8_trialLine_10 : decode cX8_trialLine 10 = .ok (.aload_n 0, 1) := by decide +kernel
theorem dX8_trialLine_11 : decode cX8_trialLine 11 = .ok (.getfield 10, 3) := by decide +kernel
theorem dX8_trialLine_14 : decode cX8_trialLine 14 = .ok (.iload_n 1, 1) := by decide +kernel
theorem dX8_trialLine_15 : decode cX8_trialLine 15 = .ok (.invokevirtual 50, 3) := by decide +kernel
theorem dX8_trialLine_18 : decode cX8_trialLine 18 = .ok (.invokevirtual 335, 3) := by decide +kernel
theorem dX8_trialLine_21 : decode cX8_trialLine 21 = .ok (.aload_n 2, 1) := by decide +kernel
theorem dX8_trialLine_22 : decode cX8_trialLine 22 = .ok (.areturn, 1) := by decide +kernel
set_option maxRecDepth 20000 in
theorem ggX8_event_X8_within : GoodIn wsX8_event wsX8_within := goodIn_r _ [6] (by decide +kernel) (by decide +kernel)
set_option maxRecDepth 20000 in
theorem gX8_event_X8_within : GoodIn wsX8_event (va_wsS RX8 46 yX8_within wsX8_within) := goodIn_app (goodIn_of _ (by decide +kernel)) ggX8_event_X8_within
set_option maxRecDepth 20000 in
theorem ggX8_event_X1_told : GoodIn wsX8_event wsX1_told := goodIn_r _ [11, 12, 13, 14, 4, 5, 6, 15, 16, 17, 18, 41, 42, 43] (by decide +kernel) (by decide +kernel)
set_option maxRecDepth 20000 in
theorem gX8_event_X1_told : GoodIn wsX8_event (wsV RX8 343 RX1 yX1_told wsX1_told) := goodIn_app (goodIn_of _ (by decide +kernel)) ggX8_event_X1_told
theorem dX8_event_0 : decode cX8_event 0 = .ok (.iload_n 1, 1) := by decide +kernel
theorem dX8_event_1 : decode cX8_event 1 = .ok (.ifCond .lt 12, 3) := by decide +kernel
theorem dX8_event_4 : decode cX8_event 4 = .ok (.iload_n 2, 1) := by decide +kernel
theorem dX8_event_5 : decode cX8_event 5 = .ok (.iconst 0, 1) := by decide +kernel
theorem dX8_event_6 : decode cX8_event 6 = .ok (.iconst 4, 1) := by decide +kernel
theorem dX8_event_7 : decode cX8_event 7 = .ok (.invokestatic 46, 3) := by decide +kernel
theorem dX8_event_10 : decode cX8_event 10 = .ok (.ifCond .ne 6, 3) := by decide +kernel
theorem dX8_event_13 : decode cX8_event 13 = .ok (.bipush (-2), 2) := by decide +kernel
theorem dX8_event_15 : decode cX8_event 15 = .ok (.ireturn, 1) := by decide +kernel
theorem dX8_event_16 : decode cX8_event 16 = .ok (.aload_n 0, 1) := by decide +kernel
theorem dX8_event_17 : decode cX8_event 17 = .ok (.getfield 10, 3) := by decide +kernel
theorem dX8_event_20 : decode cX8_event 20 = .ok (.getfield 339, 3) := by decide +kernel
theorem dX8_event_23 : decode cX8_event 23 = .ok (.iload_n 1, 1) := by decide +kernel
theorem dX8_event_24 : decode cX8_event 24 = .ok (.iload_n 2, 1) := by decide +kernel
theorem dX8_event_25 : decode cX8_event 25 = .ok (.invokevirtual 343, 3) := by decide +kernel
theorem dX8_event_28 : decode cX8_event 28 = .ok (.ireturn, 1) := by decide +kernel
set_option maxRecDepth 20000 in
theorem ggX8_count_X8_within : GoodIn wsX8_count wsX8_within := goodIn_r _ [17] (by decide +kernel) (by decide +kernel)
set_option maxRecDepth 20000 in
theorem gX8_count_X8_within : GoodIn wsX8_count (va_wsS RX8 46 yX8_within wsX8_within) := goodIn_app (goodIn_of _ (by decide +kernel)) ggX8_count_X8_within
set_option maxRecDepth 20000 in
theorem ggX8_count_X3_countIn : GoodIn wsX8_count wsX3_countIn := goodIn_r _ [22, 23, 24, 25, 34, 35, 36, 37, 38, 39, 40, 41, 42, 43, 44, 45, 46, 47, 53, 54, 55, 56, 57, 58, 59, 60, 61, 62, 63, 64, 65, 66] (by decide +kernel) (by decide +kernel)
set_option maxRecDepth 20000 in
theorem gX8_count_X3_countIn : GoodIn wsX8_count (wsV RX8 181 RX3 yX3_countIn wsX3_countIn) := goodIn_app (goodIn_of _ (by decide +kernel)) ggX8_count_X3_countIn
theorem dX8_count_0 : decode cX8_count 0 = .ok (.iload_n 1, 1) := by decide +kernel
theorem dX8_count_1 : decode cX8_count 1 = .ok (.iconst 2, 1) := by decide +kernel
theorem dX8_count_2 : decode cX8_count 2 = .ok (.bipush 10, 2) := by decide +kernel
theorem dX8_count_4 : decode cX8_count 4 = .ok (.invokestatic 46, 3) := by decide +kernel
theorem dX8_count_7 : decode cX8_count 7 = .ok (.ifCond .eq 14, 3) := by decide +kernel
theorem dX8_count_10 : decode cX8_count 10 = .ok (.aload_n 0, 1) := by decide +kernel
theorem dX8_count_11 : decode cX8_count 11 = .ok (.getfield 10, 3) := by decide +kernel
theorem dX8_count_14 : decode cX8_count 14 = .ok (.iload_n 1, 1) := by decide +kernel
theorem dX8_count_15 : decode cX8_count 15 = .ok (.iconst 2, 1) := by decide +kernel
theorem dX8_count_16 : decode cX8_count 16 = .ok (.isub, 1) := by decide +kernel
theorem dX8_count_17 : decode cX8_count 17 = .ok (.invokevirtual 181, 3) := by decide +kernel
theorem dX8_count_20 : decode cX8_count 20 = .ok (.ireturn, 1) := by decide +kernel
theorem dX8_count_21 : decode cX8_count 21 = .ok (.iload_n 1, 1) := by decide +kernel
theorem dX8_count_22 : decode cX8_count 22 = .ok (.tableswitch 207 0 20 #[98, 106, 207, 207, 207, 207, 207, 207, 207, 207, 207, 114, 122, 130, 138, 162, 170, 178, 186, 194, 199], 98) := by decide +kernel
theorem dX8_count_120 : decode cX8_count 120 = .ok (.aload_n 0, 1) := by decide +kernel
theorem dX8_count_121 : decode cX8_count 121 = .ok (.getfield 10, 3) := by decide +kernel
theorem dX8_count_124 : decode cX8_count 124 = .ok (.getfield 220, 3) := by decide +kernel
theorem dX8_count_127 : decode cX8_count 127 = .ok (.ireturn, 1) := by decide +kernel
theorem dX8_count_128 : decode cX8_count 128 = .ok (.aload_n 0, 1) := by decide +kernel
theorem dX8_count_129 : decode cX8_count 129 = .ok (.getfield 10, 3) := by decide +kernel
theorem dX8_count_132 : decode cX8_count 132 = .ok (.getfield 346, 3) := by decide +kernel
theorem dX8_count_135 : decode cX8_count 135 = .ok (.ireturn, 1) := by decide +kernel
theorem dX8_count_136 : decode cX8_count 136 = .ok (.aload_n 0, 1) := by decide +kernel
theorem dX8_count_137 : decode cX8_count 137 = .ok (.getfield 10, 3) := by decide +kernel
theorem dX8_count_140 : decode cX8_count 140 = .ok (.getfield 203, 3) := by decide +kernel
theorem dX8_count_143 : decode cX8_count 143 = .ok (.ireturn, 1) := by decide +kernel
theorem dX8_count_144 : decode cX8_count 144 = .ok (.aload_n 0, 1) := by decide +kernel
theorem dX8_count_145 : decode cX8_count 145 = .ok (.getfield 10, 3) := by decide +kernel
theorem dX8_count_148 : decode cX8_count 148 = .ok (.getfield 349, 3) := by decide +kernel
theorem dX8_count_151 : decode cX8_count 151 = .ok (.ireturn, 1) := by decide +kernel
theorem dX8_count_152 : decode cX8_count 152 = .ok (.aload_n 0, 1) := by decide +kernel
theorem dX8_count_153 : decode cX8_count 153 = .ok (.getfield 10, 3) := by decide +kernel
theorem dX8_count_156 : decode cX8_count 156 = .ok (.getfield 352, 3) := by decide +kernel
theorem dX8_count_159 : decode cX8_count 159 = .ok (.ireturn, 1) := by decide +kernel
theorem dX8_count_160 : decode cX8_count 160 = .ok (.aload_n 0, 1) := by decide +kernel
theorem dX8_count_161 : decode cX8_count 161 = .ok (.getfield 10, 3) := by decide +kernel
theorem dX8_count_164 : decode cX8_count 164 = .ok (.getfield 203, 3) := by decide +kernel
theorem dX8_count_167 : decode cX8_count 167 = .ok (.aload_n 0, 1) := by decide +kernel
theorem dX8_count_168 : decode cX8_count 168 = .ok (.getfield 10, 3) := by decide +kernel
theorem dX8_count_171 : decode cX8_count 171 = .ok (.getfield 349, 3) := by decide +kernel
theorem dX8_count_174 : decode cX8_count 174 = .ok (.isub, 1) := by decide +kernel
theorem dX8_count_175 : decode cX8_count 175 = .ok (.aload_n 0, 1) := by decide +kernel
theorem dX8_count_176 : decode cX8_count 176 = .ok (.getfield 10, 3) := by decide +kernel
theorem dX8_count_179 : decode cX8_count 179 = .ok (.getfield 352, 3) := by decide +kernel
theorem dX8_count_182 : decode cX8_count 182 = .ok (.isub, 1) := by decide +kernel
theorem dX8_count_183 : decode cX8_count 183 = .ok (.ireturn, 1) := by decide +kernel
theorem dX8_count_184 : decode cX8_count 184 = .ok (.aload_n 0, 1) := by decide +kernel
theorem dX8_count_185 : decode cX8_count 185 = .ok (.getfield 10, 3) := by decide +kernel
theorem dX8_count_188 : decode cX8_count 188 = .ok (.getfield 90, 3) := by decide +kernel
theorem dX8_count_191 : decode cX8_count 191 = .ok (.ireturn, 1) := by decide +kernel
theorem dX8_count_192 : decode cX8_count 192 = .ok (.aload_n 0, 1) := by decide +kernel
theorem dX8_count_193 : decode cX8_count 193 = .ok (.getfield 10, 3) := by decide +kernel
theorem dX8_count_196 : decode cX8_count 196 = .ok (.getfield 93, 3) := by decide +kernel
theorem dX8_count_199 : decode cX8_count 199 = .ok (.ireturn, 1) := by decide +kernel
theorem dX8_count_200 : decode cX8_count 200 = .ok (.aload_n 0, 1) := by decide +kernel
theorem dX8_count_201 : decode cX8_count 201 = .ok (.getfield 10, 3) := by decide +kernel
theorem dX8_count_204 : decode cX8_count 204 = .ok (.getfield 158, 3) := by decide +kernel
theorem dX8_count_207 : decode cX8_count 207 = .ok (.ireturn, 1) := by decide +kernel
theorem dX8_count_208 : decode cX8_count 208 = .ok (.aload_n 0, 1) := by decide +kernel
theorem dX8_count_209 : decode cX8_count 209 = .ok (.getfield 10, 3) := by decide +kernel
theorem dX8_count_212 : decode cX8_count 212 = .ok (.getfield 355, 3) := by decide +kernel
theorem dX8_count_215 : decode cX8_count 215 = .ok (.ireturn, 1) := by decide +kernel
theorem dX8_count_216 : decode cX8_count 216 = .ok (.aload_n 0, 1) := by decide +kernel
theorem dX8_count_217 : decode cX8_count 217 = .ok (.getfield 210, 3) := by decide +kernel
theorem dX8_count_220 : decode cX8_count 220 = .ok (.ireturn, 1) := by decide +kernel
theorem dX8_count_221 : decode cX8_count 221 = .ok (.aload_n 0, 1) := by decide +kernel
theorem dX8_count_222 : decode cX8_count 222 = .ok (.getfield 29, 3) := by decide +kernel
theorem dX8_count_225 : decode cX8_count 225 = .ok (.getfield 191, 3) := by decide +kernel
theorem dX8_count_228 : decode cX8_count 228 = .ok (.ireturn, 1) := by decide +kernel
theorem dX8_count_229 : decode cX8_count 229 = .ok (.bipush (-2), 2) := by decide +kernel
theorem dX8_count_231 : decode cX8_count 231 = .ok (.ireturn, 1) := by decide +kernel
theorem dX8_isLine_0 : decode cX8_isLine 0 = .ok (.iload_n 0, 1) := by decide +kernel
theorem dX8_isLine_1 : decode cX8_isLine 1 = .ok (.ifCond .eq 8, 3) := by decide +kernel
theorem dX8_isLine_4 : decode cX8_isLine 4 = .ok (.iload_n 0, 1) := by decide +kernel
theorem dX8_isLine_5 : decode cX8_isLine 5 = .ok (.iconst 1, 1) := by decide +kernel
theorem dX8_isLine_6 : decode cX8_isLine 6 = .ok (.if_icmp .ne 7, 3) := by decide +kernel
theorem dX8_isLine_9 : decode cX8_isLine 9 = .ok (.iconst 1, 1) := by decide +kernel
theorem dX8_isLine_10 : decode cX8_isLine 10 = .ok (.goto 4, 3) := by decide +kernel
theorem dX8_isLine_13 : decode cX8_isLine 13 = .ok (.iconst 0, 1) := by decide +kernel
theorem dX8_isLine_14 : decode cX8_isLine 14 = .ok (.ireturn, 1) := by decide +kernel
theorem dX8_within_0 : decode cX8_within 0 = .ok (.iload_n 0, 1) := by decide +kernel
theorem dX8_within_1 : decode cX8_within 1 = .ok (.iload_n 1, 1) := by decide +kernel
theorem dX8_within_2 : decode cX8_within 2 = .ok (.if_icmp .lt 12, 3) := by decide +kernel
theorem dX8_within_5 : decode cX8_within 5 = .ok (.iload_n 0, 1) := by decide +kernel
theorem dX8_within_6 : decode cX8_within 6 = .ok (.iload_n 2, 1) := by decide +kernel
theorem dX8_within_7 : decode cX8_within 7 = .ok (.if_icmp .gt 7, 3) := by decide +kernel
theorem dX8_within_10 : decode cX8_within 10 = .ok (.iconst 1, 1) := by decide +kernel
theorem dX8_within_11 : decode cX8_within 11 = .ok (.goto 4, 3) := by decide +kernel
theorem dX8_within_14 : decode cX8_within 14 = .ok (.iconst 0, 1) := by decide +kernel
theorem dX8_within_15 : decode cX8_within 15 = .ok (.ireturn, 1) := by decide +kernel
theorem dX8_numberOf_0 : decode cX8_numberOf 0 = .ok (.aload_n 0, 1) := by decide +kernel
theorem dX8_numberOf_1 : decode cX8_numberOf 1 = .ok (.ifnonnull 8, 3) := by decide +kernel
theorem dX8_numberOf_4 : decode cX8_numberOf 4 = .ok (.bipush (-5), 2) := by decide +kernel
theorem dX8_numberOf_6 : decode cX8_numberOf 6 = .ok (.goto 7, 3) := by decide +kernel
theorem dX8_numberOf_9 : decode cX8_numberOf 9 = .ok (.aload_n 0, 1) := by decide +kernel
theorem dX8_numberOf_10 : decode cX8_numberOf 10 = .ok (.getfield 358, 3) := by decide +kernel
theorem dX8_numberOf_13 : decode cX8_numberOf 13 = .ok (.ireturn, 1) := by decide +kernel
