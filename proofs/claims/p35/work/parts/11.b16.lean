/-! the words of what the law calls, among its own -/
set_option maxRecDepth 20000 in
theorem kg_type : GoodIn wsL_law wsX8_type := goodIn_r _ [141, 51, 142, 143, 144, 50, 145, 146, 123, 147, 2, 148, 803, 804, 805, 806, 807, 808, 809, 810, 825, 826, 827, 828, 829] (by decide +kernel) (by decide +kernel)
set_option maxRecDepth 20000 in
theorem kv_type : GoodIn wsL_law (wsV RL 119 RX8 yX8_type wsX8_type) := goodIn_app (goodIn_r _ [138, 139, 140, 2] (by decide +kernel) (by decide +kernel)) kg_type
set_option maxRecDepth 20000 in
theorem kg_undo : GoodIn wsL_law wsX8_undo := goodIn_r _ [776, 233, 47, 44, 239, 240, 241, 43, 242, 63, 64, 66, 68, 72, 228, 243, 244, 73, 74, 245, 246, 247, 248, 249, 250, 251, 62, 252, 84, 253, 254, 255, 256, 86, 213, 87, 257, 258, 259, 260, 261, 262, 263, 264, 90, 265, 95, 266, 267, 268, 269, 270, 271, 272, 273, 274, 275, 76, 276, 108, 277, 278, 279, 280, 281, 282, 283, 284, 285, 286, 287, 288, 289, 290, 291, 54, 292, 218, 220, 222, 223, 221, 293, 294, 295, 78, 296, 117, 297, 298, 299, 300, 301, 302, 303, 304, 305, 71, 306, 102, 307, 308, 309, 803, 804, 805, 806, 807, 808, 809, 810, 811, 812, 813, 814, 815, 816, 817, 818, 819, 820, 821, 822, 823, 824, 835, 836, 837, 838, 839, 840, 841, 842, 843, 844, 868, 869, 870, 871, 872, 873, 874, 875, 876, 877, 848, 849, 850, 851, 852, 853, 854, 855, 856, 857, 858, 859, 860, 861, 830, 831, 832, 833, 834, 862, 863, 864, 865, 866, 867, 845, 846, 847] (by decide +kernel) (by decide +kernel)
set_option maxRecDepth 20000 in
theorem kv_undo : GoodIn wsL_law (wsV RL 222 RX8 yX8_undo wsX8_undo) := goodIn_app (goodIn_r _ [773, 774, 775, 2] (by decide +kernel) (by decide +kernel)) kg_undo
set_option maxRecDepth 20000 in
theorem kg_waiting : GoodIn wsL_law wsX8_waiting := goodIn_r _ [681, 44, 609, 569, 202, 203, 43, 204, 147, 2, 148, 205, 206, 207, 208, 63, 64, 209, 210, 211, 62, 212, 213, 86, 682, 683, 684, 685, 228, 66, 459, 314, 531, 532, 533, 76, 534, 279, 108, 535, 280, 620, 621, 622, 623, 803, 804, 805, 806, 807, 808, 809, 810, 868, 869, 870, 871, 872, 873, 874, 875, 876, 877, 811, 812, 813, 814, 815, 816, 817, 818, 819, 820, 821, 822, 823, 824, 835, 836, 837, 838, 839, 840, 841, 842, 843, 844, 848, 849, 850, 851, 852, 853, 854, 855, 856, 857, 858, 859, 860, 861, 830, 831, 832, 833, 834] (by decide +kernel) (by decide +kernel)
set_option maxRecDepth 20000 in
theorem kv_waiting : GoodIn wsL_law (wsV RL 28 RX8 yX8_waiting wsX8_waiting) := goodIn_app (goodIn_r _ [678, 679, 680, 2] (by decide +kernel) (by decide +kernel)) kg_waiting
