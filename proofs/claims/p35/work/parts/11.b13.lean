/-! the words of what the law calls, among its own -/
set_option maxRecDepth 20000 in
theorem kg_lapsNeeded : GoodIn wsL_law wsX8_lapsNeeded := goodIn_r _ [566, 44, 567, 568, 569, 202, 203, 43, 204, 147, 2, 148, 205, 206, 207, 208, 63, 64, 209, 210, 211, 62, 212, 213, 86, 570, 571, 572, 573, 46, 357, 574, 250, 251, 252, 84, 253, 254, 255, 256, 87, 257, 258, 259, 260, 261, 262, 263, 264, 90, 265, 95, 266, 267, 268, 269, 270, 271, 272, 575, 576, 577, 578, 443, 444, 445, 446, 447, 448, 449, 579, 557, 558, 559, 803, 804, 805, 806, 807, 808, 809, 810, 868, 869, 870, 871, 872, 873, 874, 875, 876, 877, 811, 812, 813, 814, 815, 816, 817, 818, 819, 820, 821, 822, 823, 824, 835, 836, 837, 838, 839, 840, 841, 842, 843, 844] (by decide +kernel) (by decide +kernel)
set_option maxRecDepth 20000 in
theorem kv_lapsNeeded : GoodIn wsL_law (wsV RL 100 RX8 yX8_lapsNeeded wsX8_lapsNeeded) := goodIn_app (goodIn_r _ [563, 564, 565, 2] (by decide +kernel) (by decide +kernel)) kg_lapsNeeded
set_option maxRecDepth 20000 in
theorem kg_line : GoodIn wsL_law wsX8_line := goodIn_r _ [627, 44, 352, 628, 629, 630, 353, 631, 632, 354, 355, 2, 356, 357, 206, 207, 43, 208, 63, 64, 633, 634, 635, 62, 636, 84, 637, 506, 507, 508, 228, 66, 341, 509, 510, 803, 804, 805, 806, 807, 808, 809, 810, 835, 836, 837, 838, 839, 840, 841, 842, 843, 844, 811, 812, 813, 814, 815, 816, 817, 818, 819, 820, 821, 822, 823, 824, 848, 849, 850, 851, 852, 853, 854, 855, 856, 857, 858, 859, 860, 861] (by decide +kernel) (by decide +kernel)
set_option maxRecDepth 20000 in
theorem kv_line : GoodIn wsL_law (wsV RL 13 RX8 yX8_line wsX8_line) := goodIn_app (goodIn_r _ [624, 625, 626, 2] (by decide +kernel) (by decide +kernel)) kg_line
set_option maxRecDepth 20000 in
theorem kg_order : GoodIn wsL_law wsX8_order := goodIn_r _ [754, 44, 335, 384, 395, 396, 397, 43, 398, 228, 66, 147, 2, 148, 238, 229, 230, 231, 232, 233, 47, 234, 235, 236, 237, 239, 240, 241, 242, 63, 64, 68, 72, 243, 244, 73, 74, 245, 246, 247, 248, 249, 250, 251, 62, 252, 84, 253, 254, 255, 256, 86, 213, 87, 257, 258, 259, 260, 261, 262, 263, 264, 90, 265, 95, 266, 267, 268, 269, 270, 271, 272, 273, 274, 275, 76, 276, 108, 277, 278, 279, 280, 281, 282, 283, 284, 285, 286, 287, 288, 289, 290, 291, 54, 292, 218, 220, 222, 223, 221, 293, 294, 295, 78, 296, 117, 297, 298, 299, 300, 301, 302, 303, 304, 305, 71, 306, 102, 307, 308, 309, 755, 756, 757, 758, 759, 760, 761, 762, 803, 804, 805, 806, 807, 808, 809, 810, 811, 812, 813, 814, 815, 816, 817, 818, 819, 820, 821, 822, 823, 824, 848, 849, 850, 851, 852, 853, 854, 855, 856, 857, 858, 859, 860, 861, 835, 836, 837, 838, 839, 840, 841, 842, 843, 844, 868, 869, 870, 871, 872, 873, 874, 875, 876, 877, 830, 831, 832, 833, 834, 862, 863, 864, 865, 866, 867, 845, 846, 847] (by decide +kernel) (by decide +kernel)
set_option maxRecDepth 20000 in
theorem kv_order : GoodIn wsL_law (wsV RL 106 RX8 yX8_order wsX8_order) := goodIn_app (goodIn_r _ [751, 752, 753, 2] (by decide +kernel) (by decide +kernel)) kg_order
set_option maxRecDepth 20000 in
theorem kg_ordered : GoodIn wsL_law wsX8_ordered := goodIn_r _ [689, 44, 690, 691, 692, 693, 694, 695, 375, 377, 696, 697, 698, 43, 699, 243, 68, 147, 2, 148, 803, 804, 805, 806, 807, 808, 809, 810, 862, 863, 864, 865, 866, 867, 830, 831, 832, 833, 834, 811, 812, 813, 814, 815, 816, 817, 818, 819, 820, 821, 822, 823, 824] (by decide +kernel) (by decide +kernel)
set_option maxRecDepth 20000 in
theorem kv_ordered : GoodIn wsL_law (wsV RL 50 RX8 yX8_ordered wsX8_ordered) := goodIn_app (goodIn_r _ [686, 687, 688, 2] (by decide +kernel) (by decide +kernel)) kg_ordered
set_option maxRecDepth 20000 in
theorem kg_price : GoodIn wsL_law wsX8_price := goodIn_r _ [740, 44, 238, 147, 2, 148, 741, 317, 318, 43, 319, 73, 803, 804, 805, 806, 807, 808, 809, 810, 811, 812, 813, 814, 815, 816, 817, 818, 819, 820, 821, 822, 823, 824] (by decide +kernel) (by decide +kernel)
set_option maxRecDepth 20000 in
theorem kv_price : GoodIn wsL_law (wsV RL 84 RX8 yX8_price wsX8_price) := goodIn_app (goodIn_r _ [737, 738, 739, 2] (by decide +kernel) (by decide +kernel)) kg_price
