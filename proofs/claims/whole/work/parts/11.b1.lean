set_option maxRecDepth 20000 in
theorem ggL_law_X9_readTickets : GoodIn wsL_law wsX9_readTickets := goodIn_r _ [794, 795, 796, 797, 106, 101, 798, 799, 800, 5, 801, 735, 802, 803, 804, 805, 806, 807, 808, 809, 105, 810, 811, 812, 813, 229, 230, 231, 814, 815, 816, 817, 818, 819, 820, 821, 416, 417, 418, 419, 420, 421, 422, 423, 240, 241, 242, 243, 424, 425, 426, 427, 247, 248, 249, 250, 251, 102, 428, 429, 430, 431, 356, 357, 358, 359, 432, 433, 434, 435, 236, 237, 238, 239, 1058, 1059, 1060, 1061, 1062, 1063, 1064, 1065, 1066, 1067, 1068, 1069, 1070, 1071, 1072] (by decide +kernel) (by decide +kernel)
set_option maxRecDepth 20000 in
theorem gL_law_X9_readTickets : GoodIn wsL_law (wsV RL 81 RX9 yX9_readTickets wsX9_readTickets) := goodIn_app (goodIn_of _ (by decide +kernel)) ggL_law_X9_readTickets
set_option maxRecDepth 20000 in
theorem ggL_law_X8_undo : GoodIn wsL_law wsX8_undo := goodIn_r _ [825, 136, 18, 15, 141, 142, 143, 14, 144, 34, 35, 37, 39, 43, 145, 146, 147, 44, 45, 148, 149, 150, 151, 152, 153, 154, 33, 155, 55, 156, 157, 158, 159, 57, 130, 58, 160, 161, 162, 163, 164, 165, 166, 167, 61, 168, 66, 169, 170, 171, 172, 173, 174, 175, 176, 177, 178, 47, 179, 79, 180, 181, 182, 183, 184, 185, 186, 187, 188, 189, 190, 191, 192, 193, 194, 25, 195, 196, 197, 198, 199, 200, 201, 202, 203, 49, 204, 88, 205, 206, 207, 208, 209, 210, 211, 212, 213, 42, 214, 73, 215, 216, 217, 1050, 1051, 1052, 1053, 1054, 1055, 1056, 1057, 1073, 1074, 1075, 1076, 1077, 1078, 1079, 1080, 1081, 1082, 1083, 1084, 1085, 1086, 1097, 1098, 1099, 1100, 1101, 1102, 1103, 1104, 1105, 1106, 1130, 1131, 1132, 1133, 1134, 1135, 1136, 1137, 1138, 1139, 1110, 1111, 1112, 1113, 1114, 1115, 1116, 1117, 1118, 1119, 1120, 1121, 1122, 1123, 1092, 1093, 1094, 1095, 1096, 1124, 1125, 1126, 1127, 1128, 1129, 1107, 1108, 1109] (by decide +kernel) (by decide +kernel)
set_option maxRecDepth 20000 in
theorem gL_law_X8_undo : GoodIn wsL_law (wsV RL 82 RX8 yX8_undo wsX8_undo) := goodIn_app (goodIn_of _ (by decide +kernel)) ggL_law_X8_undo
set_option maxRecDepth 20000 in
theorem ggL_law_X9_undo : GoodIn wsL_law wsX9_undo := goodIn_r _ [829, 251, 101, 102, 1058, 1059, 1060, 1061, 1062, 1063, 1064, 1065, 1066, 1067, 1068, 1069, 1070, 1071, 1072] (by decide +kernel) (by decide +kernel)
set_option maxRecDepth 20000 in
theorem gL_law_X9_undo : GoodIn wsL_law (wsV RL 85 RX9 yX9_undo wsX9_undo) := goodIn_app (goodIn_of _ (by decide +kernel)) ggL_law_X9_undo
set_option maxRecDepth 20000 in
theorem ggL_law_X8_keep : GoodIn wsL_law wsX8_keep := goodIn_r _ [833, 16, 15, 834, 835, 141, 142, 143, 14, 144, 34, 35, 37, 39, 43, 145, 146, 147, 44, 45, 148, 149, 150, 151, 152, 153, 154, 33, 155, 55, 156, 157, 158, 159, 57, 130, 58, 160, 161, 162, 163, 164, 165, 166, 167, 61, 168, 66, 169, 170, 171, 172, 173, 174, 175, 176, 177, 178, 47, 179, 79, 180, 181, 182, 183, 184, 185, 186, 187, 188, 189, 190, 191, 192, 193, 194, 25, 195, 196, 197, 198, 199, 200, 201, 202, 203, 49, 204, 88, 205, 206, 207, 208, 209, 210, 211, 212, 213, 42, 214, 73, 215, 216, 217, 1050, 1051, 1052, 1053, 1054, 1055, 1056, 1057, 1073, 1074, 1075, 1076, 1077, 1078, 1079, 1080, 1081, 1082, 1083, 1084, 1085, 1086, 1097, 1098, 1099, 1100, 1101, 1102, 1103, 1104, 1105, 1106, 1130, 1131, 1132, 1133, 1134, 1135, 1136, 1137, 1138, 1139, 1110, 1111, 1112, 1113, 1114, 1115, 1116, 1117, 1118, 1119, 1120, 1121, 1122, 1123, 1092, 1093, 1094, 1095, 1096, 1124, 1125, 1126, 1127, 1128, 1129, 1107, 1108, 1109] (by decide +kernel) (by decide +kernel)
set_option maxRecDepth 20000 in
theorem gL_law_X8_keep : GoodIn wsL_law (wsV RL 86 RX8 yX8_keep wsX8_keep) := goodIn_app (goodIn_of _ (by decide +kernel)) ggL_law_X8_keep
set_option maxRecDepth 20000 in
theorem ggL_law_X9_keep : GoodIn wsL_law wsX9_keep := goodIn_r _ [839, 103, 101, 840, 1058, 1059, 1060, 1061, 1062, 1063, 1064, 1065, 1066, 1067, 1068, 1069, 1070, 1071, 1072] (by decide +kernel) (by decide +kernel)
set_option maxRecDepth 20000 in
theorem gL_law_X9_keep : GoodIn wsL_law (wsV RL 89 RX9 yX9_keep wsX9_keep) := goodIn_app (goodIn_of _ (by decide +kernel)) ggL_law_X9_keep
set_option maxRecDepth 20000 in
theorem ggL_law_X8_restore : GoodIn wsL_law wsX8_restore := goodIn_r _ [844, 834, 15, 16, 835, 132, 133, 134, 2, 135, 136, 18, 137, 138, 139, 140, 115, 116, 117, 141, 142, 143, 14, 144, 34, 35, 37, 39, 43, 145, 146, 147, 44, 45, 148, 149, 150, 151, 152, 153, 154, 33, 155, 55, 156, 157, 158, 159, 57, 130, 58, 160, 161, 162, 163, 164, 165, 166, 167, 61, 168, 66, 169, 170, 171, 172, 173, 174, 175, 176, 177, 178, 47, 179, 79, 180, 181, 182, 183, 184, 185, 186, 187, 188, 189, 190, 191, 192, 193, 194, 25, 195, 196, 197, 198, 199, 200, 201, 202, 203, 49, 204, 88, 205, 206, 207, 208, 209, 210, 211, 212, 213, 42, 214, 73, 215, 216, 217, 1050, 1051, 1052, 1053, 1054, 1055, 1056, 1057, 1073, 1074, 1075, 1076, 1077, 1078, 1079, 1080, 1081, 1082, 1083, 1084, 1085, 1086, 1097, 1098, 1099, 1100, 1101, 1102, 1103, 1104, 1105, 1106, 1130, 1131, 1132, 1133, 1134, 1135, 1136, 1137, 1138, 1139, 1110, 1111, 1112, 1113, 1114, 1115, 1116, 1117, 1118, 1119, 1120, 1121, 1122, 1123, 1092, 1093, 1094, 1095, 1096, 1124, 1125, 1126, 1127, 1128, 1129, 1107, 1108, 1109] (by decide +kernel) (by decide +kernel)
set_option maxRecDepth 20000 in
theorem gL_law_X8_restore : GoodIn wsL_law (wsV RL 90 RX8 yX8_restore wsX8_restore) := goodIn_app (goodIn_of _ (by decide +kernel)) ggL_law_X8_restore
set_option maxRecDepth 20000 in
theorem ggL_law_X9_restore : GoodIn wsL_law wsX9_restore := goodIn_r _ [848, 840, 101, 103, 247, 248, 249, 5, 250, 251, 102, 1058, 1059, 1060, 1061, 1062, 1063, 1064, 1065, 1066, 1067, 1068, 1069, 1070, 1071, 1072] (by decide +kernel) (by decide +kernel)
set_option maxRecDepth 20000 in
theorem gL_law_X9_restore : GoodIn wsL_law (wsV RL 93 RX9 yX9_restore wsX9_restore) := goodIn_app (goodIn_of _ (by decide +kernel)) ggL_law_X9_restore
set_option maxRecDepth 20000 in
theorem ggL_law_X8_line : GoodIn wsL_law wsX8_line := goodIn_r _ [852, 15, 111, 853, 854, 277, 256, 855, 856, 112, 113, 2, 114, 118, 119, 120, 14, 121, 34, 35, 122, 123, 124, 33, 125, 55, 857, 617, 618, 619, 145, 37, 449, 450, 318, 1050, 1051, 1052, 1053, 1054, 1055, 1056, 1057, 1097, 1098, 1099, 1100, 1101, 1102, 1103, 1104, 1105, 1106, 1073, 1074, 1075, 1076, 1077, 1078, 1079, 1080, 1081, 1082, 1083, 1084, 1085, 1086, 1110, 1111, 1112, 1113, 1114, 1115, 1116, 1117, 1118, 1119, 1120, 1121, 1122, 1123] (by decide +kernel) (by decide +kernel)
set_option maxRecDepth 20000 in
theorem gL_law_X8_line : GoodIn wsL_law (wsV RL 94 RX8 yX8_line wsX8_line) := goodIn_app (goodIn_of _ (by decide +kernel)) ggL_law_X8_line
set_option maxRecDepth 20000 in
theorem ggL_law_X9_line : GoodIn wsL_law wsX9_line := goodIn_r _ [861, 226, 227, 5, 228, 229, 230, 231, 240, 241, 242, 243, 101, 232, 233, 234, 235, 236, 237, 238, 239, 1058, 1059, 1060, 1061, 1062, 1063, 1064, 1065, 1066, 1067, 1068, 1069, 1070, 1071, 1072] (by decide +kernel) (by decide +kernel)
set_option maxRecDepth 20000 in
theorem gL_law_X9_line : GoodIn wsL_law (wsV RL 97 RX9 yX9_line wsX9_line) := goodIn_app (goodIn_of _ (by decide +kernel)) ggL_law_X9_line
set_option maxRecDepth 20000 in
theorem ggL_law_X8_slot : GoodIn wsL_law wsX8_slot := goodIn_r _ [865, 15, 111, 112, 113, 2, 114, 118, 119, 120, 14, 121, 34, 35, 115, 116, 117, 866, 321, 322, 33, 323, 55, 1050, 1051, 1052, 1053, 1054, 1055, 1056, 1057, 1097, 1098, 1099, 1100, 1101, 1102, 1103, 1104, 1105, 1106, 1073, 1074, 1075, 1076, 1077, 1078, 1079, 1080, 1081, 1082, 1083, 1084, 1085, 1086] (by decide +kernel) (by decide +kernel)
set_option maxRecDepth 20000 in
theorem gL_law_X8_slot : GoodIn wsL_law (wsV RL 98 RX8 yX8_slot wsX8_slot) := goodIn_app (goodIn_of _ (by decide +kernel)) ggL_law_X8_slot
set_option maxRecDepth 20000 in
theorem ggL_law_X9_slot : GoodIn wsL_law wsX9_slot := goodIn_r _ [870, 226, 227, 5, 228, 229, 230, 231, 240, 241, 242, 243, 101, 344, 345, 346, 347, 1058, 1059, 1060, 1061, 1062, 1063, 1064, 1065, 1066, 1067, 1068, 1069, 1070, 1071, 1072] (by decide +kernel) (by decide +kernel)
set_option maxRecDepth 20000 in
theorem gL_law_X9_slot : GoodIn wsL_law (wsV RL 101 RX9 yX9_slot wsX9_slot) := goodIn_app (goodIn_of _ (by decide +kernel)) ggL_law_X9_slot
set_option maxRecDepth 20000 in
theorem ggL_law_X8_station : GoodIn wsL_law wsX8_station := goodIn_r _ [874, 15, 875, 876, 877, 878, 879, 880, 881, 465, 466, 380, 381, 14, 382, 116, 2, 117, 383, 119, 120, 121, 34, 35, 384, 385, 386, 33, 387, 130, 57, 118, 882, 574, 575, 576, 160, 577, 578, 579, 580, 58, 883, 884, 885, 886, 145, 37, 636, 637, 638, 47, 639, 182, 79, 640, 183, 887, 625, 626, 627, 611, 589, 586, 628, 629, 630, 631, 59, 632, 633, 634, 635, 585, 401, 888, 889, 890, 891, 1050, 1051, 1052, 1053, 1054, 1055, 1056, 1057, 1130, 1131, 1132, 1133, 1134, 1135, 1136, 1137, 1138, 1139, 1073, 1074, 1075, 1076, 1077, 1078, 1079, 1080, 1081, 1082, 1083, 1084, 1085, 1086, 1097, 1098, 1099, 1100, 1101, 1102, 1103, 1104, 1105, 1106, 1110, 1111, 1112, 1113, 1114, 1115, 1116, 1117, 1118, 1119, 1120, 1121, 1122, 1123, 1092, 1093, 1094, 1095, 1096] (by decide +kernel) (by decide +kernel)
set_option maxRecDepth 20000 in
theorem gL_law_X8_station : GoodIn wsL_law (wsV RL 102 RX8 yX8_station wsX8_station) := goodIn_app (goodIn_of _ (by decide +kernel)) ggL_law_X8_station
set_option maxRecDepth 20000 in
theorem ggL_law_X9_station : GoodIn wsL_law wsX9_station := goodIn_r _ [895, 101, 420, 421, 422, 5, 423, 229, 230, 231, 240, 241, 242, 243, 244, 245, 246, 682, 683, 684, 685, 896, 897, 898, 899, 706, 707, 708, 709, 236, 237, 238, 239, 694, 695, 696, 697, 698, 699, 700, 701, 702, 703, 704, 705, 1058, 1059, 1060, 1061, 1062, 1063, 1064, 1065, 1066, 1067, 1068, 1069, 1070, 1071, 1072] (by decide +kernel) (by decide +kernel)
set_option maxRecDepth 20000 in
theorem gL_law_X9_station : GoodIn wsL_law (wsV RL 105 RX9 yX9_station wsX9_station) := goodIn_app (goodIn_of _ (by decide +kernel)) ggL_law_X9_station
set_option maxRecDepth 20000 in
theorem ggL_law_X8_waiting : GoodIn wsL_law wsX8_waiting := goodIn_r _ [903, 15, 877, 466, 380, 381, 14, 382, 116, 2, 117, 383, 119, 120, 121, 34, 35, 384, 385, 386, 33, 387, 130, 57, 904, 905, 906, 907, 145, 37, 585, 401, 636, 637, 638, 47, 639, 182, 79, 640, 183, 888, 889, 890, 891, 1050, 1051, 1052, 1053, 1054, 1055, 1056, 1057, 1130, 1131, 1132, 1133, 1134, 1135, 1136, 1137, 1138, 1139, 1073, 1074, 1075, 1076, 1077, 1078, 1079, 1080, 1081, 1082, 1083, 1084, 1085, 1086, 1097, 1098, 1099, 1100, 1101, 1102, 1103, 1104, 1105, 1106, 1110, 1111, 1112, 1113, 1114, 1115, 1116, 1117, 1118, 1119, 1120, 1121, 1122, 1123, 1092, 1093, 1094, 1095, 1096] (by decide +kernel) (by decide +kernel)
set_option maxRecDepth 20000 in
theorem gL_law_X8_waiting : GoodIn wsL_law (wsV RL 106 RX8 yX8_waiting wsX8_waiting) := goodIn_app (goodIn_of _ (by decide +kernel)) ggL_law_X8_waiting
set_option maxRecDepth 20000 in
theorem ggL_law_X9_waiting : GoodIn wsL_law wsX9_waiting := goodIn_r _ [911, 101, 420, 421, 422, 5, 423, 229, 230, 231, 240, 241, 242, 243, 706, 707, 708, 709, 236, 237, 238, 239, 912, 913, 914, 915, 1058, 1059, 1060, 1061, 1062, 1063, 1064, 1065, 1066, 1067, 1068, 1069, 1070, 1071, 1072] (by decide +kernel) (by decide +kernel)
set_option maxRecDepth 20000 in
theorem gL_law_X9_waiting : GoodIn wsL_law (wsV RL 109 RX9 yX9_waiting wsX9_waiting) := goodIn_app (goodIn_of _ (by decide +kernel)) ggL_law_X9_waiting
set_option maxRecDepth 20000 in
theorem ggL_law_X8_calls : GoodIn wsL_law wsX8_calls := goodIn_r _ [919, 15, 466, 380, 381, 14, 382, 116, 2, 117, 383, 119, 120, 121, 34, 35, 384, 385, 386, 33, 387, 130, 57, 479, 480, 481, 61, 482, 170, 66, 1050, 1051, 1052, 1053, 1054, 1055, 1056, 1057, 1073, 1074, 1075, 1076, 1077, 1078, 1079, 1080, 1081, 1082, 1083, 1084, 1085, 1086, 1097, 1098, 1099, 1100, 1101, 1102, 1103, 1104, 1105, 1106, 1130, 1131, 1132, 1133, 1134, 1135, 1136, 1137, 1138, 1139] (by decide +kernel) (by decide +kernel)
set_option maxRecDepth 20000 in
theorem gL_law_X8_calls : GoodIn wsL_law (wsV RL 110 RX8 yX8_calls wsX8_calls) := goodIn_app (goodIn_of _ (by decide +kernel)) ggL_law_X8_calls
set_option maxRecDepth 20000 in
theorem ggL_law_X9_calls : GoodIn wsL_law wsX9_calls := goodIn_r _ [923, 101, 420, 421, 422, 5, 423, 229, 230, 231, 240, 241, 242, 243, 244, 245, 246, 1058, 1059, 1060, 1061, 1062, 1063, 1064, 1065, 1066, 1067, 1068, 1069, 1070, 1071, 1072] (by decide +kernel) (by decide +kernel)
set_option maxRecDepth 20000 in
theorem gL_law_X9_calls : GoodIn wsL_law (wsV RL 113 RX9 yX9_calls wsX9_calls) := goodIn_app (goodIn_of _ (by decide +kernel)) ggL_law_X9_calls
set_option maxRecDepth 20000 in
theorem ggL_law_X8_ticket : GoodIn wsL_law wsX8_ticket := goodIn_r _ [927, 15, 500, 368, 369, 370, 371, 928, 929, 930, 931, 932, 933, 934, 935, 936, 937, 440, 325, 326, 14, 327, 145, 37, 116, 2, 117, 1050, 1051, 1052, 1053, 1054, 1055, 1056, 1057, 1110, 1111, 1112, 1113, 1114, 1115, 1116, 1117, 1118, 1119, 1120, 1121, 1122, 1123, 1092, 1093, 1094, 1095, 1096, 1073, 1074, 1075, 1076, 1077, 1078, 1079, 1080, 1081, 1082, 1083, 1084, 1085, 1086] (by decide +kernel) (by decide +kernel)
set_option maxRecDepth 20000 in
theorem gL_law_X8_ticket : GoodIn wsL_law (wsV RL 114 RX8 yX8_ticket wsX8_ticket) := goodIn_app (goodIn_of _ (by decide +kernel)) ggL_law_X8_ticket
set_option maxRecDepth 20000 in
theorem ggL_law_X9_ticket : GoodIn wsL_law wsX9_ticket := goodIn_r _ [941, 456, 457, 458, 5, 459, 101, 229, 230, 231, 236, 237, 238, 239, 1058, 1059, 1060, 1061, 1062, 1063, 1064, 1065, 1066, 1067, 1068, 1069, 1070, 1071, 1072] (by decide +kernel) (by decide +kernel)
set_option maxRecDepth 20000 in
theorem gL_law_X9_ticket : GoodIn wsL_law (wsV RL 117 RX9 yX9_ticket wsX9_ticket) := goodIn_app (goodIn_of _ (by decide +kernel)) ggL_law_X9_ticket
set_option maxRecDepth 20000 in
theorem ggL_law_X8_ordered : GoodIn wsL_law wsX8_ordered := goodIn_r _ [945, 15, 946, 947, 518, 948, 517, 949, 368, 370, 519, 520, 521, 14, 522, 146, 39, 116, 2, 117, 1050, 1051, 1052, 1053, 1054, 1055, 1056, 1057, 1124, 1125, 1126, 1127, 1128, 1129, 1092, 1093, 1094, 1095, 1096, 1073, 1074, 1075, 1076, 1077, 1078, 1079, 1080, 1081, 1082, 1083, 1084, 1085, 1086] (by decide +kernel) (by decide +kernel)
set_option maxRecDepth 20000 in
theorem gL_law_X8_ordered : GoodIn wsL_law (wsV RL 118 RX8 yX8_ordered wsX8_ordered) := goodIn_app (goodIn_of _ (by decide +kernel)) ggL_law_X8_ordered
set_option maxRecDepth 20000 in
theorem ggL_law_X9_ordered : GoodIn wsL_law wsX9_ordered := goodIn_r _ [953, 101, 527, 528, 529, 5, 530, 229, 230, 231, 1058, 1059, 1060, 1061, 1062, 1063, 1064, 1065, 1066, 1067, 1068, 1069, 1070, 1071, 1072] (by decide +kernel) (by decide +kernel)
set_option maxRecDepth 20000 in
theorem gL_law_X9_ordered : GoodIn wsL_law (wsV RL 121 RX9 yX9_ordered wsX9_ordered) := goodIn_app (goodIn_of _ (by decide +kernel)) ggL_law_X9_ordered
set_option maxRecDepth 20000 in
theorem ggL_law_X8_price : GoodIn wsL_law wsX8_price := goodIn_r _ [957, 15, 115, 116, 2, 117, 958, 404, 405, 14, 406, 44, 1050, 1051, 1052, 1053, 1054, 1055, 1056, 1057, 1073, 1074, 1075, 1076, 1077, 1078, 1079, 1080, 1081, 1082, 1083, 1084, 1085, 1086] (by decide +kernel) (by decide +kernel)
set_option maxRecDepth 20000 in
theorem gL_law_X8_price : GoodIn wsL_law (wsV RL 122 RX8 yX8_price wsX8_price) := goodIn_app (goodIn_of _ (by decide +kernel)) ggL_law_X8_price
set_option maxRecDepth 20000 in
theorem ggL_law_X9_price : GoodIn wsL_law wsX9_price := goodIn_r _ [962, 229, 230, 5, 231, 432, 433, 434, 435, 101, 1058, 1059, 1060, 1061, 1062, 1063, 1064, 1065, 1066, 1067, 1068, 1069, 1070, 1071, 1072] (by decide +kernel) (by decide +kernel)
set_option maxRecDepth 20000 in
theorem gL_law_X9_price : GoodIn wsL_law (wsV RL 125 RX9 yX9_price wsX9_price) := goodIn_app (goodIn_of _ (by decide +kernel)) ggL_law_X9_price
set_option maxRecDepth 20000 in
theorem ggL_law_X8_fate : GoodIn wsL_law wsX8_fate := goodIn_r _ [966, 15, 17, 440, 325, 326, 14, 327, 145, 37, 116, 2, 117, 115, 441, 442, 443, 47, 444, 182, 141, 142, 143, 144, 34, 35, 39, 43, 146, 147, 44, 45, 148, 149, 150, 151, 152, 153, 154, 33, 155, 55, 156, 157, 158, 159, 57, 130, 58, 160, 161, 162, 163, 164, 165, 166, 167, 61, 168, 66, 169, 170, 171, 172, 173, 174, 175, 176, 177, 178, 179, 79, 180, 181, 183, 184, 185, 186, 187, 188, 189, 190, 191, 192, 193, 194, 25, 195, 196, 197, 198, 199, 200, 201, 202, 203, 49, 204, 88, 205, 206, 207, 208, 209, 210, 211, 212, 213, 42, 214, 73, 215, 216, 217, 539, 540, 541, 542, 543, 544, 545, 546, 547, 548, 549, 550, 551, 552, 553, 554, 555, 556, 557, 558, 394, 395, 396, 559, 398, 399, 400, 401, 402, 403, 404, 405, 406, 407, 408, 409, 410, 411, 560, 561, 562, 563, 564, 565, 566, 567, 568, 569, 570, 571, 317, 572, 573, 574, 575, 576, 577, 578, 579, 580, 320, 321, 322, 323, 324, 581, 582, 583, 584, 585, 378, 586, 587, 588, 589, 590, 591, 592, 593, 594, 595, 596, 319, 328, 329, 330, 331, 332, 333, 334, 335, 597, 598, 599, 600, 601, 480, 481, 482, 602, 484, 485, 486, 603, 604, 605, 606, 607, 608, 609, 610, 611, 612, 613, 614, 615, 383, 119, 120, 121, 616, 617, 618, 619, 449, 450, 318, 620, 621, 622, 623, 336, 337, 338, 339, 624, 625, 626, 627, 628, 629, 630, 631, 59, 632, 633, 634, 635, 636, 637, 638, 639, 640, 641, 642, 643, 644, 645, 646, 647, 648, 649, 650, 651, 652, 653, 654, 655, 656, 657, 658, 659, 660, 661, 662, 663, 664, 967, 968, 969, 930, 936, 928, 1050, 1051, 1052, 1053, 1054, 1055, 1056, 1057, 1073, 1074, 1075, 1076, 1077, 1078, 1079, 1080, 1081, 1082, 1083, 1084, 1085, 1086, 1110, 1111, 1112, 1113, 1114, 1115, 1116, 1117, 1118, 1119, 1120, 1121, 1122, 1123, 1097, 1098, 1099, 1100, 1101, 1102, 1103, 1104, 1105, 1106, 1130, 1131, 1132, 1133, 1134, 1135, 1136, 1137, 1138, 1139, 1092, 1093, 1094, 1095, 1096, 1124, 1125, 1126, 1127, 1128, 1129, 1107, 1108, 1109] (by decide +kernel) (by decide +kernel)
set_option maxRecDepth 20000 in
theorem gL_law_X8_fate : GoodIn wsL_law (wsV RL 126 RX8 yX8_fate wsX8_fate) := goodIn_app (goodIn_of _ (by decide +kernel)) ggL_law_X8_fate
set_option maxRecDepth 20000 in
theorem ggL_law_X9_fate : GoodIn wsL_law wsX9_fate := goodIn_r _ [973, 104, 101, 456, 457, 458, 5, 459, 229, 230, 231, 236, 237, 238, 239, 974, 975, 976, 977, 670, 671, 672, 673, 674, 675, 676, 677, 428, 429, 430, 431, 356, 357, 358, 359, 432, 433, 434, 435, 240, 241, 242, 243, 678, 679, 680, 681, 682, 683, 684, 685, 244, 245, 246, 344, 345, 346, 347, 686, 687, 688, 689, 669, 690, 691, 692, 693, 348, 349, 350, 351, 352, 353, 354, 355, 360, 361, 362, 363, 491, 492, 493, 494, 232, 233, 234, 235, 694, 695, 696, 697, 698, 699, 700, 701, 702, 703, 704, 705, 706, 707, 708, 709, 710, 711, 712, 713, 714, 715, 716, 717, 718, 719, 720, 721, 1058, 1059, 1060, 1061, 1062, 1063, 1064, 1065, 1066, 1067, 1068, 1069, 1070, 1071, 1072] (by decide +kernel) (by decide +kernel)
set_option maxRecDepth 20000 in
theorem gL_law_X9_fate : GoodIn wsL_law (wsV RL 129 RX9 yX9_fate wsX9_fate) := goodIn_app (goodIn_of _ (by decide +kernel)) ggL_law_X9_fate
set_option maxRecDepth 20000 in
theorem ggL_law_X8_slotIn : GoodIn wsL_law wsX8_slotIn := goodIn_r _ [981, 15, 876, 875, 466, 380, 381, 14, 382, 116, 2, 117, 383, 119, 120, 121, 34, 35, 384, 385, 386, 33, 387, 130, 57, 115, 982, 983, 984, 985, 17, 118, 986, 153, 154, 155, 55, 156, 157, 158, 159, 58, 160, 161, 162, 163, 164, 165, 166, 167, 61, 168, 66, 169, 170, 171, 172, 173, 174, 175, 987, 662, 663, 664, 577, 578, 579, 580, 882, 574, 575, 576, 1050, 1051, 1052, 1053, 1054, 1055, 1056, 1057, 1130, 1131, 1132, 1133, 1134, 1135, 1136, 1137, 1138, 1139, 1073, 1074, 1075, 1076, 1077, 1078, 1079, 1080, 1081, 1082, 1083, 1084, 1085, 1086, 1097, 1098, 1099, 1100, 1101, 1102, 1103, 1104, 1105, 1106] (by decide +kernel) (by decide +kernel)
set_option maxRecDepth 20000 in
theorem gL_law_X8_slotIn : GoodIn wsL_law (wsV RL 130 RX8 yX8_slotIn wsX8_slotIn) := goodIn_app (goodIn_of _ (by decide +kernel)) ggL_law_X8_slotIn
set_option maxRecDepth 20000 in
theorem ggL_law_X9_slotIn : GoodIn wsL_law wsX9_slotIn := goodIn_r _ [991, 420, 421, 422, 5, 423, 229, 230, 231, 240, 241, 242, 243, 101, 992, 993, 994, 995, 996, 997, 998, 999, 1000, 1001, 1002, 1003, 1004, 1005, 244, 245, 246, 1058, 1059, 1060, 1061, 1062, 1063, 1064, 1065, 1066, 1067, 1068, 1069, 1070, 1071, 1072] (by decide +kernel) (by decide +kernel)
set_option maxRecDepth 20000 in
theorem gL_law_X9_slotIn : GoodIn wsL_law (wsV RL 133 RX9 yX9_slotIn wsX9_slotIn) := goodIn_app (goodIn_of _ (by decide +kernel)) ggL_law_X9_slotIn
set_option maxRecDepth 20000 in
theorem ggL_law_X8_lapsNeeded : GoodIn wsL_law wsX8_lapsNeeded := goodIn_r _ [1009, 15, 876, 875, 466, 380, 381, 14, 382, 116, 2, 117, 383, 119, 120, 121, 34, 35, 384, 385, 386, 33, 387, 130, 57, 982, 983, 984, 985, 17, 118, 986, 153, 154, 155, 55, 156, 157, 158, 159, 58, 160, 161, 162, 163, 164, 165, 166, 167, 61, 168, 66, 169, 170, 171, 172, 173, 174, 175, 1010, 1011, 1012, 882, 574, 575, 576, 577, 578, 579, 580, 987, 662, 663, 664, 1050, 1051, 1052, 1053, 1054, 1055, 1056, 1057, 1130, 1131, 1132, 1133, 1134, 1135, 1136, 1137, 1138, 1139, 1073, 1074, 1075, 1076, 1077, 1078, 1079, 1080, 1081, 1082, 1083, 1084, 1085, 1086, 1097, 1098, 1099, 1100, 1101, 1102, 1103, 1104, 1105, 1106] (by decide +kernel) (by decide +kernel)
set_option maxRecDepth 20000 in
theorem gL_law_X8_lapsNeeded : GoodIn wsL_law (wsV RL 134 RX8 yX8_lapsNeeded wsX8_lapsNeeded) := goodIn_app (goodIn_of _ (by decide +kernel)) ggL_law_X8_lapsNeeded
set_option maxRecDepth 20000 in
theorem ggL_law_X9_lapsNeeded : GoodIn wsL_law wsX9_lapsNeeded := goodIn_r _ [1016, 420, 421, 422, 5, 423, 229, 230, 231, 240, 241, 242, 243, 101, 992, 993, 994, 995, 996, 997, 1002, 1003, 1004, 1005, 244, 245, 246, 998, 999, 1000, 1001, 1058, 1059, 1060, 1061, 1062, 1063, 1064, 1065, 1066, 1067, 1068, 1069, 1070, 1071, 1072] (by decide +kernel) (by decide +kernel)
set_option maxRecDepth 20000 in
theorem gL_law_X9_lapsNeeded : GoodIn wsL_law (wsV RL 137 RX9 yX9_lapsNeeded wsX9_lapsNeeded) := goodIn_app (goodIn_of _ (by decide +kernel)) ggL_law_X9_lapsNeeded
set_option maxRecDepth 20000 in
theorem ggL_law_X8_event : GoodIn wsL_law wsX8_event := goodIn_r _ [1020, 15, 1021, 115, 116, 2, 117, 1022, 1023, 1024, 42, 1025, 216, 217, 73, 1026, 1027, 1028, 1029, 1050, 1051, 1052, 1053, 1054, 1055, 1056, 1057, 1073, 1074, 1075, 1076, 1077, 1078, 1079, 1080, 1081, 1082, 1083, 1084, 1085, 1086, 1107, 1108, 1109] (by decide +kernel) (by decide +kernel)
set_option maxRecDepth 20000 in
theorem gL_law_X8_event : GoodIn wsL_law (wsV RL 138 RX8 yX8_event wsX8_event) := goodIn_app (goodIn_of _ (by decide +kernel)) ggL_law_X8_event
set_option maxRecDepth 20000 in
theorem ggL_law_X9_event : GoodIn wsL_law wsX9_event := goodIn_r _ [1033, 101, 229, 230, 5, 231, 1058, 1059, 1060, 1061, 1062, 1063, 1064, 1065, 1066, 1067, 1068, 1069, 1070, 1071, 1072] (by decide +kernel) (by decide +kernel)
set_option maxRecDepth 20000 in
theorem gL_law_X9_event : GoodIn wsL_law (wsV RL 141 RX9 yX9_event wsX9_event) := goodIn_app (goodIn_of _ (by decide +kernel)) ggL_law_X9_event
set_option maxRecDepth 20000 in
theorem ggL_law_X8_count : GoodIn wsL_law wsX8_count := goodIn_r _ [1037, 15, 835, 1038, 750, 1039, 1040, 290, 303, 499, 1041, 136, 22, 740, 115, 116, 2, 117, 535, 536, 537, 14, 538, 145, 37, 449, 1050, 1051, 1052, 1053, 1054, 1055, 1056, 1057, 1073, 1074, 1075, 1076, 1077, 1078, 1079, 1080, 1081, 1082, 1083, 1084, 1085, 1086, 1087, 1088, 1089, 1090, 1091, 1110, 1111, 1112, 1113, 1114, 1115, 1116, 1117, 1118, 1119, 1120, 1121, 1122, 1123] (by decide +kernel) (by decide +kernel)
set_option maxRecDepth 20000 in
theorem gL_law_X8_count : GoodIn wsL_law (wsV RL 142 RX8 yX8_count wsX8_count) := goodIn_app (goodIn_of _ (by decide +kernel)) ggL_law_X8_count
set_option maxRecDepth 20000 in
theorem ggL_law_X9_count : GoodIn wsL_law wsX9_count := goodIn_r _ [1045, 101, 251, 735, 229, 230, 5, 231, 1046, 1047, 1048, 1049, 236, 237, 238, 239, 1058, 1059, 1060, 1061, 1062, 1063, 1064, 1065, 1066, 1067, 1068, 1069, 1070, 1071, 1072] (by decide +kernel) (by decide +kernel)
set_option maxRecDepth 20000 in
theorem gL_law_X9_count : GoodIn wsL_law (wsV RL 145 RX9 yX9_count wsX9_count) := goodIn_app (goodIn_of _ (by decide +kernel)) ggL_law_X9_count
