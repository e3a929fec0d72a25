set_option maxRecDepth 20000 in
theorem ggL_law_X8_as : GoodIn wsL_law wsX8_as := goodIn_r _ [993, 22, 151, 45, 973, 417, 418, 21, 419, 63, 64, 155, 156, 2, 157, 994, 995, 996, 44, 997, 998, 999, 975, 976, 977, 121, 978, 451, 452, 453, 66, 416, 979, 561, 562, 563, 67, 564, 980, 443, 444, 445, 981, 413, 414, 415, 171, 172, 173, 174, 47, 158, 159, 160, 161, 162, 1101, 1102, 1103, 1104, 1105, 1106, 1107, 1108, 1109, 1110, 1111, 1112, 1113, 1149, 1150, 1151, 1152, 1153, 1154, 1155, 1156, 1157, 1158, 1159, 1160, 1185, 1186, 1187] (by decide +kernel) (by decide +kernel)
set_option maxRecDepth 20000 in
theorem gL_law_X8_as : GoodIn wsL_law (wsV RL 114 RX8 yX8_as wsX8_as) := goodIn_app (goodIn_of _ (by decide +kernel)) ggL_law_X8_as
set_option maxRecDepth 20000 in
theorem ggL_law_X8_ask : GoodIn wsL_law wsX8_ask := goodIn_r _ [1010, 22, 151, 45, 973, 417, 418, 21, 419, 63, 64, 155, 156, 2, 157, 1011, 1012, 1013, 44, 1014, 120, 1015, 1016, 1017, 1018, 1019, 1020, 999, 975, 976, 977, 121, 978, 451, 452, 453, 66, 416, 979, 561, 562, 563, 67, 564, 980, 443, 444, 445, 981, 413, 414, 415, 1021, 1022, 1023, 1024, 119, 1025, 1026, 1027, 1028, 1029, 434, 435, 436, 1030, 1101, 1102, 1103, 1104, 1105, 1106, 1107, 1108, 1109, 1110, 1111, 1112, 1113, 1149, 1150, 1151, 1152, 1153, 1154, 1155, 1156, 1157, 1158, 1159, 1160, 1185, 1186, 1187] (by decide +kernel) (by decide +kernel)
set_option maxRecDepth 20000 in
theorem gL_law_X8_ask : GoodIn wsL_law (wsV RL 118 RX8 yX8_ask wsX8_ask) := goodIn_app (goodIn_of _ (by decide +kernel)) ggL_law_X8_ask
set_option maxRecDepth 20000 in
theorem ggL_law_X8_beauty : GoodIn wsL_law wsX8_beauty := goodIn_r _ [848, 621, 151, 22, 623, 624, 625, 2, 626, 627, 628, 629, 21, 630, 63, 849, 850, 851, 852, 559, 413, 414, 415, 66, 416, 417, 418, 419, 64, 853, 854, 855, 856, 32, 662, 1101, 1102, 1103, 1104, 1105, 1106, 1107, 1108, 1109, 1110, 1111, 1112, 1113, 1149, 1150, 1151, 1152, 1153, 1154, 1155, 1156, 1157, 1158, 1159, 1160, 1165, 1166, 1167, 1168] (by decide +kernel) (by decide +kernel)
set_option maxRecDepth 20000 in
theorem gL_law_X8_beauty : GoodIn wsL_law (wsV RL 86 RX8 yX8_beauty wsX8_beauty) := goodIn_app (goodIn_of _ (by decide +kernel)) ggL_law_X8_beauty
set_option maxRecDepth 20000 in
theorem ggL_law_X8_count : GoodIn wsL_law wsX8_count := goodIn_r _ [1069, 22, 1070, 1071, 267, 18, 243, 151, 1072, 1073, 1074, 2, 1075, 14, 200, 201, 202, 49, 203, 125, 1076, 1077, 1078, 21, 1079, 564, 451, 452, 453, 66, 416, 417, 418, 419, 63, 64, 1080, 1081, 1082, 1083, 1084, 443, 444, 445, 1101, 1102, 1103, 1104, 1105, 1106, 1107, 1108, 1109, 1110, 1111, 1112, 1113, 1149, 1150, 1151, 1152, 1153, 1154, 1155, 1156, 1157, 1158, 1159, 1160, 1143, 1144, 1145, 1146, 1147, 1148, 1188, 1189, 1190] (by decide +kernel) (by decide +kernel)
set_option maxRecDepth 20000 in
theorem gL_law_X8_count : GoodIn wsL_law (wsV RL 126 RX8 yX8_count wsX8_count) := goodIn_app (goodIn_of _ (by decide +kernel)) ggL_law_X8_count
set_option maxRecDepth 20000 in
theorem ggL_law_X8_earns : GoodIn wsL_law wsX8_earns := goodIn_r _ [868, 621, 151, 41, 32, 623, 624, 625, 2, 626, 22, 627, 628, 629, 21, 630, 63, 631, 632, 633, 155, 156, 157, 869, 870, 871, 40, 872, 113, 873, 110, 874, 219, 220, 221, 114, 875, 759, 760, 36, 761, 103, 105, 876, 877, 878, 879, 880, 881, 882, 883, 884, 102, 101, 788, 774, 672, 673, 674, 71, 68, 885, 763, 764, 765, 766, 98, 96, 97, 95, 767, 768, 769, 770, 771, 100, 772, 94, 99, 773, 775, 776, 777, 778, 779, 780, 781, 782, 783, 784, 785, 786, 787, 789, 803, 795, 796, 797, 804, 805, 806, 807, 808, 809, 810, 811, 886, 566, 567, 31, 568, 88, 887, 888, 889, 890, 112, 111, 891, 168, 169, 170, 892, 893, 894, 895, 1101, 1102, 1103, 1104, 1105, 1106, 1107, 1108, 1109, 1110, 1111, 1112, 1113, 1149, 1150, 1151, 1152, 1153, 1154, 1155, 1156, 1157, 1158, 1159, 1160, 1180, 1181, 1182, 1183, 1184, 1169, 1170, 1171, 1172, 1173, 1174, 1175, 1176, 1177, 1178, 1179, 1165, 1166, 1167, 1168] (by decide +kernel) (by decide +kernel)
set_option maxRecDepth 20000 in
theorem gL_law_X8_earns : GoodIn wsL_law (wsV RL 90 RX8 yX8_earns wsX8_earns) := goodIn_app (goodIn_of _ (by decide +kernel)) ggL_law_X8_earns
set_option maxRecDepth 20000 in
theorem ggL_law_X8_home : GoodIn wsL_law wsX8_home := goodIn_r _ [753, 151, 37, 32, 22, 622, 557, 648, 649, 650, 2, 651, 267, 155, 156, 157, 754, 755, 756, 757, 656, 758, 759, 760, 36, 761, 103, 105, 762, 763, 764, 765, 766, 98, 96, 97, 95, 101, 767, 768, 769, 770, 771, 100, 102, 772, 94, 99, 773, 774, 672, 673, 21, 674, 71, 68, 775, 776, 777, 778, 779, 780, 781, 782, 783, 784, 785, 786, 787, 788, 789, 790, 791, 792, 793, 794, 795, 796, 797, 798, 799, 800, 801, 802, 803, 804, 805, 806, 807, 808, 809, 810, 811, 1101, 1102, 1103, 1104, 1105, 1106, 1107, 1108, 1109, 1110, 1111, 1112, 1113, 1149, 1150, 1151, 1152, 1153, 1154, 1155, 1156, 1157, 1158, 1159, 1160, 1169, 1170, 1171, 1172, 1173, 1174, 1175, 1176, 1177, 1178, 1179, 1165, 1166, 1167, 1168] (by decide +kernel) (by decide +kernel)
set_option maxRecDepth 20000 in
theorem gL_law_X8_home : GoodIn wsL_law (wsV RL 78 RX8 yX8_home wsX8_home) := goodIn_app (goodIn_of _ (by decide +kernel)) ggL_law_X8_home
set_option maxRecDepth 20000 in
theorem ggL_law_X8_image : GoodIn wsL_law wsX8_image := goodIn_r _ [956, 151, 621, 28, 22, 155, 156, 2, 157, 623, 624, 625, 626, 627, 628, 629, 21, 630, 63, 420, 421, 422, 423, 64, 65, 66, 424, 219, 220, 221, 67, 68, 69, 70, 71, 72, 73, 74, 1101, 1102, 1103, 1104, 1105, 1106, 1107, 1108, 1109, 1110, 1111, 1112, 1113, 1149, 1150, 1151, 1152, 1153, 1154, 1155, 1156, 1157, 1158, 1159, 1160] (by decide +kernel) (by decide +kernel)
set_option maxRecDepth 20000 in
theorem gL_law_X8_image : GoodIn wsL_law (wsV RL 102 RX8 yX8_image wsX8_image) := goodIn_app (goodIn_of _ (by decide +kernel)) ggL_law_X8_image
set_option maxRecDepth 20000 in
theorem ggL_law_X8_kind : GoodIn wsL_law wsX8_kind := goodIn_r _ [972, 22, 45, 151, 973, 417, 418, 21, 419, 63, 64, 974, 975, 976, 44, 977, 121, 978, 451, 452, 453, 66, 416, 979, 561, 562, 563, 67, 564, 980, 443, 444, 445, 981, 413, 414, 415, 1101, 1102, 1103, 1104, 1105, 1106, 1107, 1108, 1109, 1110, 1111, 1112, 1113, 1149, 1150, 1151, 1152, 1153, 1154, 1155, 1156, 1157, 1158, 1159, 1160, 1185, 1186, 1187] (by decide +kernel) (by decide +kernel)
set_option maxRecDepth 20000 in
theorem gL_law_X8_kind : GoodIn wsL_law (wsV RL 110 RX8 yX8_kind wsX8_kind) := goodIn_app (goodIn_of _ (by decide +kernel)) ggL_law_X8_kind
set_option maxRecDepth 20000 in
theorem ggL_law_X8_nothing : GoodIn wsL_law wsX8_nothing := goodIn_r _ [840, 151, 37, 32, 22, 622, 557, 648, 649, 650, 2, 651, 267, 155, 156, 157, 758, 759, 760, 36, 761, 103, 105, 754, 755, 756, 757, 656, 762, 763, 764, 765, 766, 98, 96, 97, 95, 101, 767, 768, 769, 770, 771, 100, 102, 772, 94, 99, 773, 774, 672, 673, 21, 674, 71, 68, 775, 776, 777, 778, 779, 780, 781, 782, 783, 784, 785, 786, 787, 788, 789, 790, 791, 792, 793, 1101, 1102, 1103, 1104, 1105, 1106, 1107, 1108, 1109, 1110, 1111, 1112, 1113, 1149, 1150, 1151, 1152, 1153, 1154, 1155, 1156, 1157, 1158, 1159, 1160, 1169, 1170, 1171, 1172, 1173, 1174, 1175, 1176, 1177, 1178, 1179, 1165, 1166, 1167, 1168] (by decide +kernel) (by decide +kernel)
set_option maxRecDepth 20000 in
theorem gL_law_X8_nothing : GoodIn wsL_law (wsV RL 82 RX8 yX8_nothing wsX8_nothing) := goodIn_app (goodIn_of _ (by decide +kernel)) ggL_law_X8_nothing
set_option maxRecDepth 20000 in
theorem ggL_law_X8_restore : GoodIn wsL_law wsX8_restore := goodIn_r _ [964, 151, 28, 621, 22, 32, 155, 156, 2, 157, 627, 628, 629, 21, 630, 63, 420, 421, 422, 423, 64, 65, 66, 424, 219, 220, 221, 67, 68, 69, 70, 71, 72, 73, 74, 425, 426, 427, 31, 428, 429, 430, 431, 432, 86, 87, 433, 434, 435, 436, 437, 413, 414, 415, 416, 417, 418, 419, 438, 439, 440, 441, 442, 443, 444, 445, 446, 447, 448, 449, 88, 89, 450, 451, 452, 453, 1101, 1102, 1103, 1104, 1105, 1106, 1107, 1108, 1109, 1110, 1111, 1112, 1113, 1149, 1150, 1151, 1152, 1153, 1154, 1155, 1156, 1157, 1158, 1159, 1160, 1165, 1166, 1167, 1168] (by decide +kernel) (by decide +kernel)
set_option maxRecDepth 20000 in
theorem gL_law_X8_restore : GoodIn wsL_law (wsV RL 106 RX8 yX8_restore wsX8_restore) := goodIn_app (goodIn_of _ (by decide +kernel)) ggL_law_X8_restore
set_option maxRecDepth 20000 in
theorem ggL_law_X8_rivals : GoodIn wsL_law wsX8_rivals := goodIn_r _ [915, 621, 151, 41, 32, 916, 623, 624, 625, 2, 626, 22, 627, 628, 629, 21, 630, 63, 631, 632, 633, 155, 156, 157, 869, 870, 871, 40, 872, 113, 873, 110, 874, 219, 220, 221, 114, 875, 759, 760, 36, 761, 103, 105, 917, 918, 919, 920, 921, 922, 923, 924, 925, 564, 451, 452, 453, 66, 416, 417, 418, 419, 64, 926, 888, 889, 890, 112, 880, 111, 891, 168, 169, 170, 881, 882, 883, 884, 102, 101, 788, 774, 672, 673, 674, 71, 68, 885, 763, 764, 765, 766, 98, 96, 97, 95, 767, 768, 769, 770, 771, 100, 772, 94, 99, 773, 775, 776, 777, 778, 779, 780, 781, 782, 783, 784, 785, 786, 787, 789, 803, 795, 796, 797, 804, 805, 806, 807, 808, 809, 810, 811, 886, 566, 567, 31, 568, 88, 892, 893, 894, 895, 1101, 1102, 1103, 1104, 1105, 1106, 1107, 1108, 1109, 1110, 1111, 1112, 1113, 1180, 1181, 1182, 1183, 1184, 1149, 1150, 1151, 1152, 1153, 1154, 1155, 1156, 1157, 1158, 1159, 1160, 1169, 1170, 1171, 1172, 1173, 1174, 1175, 1176, 1177, 1178, 1179, 1165, 1166, 1167, 1168] (by decide +kernel) (by decide +kernel)
set_option maxRecDepth 20000 in
theorem gL_law_X8_rivals : GoodIn wsL_law (wsV RL 94 RX8 yX8_rivals wsX8_rivals) := goodIn_app (goodIn_of _ (by decide +kernel)) ggL_law_X8_rivals
set_option maxRecDepth 20000 in
theorem ggL_law_X8_status : GoodIn wsL_law wsX8_status := goodIn_r _ [1096, 47, 1101, 1102, 1103, 1104, 1105, 1106, 1107, 1108, 1109, 1110, 1111, 1112, 1113] (by decide +kernel) (by decide +kernel)
set_option maxRecDepth 20000 in
theorem gL_law_X8_status : GoodIn wsL_law (wsV RL 130 RX8 yX8_status wsX8_status) := goodIn_app (goodIn_of _ (by decide +kernel)) ggL_law_X8_status
set_option maxRecDepth 20000 in
theorem ggL_law_X8_trace : GoodIn wsL_law wsX8_trace := goodIn_r _ [1059, 45, 1060, 1061, 557, 155, 156, 2, 157, 1101, 1102, 1103, 1104, 1105, 1106, 1107, 1108, 1109, 1110, 1111, 1112, 1113, 1185, 1186, 1187] (by decide +kernel) (by decide +kernel)
set_option maxRecDepth 20000 in
theorem gL_law_X8_trace : GoodIn wsL_law (wsV RL 122 RX8 yX8_trace wsX8_trace) := goodIn_app (goodIn_of _ (by decide +kernel)) ggL_law_X8_trace
set_option maxRecDepth 20000 in
theorem ggL_law_X8_wall : GoodIn wsL_law wsX8_wall := goodIn_r _ [943, 22, 151, 41, 32, 944, 33, 559, 413, 414, 21, 415, 66, 416, 417, 418, 419, 63, 64, 945, 946, 947, 948, 65, 69, 70, 631, 632, 2, 633, 155, 156, 157, 869, 870, 871, 40, 872, 113, 873, 110, 874, 219, 220, 221, 114, 875, 759, 760, 36, 761, 103, 105, 876, 877, 878, 879, 880, 881, 882, 883, 884, 102, 101, 788, 774, 672, 673, 674, 71, 68, 885, 763, 764, 765, 766, 98, 96, 97, 95, 767, 768, 769, 770, 771, 100, 772, 94, 99, 773, 775, 776, 777, 778, 779, 780, 781, 782, 783, 784, 785, 786, 787, 789, 803, 795, 796, 797, 804, 805, 806, 807, 808, 809, 810, 811, 886, 566, 567, 31, 568, 88, 425, 426, 427, 428, 429, 430, 431, 432, 86, 87, 433, 434, 435, 436, 437, 438, 439, 440, 441, 442, 443, 444, 445, 446, 447, 448, 449, 89, 450, 451, 452, 453, 1101, 1102, 1103, 1104, 1105, 1106, 1107, 1108, 1109, 1110, 1111, 1112, 1113, 1149, 1150, 1151, 1152, 1153, 1154, 1155, 1156, 1157, 1158, 1159, 1160, 1180, 1181, 1182, 1183, 1184, 1169, 1170, 1171, 1172, 1173, 1174, 1175, 1176, 1177, 1178, 1179, 1165, 1166, 1167, 1168] (by decide +kernel) (by decide +kernel)
set_option maxRecDepth 20000 in
theorem gL_law_X8_wall : GoodIn wsL_law (wsV RL 98 RX8 yX8_wall wsX8_wall) := goodIn_app (goodIn_of _ (by decide +kernel)) ggL_law_X8_wall
set_option maxRecDepth 20000 in
theorem ggL_law_X9_as : GoodIn wsL_law wsX9_as := goodIn_r _ [1003, 179, 643, 181, 182, 579, 580, 581, 5, 582, 583, 187, 188, 189, 584, 585, 586, 587, 135, 986, 987, 988, 989, 1004, 1005, 1006, 190, 191, 192, 193, 194, 1114, 1115, 1116, 1117, 1118, 1119, 1120, 1121, 1122, 1123, 1124, 1125, 1126, 1127, 1128, 1129, 1130, 1131, 1132, 1133, 1134, 1135, 1136, 1137, 1138, 1139, 1140, 1141, 1142] (by decide +kernel) (by decide +kernel)
set_option maxRecDepth 20000 in
theorem gL_law_X9_as : GoodIn wsL_law (wsV RL 117 RX9 yX9_as wsX9_as) := goodIn_app (goodIn_of _ (by decide +kernel)) ggL_law_X9_as
set_option maxRecDepth 20000 in
theorem ggL_law_X9_ask : GoodIn wsL_law wsX9_ask := goodIn_r _ [1034, 179, 181, 1035, 579, 580, 581, 5, 582, 583, 187, 188, 189, 584, 585, 586, 587, 135, 986, 987, 988, 989, 1036, 1037, 1038, 1039, 1040, 1041, 1042, 1043, 146, 1044, 1045, 1046, 1047, 599, 600, 601, 602, 603, 604, 605, 606, 607, 608, 1048, 1049, 1050, 1051, 1004, 1005, 1006, 1052, 1053, 1054, 1055, 1114, 1115, 1116, 1117, 1118, 1119, 1120, 1121, 1122, 1123, 1124, 1125, 1126, 1127, 1128, 1129, 1130, 1131, 1132, 1133, 1134, 1135, 1136, 1137, 1138, 1139, 1140, 1141, 1142] (by decide +kernel) (by decide +kernel)
set_option maxRecDepth 20000 in
theorem gL_law_X9_ask : GoodIn wsL_law (wsV RL 121 RX9 yX9_ask wsX9_ask) := goodIn_app (goodIn_of _ (by decide +kernel)) ggL_law_X9_ask
set_option maxRecDepth 20000 in
theorem ggL_law_X9_beauty : GoodIn wsL_law wsX9_beauty := goodIn_r _ [860, 179, 466, 638, 181, 478, 575, 576, 577, 5, 578, 135, 579, 580, 581, 582, 583, 187, 188, 189, 584, 585, 586, 587, 861, 862, 863, 864, 599, 600, 601, 602, 603, 604, 605, 606, 607, 608, 1114, 1115, 1116, 1117, 1118, 1119, 1120, 1121, 1122, 1123, 1124, 1125, 1126, 1127, 1128, 1129, 1130, 1131, 1132, 1133, 1134, 1135, 1136, 1137, 1138, 1139, 1140, 1141, 1142] (by decide +kernel) (by decide +kernel)
set_option maxRecDepth 20000 in
theorem gL_law_X9_beauty : GoodIn wsL_law (wsV RL 89 RX9 yX9_beauty wsX9_beauty) := goodIn_app (goodIn_of _ (by decide +kernel)) ggL_law_X9_beauty
set_option maxRecDepth 20000 in
theorem ggL_law_X9_count : GoodIn wsL_law wsX9_count := goodIn_r _ [1088, 179, 132, 135, 257, 181, 1089, 1090, 1091, 5, 1092, 579, 580, 581, 582, 583, 187, 188, 189, 584, 585, 586, 587, 1114, 1115, 1116, 1117, 1118, 1119, 1120, 1121, 1122, 1123, 1124, 1125, 1126, 1127, 1128, 1129, 1130, 1131, 1132, 1133, 1134, 1135, 1136, 1137, 1138, 1139, 1140, 1141, 1142] (by decide +kernel) (by decide +kernel)
set_option maxRecDepth 20000 in
theorem gL_law_X9_count : GoodIn wsL_law (wsV RL 129 RX9 yX9_count wsX9_count) := goodIn_app (goodIn_of _ (by decide +kernel)) ggL_law_X9_count
set_option maxRecDepth 20000 in
theorem ggL_law_X9_earns : GoodIn wsL_law wsX9_earns := goodIn_r _ [899, 179, 466, 638, 181, 640, 641, 5, 642, 643, 187, 188, 189, 900, 901, 902, 903, 135, 904, 905, 906, 907, 139, 816, 140, 141, 817, 818, 819, 820, 138, 821, 822, 823, 824, 575, 576, 577, 578, 579, 580, 581, 582, 583, 584, 585, 586, 587, 591, 592, 593, 594, 574, 573, 595, 596, 597, 598, 599, 600, 601, 602, 603, 604, 605, 606, 607, 608, 696, 697, 698, 699, 613, 614, 615, 616, 688, 689, 690, 691, 609, 610, 611, 612, 825, 826, 827, 828, 829, 830, 831, 832, 833, 834, 835, 836, 478, 908, 909, 910, 911, 1114, 1115, 1116, 1117, 1118, 1119, 1120, 1121, 1122, 1123, 1124, 1125, 1126, 1127, 1128, 1129, 1130, 1131, 1132, 1133, 1134, 1135, 1136, 1137, 1138, 1139, 1140, 1141, 1142] (by decide +kernel) (by decide +kernel)
set_option maxRecDepth 20000 in
theorem gL_law_X9_earns : GoodIn wsL_law (wsV RL 93 RX9 yX9_earns wsX9_earns) := goodIn_app (goodIn_of _ (by decide +kernel)) ggL_law_X9_earns
set_option maxRecDepth 20000 in
theorem ggL_law_X9_home : GoodIn wsL_law wsX9_home := goodIn_r _ [815, 179, 643, 181, 138, 816, 478, 139, 141, 679, 680, 681, 5, 682, 135, 187, 188, 189, 688, 689, 690, 691, 817, 818, 819, 820, 821, 822, 823, 824, 140, 575, 576, 577, 578, 579, 580, 581, 582, 583, 584, 585, 586, 587, 591, 592, 593, 594, 574, 573, 595, 596, 597, 598, 599, 600, 601, 602, 603, 604, 605, 606, 607, 608, 696, 697, 698, 699, 613, 614, 615, 616, 609, 610, 611, 612, 825, 826, 827, 828, 829, 830, 831, 832, 833, 834, 835, 836, 1114, 1115, 1116, 1117, 1118, 1119, 1120, 1121, 1122, 1123, 1124, 1125, 1126, 1127, 1128, 1129, 1130, 1131, 1132, 1133, 1134, 1135, 1136, 1137, 1138, 1139, 1140, 1141, 1142] (by decide +kernel) (by decide +kernel)
set_option maxRecDepth 20000 in
theorem gL_law_X9_home : GoodIn wsL_law (wsV RL 81 RX9 yX9_home wsX9_home) := goodIn_app (goodIn_of _ (by decide +kernel)) ggL_law_X9_home
set_option maxRecDepth 20000 in
theorem ggL_law_X9_image : GoodIn wsL_law wsX9_image := goodIn_r _ [960, 179, 181, 466, 638, 145, 135, 144, 187, 188, 5, 189, 1114, 1115, 1116, 1117, 1118, 1119, 1120, 1121, 1122, 1123, 1124, 1125, 1126, 1127, 1128, 1129, 1130, 1131, 1132, 1133, 1134, 1135, 1136, 1137, 1138, 1139, 1140, 1141, 1142] (by decide +kernel) (by decide +kernel)
set_option maxRecDepth 20000 in
theorem gL_law_X9_image : GoodIn wsL_law (wsV RL 105 RX9 yX9_image wsX9_image) := goodIn_app (goodIn_of _ (by decide +kernel)) ggL_law_X9_image
set_option maxRecDepth 20000 in
theorem ggL_law_X9_kind : GoodIn wsL_law wsX9_kind := goodIn_r _ [985, 179, 181, 579, 580, 581, 5, 582, 583, 187, 188, 189, 584, 585, 586, 587, 135, 986, 987, 988, 989, 1114, 1115, 1116, 1117, 1118, 1119, 1120, 1121, 1122, 1123, 1124, 1125, 1126, 1127, 1128, 1129, 1130, 1131, 1132, 1133, 1134, 1135, 1136, 1137, 1138, 1139, 1140, 1141, 1142] (by decide +kernel) (by decide +kernel)
set_option maxRecDepth 20000 in
theorem gL_law_X9_kind : GoodIn wsL_law (wsV RL 113 RX9 yX9_kind wsX9_kind) := goodIn_app (goodIn_of _ (by decide +kernel)) ggL_law_X9_kind
set_option maxRecDepth 20000 in
theorem ggL_law_X9_nothing : GoodIn wsL_law wsX9_nothing := goodIn_r _ [844, 179, 181, 138, 478, 679, 680, 681, 5, 682, 135, 187, 188, 189, 688, 689, 690, 691, 817, 818, 819, 820, 816, 139, 821, 822, 823, 824, 140, 141, 575, 576, 577, 578, 579, 580, 581, 582, 583, 584, 585, 586, 587, 591, 592, 593, 594, 574, 573, 595, 596, 597, 598, 599, 600, 601, 602, 603, 604, 605, 606, 607, 608, 696, 697, 698, 699, 613, 614, 615, 616, 609, 610, 611, 612, 825, 826, 827, 828, 829, 830, 831, 832, 1114, 1115, 1116, 1117, 1118, 1119, 1120, 1121, 1122, 1123, 1124, 1125, 1126, 1127, 1128, 1129, 1130, 1131, 1132, 1133, 1134, 1135, 1136, 1137, 1138, 1139, 1140, 1141, 1142] (by decide +kernel) (by decide +kernel)
set_option maxRecDepth 20000 in
theorem gL_law_X9_nothing : GoodIn wsL_law (wsV RL 85 RX9 yX9_nothing wsX9_nothing) := goodIn_app (goodIn_of _ (by decide +kernel)) ggL_law_X9_nothing
set_option maxRecDepth 20000 in
theorem ggL_law_X9_restore : GoodIn wsL_law wsX9_restore := goodIn_r _ [968, 179, 181, 144, 638, 135, 145, 187, 188, 5, 189, 1114, 1115, 1116, 1117, 1118, 1119, 1120, 1121, 1122, 1123, 1124, 1125, 1126, 1127, 1128, 1129, 1130, 1131, 1132, 1133, 1134, 1135, 1136, 1137, 1138, 1139, 1140, 1141, 1142] (by decide +kernel) (by decide +kernel)
set_option maxRecDepth 20000 in
theorem gL_law_X9_restore : GoodIn wsL_law (wsV RL 109 RX9 yX9_restore wsX9_restore) := goodIn_app (goodIn_of _ (by decide +kernel)) ggL_law_X9_restore
set_option maxRecDepth 20000 in
theorem ggL_law_X9_rivals : GoodIn wsL_law wsX9_rivals := goodIn_r _ [930, 179, 466, 638, 931, 643, 181, 142, 135, 478, 187, 188, 5, 189, 932, 933, 934, 935, 936, 937, 938, 939, 579, 580, 581, 582, 583, 584, 585, 586, 587, 908, 909, 910, 911, 900, 901, 902, 903, 904, 905, 906, 907, 139, 816, 140, 141, 817, 818, 819, 820, 138, 821, 822, 823, 824, 575, 576, 577, 578, 591, 592, 593, 594, 574, 573, 595, 596, 597, 598, 599, 600, 601, 602, 603, 604, 605, 606, 607, 608, 696, 697, 698, 699, 613, 614, 615, 616, 688, 689, 690, 691, 609, 610, 611, 612, 825, 826, 827, 828, 829, 830, 831, 832, 833, 834, 835, 836, 1114, 1115, 1116, 1117, 1118, 1119, 1120, 1121, 1122, 1123, 1124, 1125, 1126, 1127, 1128, 1129, 1130, 1131, 1132, 1133, 1134, 1135, 1136, 1137, 1138, 1139, 1140, 1141, 1142] (by decide +kernel) (by decide +kernel)
set_option maxRecDepth 20000 in
theorem gL_law_X9_rivals : GoodIn wsL_law (wsV RL 97 RX9 yX9_rivals wsX9_rivals) := goodIn_app (goodIn_of _ (by decide +kernel)) ggL_law_X9_rivals
set_option maxRecDepth 20000 in
theorem ggL_law_X9_status : GoodIn wsL_law wsX9_status := goodIn_r _ [1100, 179, 182, 1114, 1115, 1116, 1117, 1118, 1119, 1120, 1121, 1122, 1123, 1124, 1125, 1126, 1127, 1128, 1129, 1130, 1131, 1132, 1133, 1134, 1135, 1136, 1137, 1138, 1139, 1140, 1141, 1142] (by decide +kernel) (by decide +kernel)
set_option maxRecDepth 20000 in
theorem gL_law_X9_status : GoodIn wsL_law (wsV RL 133 RX9 yX9_status wsX9_status) := goodIn_app (goodIn_of _ (by decide +kernel)) ggL_law_X9_status
set_option maxRecDepth 20000 in
theorem ggL_law_X9_trace : GoodIn wsL_law wsX9_trace := goodIn_r _ [1065, 179, 1035, 146, 478, 187, 188, 5, 189, 1114, 1115, 1116, 1117, 1118, 1119, 1120, 1121, 1122, 1123, 1124, 1125, 1126, 1127, 1128, 1129, 1130, 1131, 1132, 1133, 1134, 1135, 1136, 1137, 1138, 1139, 1140, 1141, 1142] (by decide +kernel) (by decide +kernel)
set_option maxRecDepth 20000 in
theorem gL_law_X9_trace : GoodIn wsL_law (wsV RL 125 RX9 yX9_trace wsX9_trace) := goodIn_app (goodIn_of _ (by decide +kernel)) ggL_law_X9_trace
set_option maxRecDepth 20000 in
theorem ggL_law_X9_wall : GoodIn wsL_law wsX9_wall := goodIn_r _ [952, 179, 181, 135, 575, 576, 577, 5, 578, 579, 580, 581, 582, 583, 187, 188, 189, 584, 585, 586, 587, 640, 641, 642, 643, 688, 689, 690, 691, 900, 901, 902, 903, 904, 905, 906, 907, 139, 816, 140, 141, 817, 818, 819, 820, 138, 821, 822, 823, 824, 591, 592, 593, 594, 574, 573, 595, 596, 597, 598, 599, 600, 601, 602, 603, 604, 605, 606, 607, 608, 696, 697, 698, 699, 613, 614, 615, 616, 609, 610, 611, 612, 825, 826, 827, 828, 829, 830, 831, 832, 833, 834, 835, 836, 478, 1114, 1115, 1116, 1117, 1118, 1119, 1120, 1121, 1122, 1123, 1124, 1125, 1126, 1127, 1128, 1129, 1130, 1131, 1132, 1133, 1134, 1135, 1136, 1137, 1138, 1139, 1140, 1141, 1142] (by decide +kernel) (by decide +kernel)
set_option maxRecDepth 20000 in
theorem gL_law_X9_wall : GoodIn wsL_law (wsV RL 101 RX9 yX9_wall wsX9_wall) := goodIn_app (goodIn_of _ (by decide +kernel)) ggL_law_X9_wall
theorem dL_law_1000 : decode cL_law 1000 = .ok (.iload_n 3, 1) := by decide +kernel
theorem dL_law_1001 : decode cL_law 1001 = .ok (.iconst 1, 1) := by decide +kernel
theorem dL_law_1002 : decode cL_law 1002 = .ok (.iadd, 1) := by decide +kernel
theorem dL_law_1003 : decode cL_law 1003 = .ok (.iaload, 1) := by decide +kernel
theorem dL_law_1004 : decode cL_law 1004 = .ok (.invokevirtual 126, 3) := by decide +kernel
theorem dL_law_1007 : decode cL_law 1007 = .ok (.pop, 1) := by decide +kernel
theorem dL_law_1008 : decode cL_law 1008 = .ok (.aload_n 2, 1) := by decide +kernel
theorem dL_law_1009 : decode cL_law 1009 = .ok (.aload_n 0, 1) := by decide +kernel
theorem dL_law_1010 : decode cL_law 1010 = .ok (.iload_n 3, 1) := by decide +kernel
theorem dL_law_1011 : decode cL_law 1011 = .ok (.iconst 1, 1) := by decide +kernel
theorem dL_law_1012 : decode cL_law 1012 = .ok (.iadd, 1) := by decide +kernel
theorem dL_law_1013 : decode cL_law 1013 = .ok (.iaload, 1) := by decide +kernel
theorem dL_law_1014 : decode cL_law 1014 = .ok (.invokevirtual 129, 3) := by decide +kernel
theorem dL_law_1017 : decode cL_law 1017 = .ok (.pop, 1) := by decide +kernel
theorem dL_law_1018 : decode cL_law 1018 = .ok (.goto 16, 3) := by decide +kernel
theorem dL_law_1021 : decode cL_law 1021 = .ok (.aload_n 1, 1) := by decide +kernel
theorem dL_law_1022 : decode cL_law 1022 = .ok (.invokevirtual 130, 3) := by decide +kernel
theorem dL_law_1025 : decode cL_law 1025 = .ok (.pop, 1) := by decide +kernel
theorem dL_law_1026 : decode cL_law 1026 = .ok (.aload_n 2, 1) := by decide +kernel
theorem dL_law_1027 : decode cL_law 1027 = .ok (.invokevirtual 133, 3) := by decide +kernel
theorem dL_law_1030 : decode cL_law 1030 = .ok (.pop, 1) := by decide +kernel
theorem dL_law_1031 : decode cL_law 1031 = .ok (.goto 3, 3) := by decide +kernel
theorem dL_law_662 : decode cL_law 662 = .ok (.aload_n 1, 1) := by decide +kernel
theorem dL_law_663 : decode cL_law 663 = .ok (.aload_n 0, 1) := by decide +kernel
theorem dL_law_664 : decode cL_law 664 = .ok (.iload_n 3, 1) := by decide +kernel
theorem dL_law_665 : decode cL_law 665 = .ok (.iconst 1, 1) := by decide +kernel
theorem dL_law_666 : decode cL_law 666 = .ok (.iadd, 1) := by decide +kernel
theorem dL_law_667 : decode cL_law 667 = .ok (.iaload, 1) := by decide +kernel
theorem dL_law_668 : decode cL_law 668 = .ok (.aload_n 0, 1) := by decide +kernel
theorem dL_law_669 : decode cL_law 669 = .ok (.iload_n 3, 1) := by decide +kernel
theorem dL_law_670 : decode cL_law 670 = .ok (.iconst 2, 1) := by decide +kernel
theorem dL_law_671 : decode cL_law 671 = .ok (.iadd, 1) := by decide +kernel
theorem dL_law_672 : decode cL_law 672 = .ok (.iaload, 1) := by decide +kernel
theorem dL_law_673 : decode cL_law 673 = .ok (.aload_n 0, 1) := by decide +kernel
theorem dL_law_674 : decode cL_law 674 = .ok (.iload_n 3, 1) := by decide +kernel
theorem dL_law_675 : decode cL_law 675 = .ok (.iconst 3, 1) := by decide +kernel
theorem dL_law_676 : decode cL_law 676 = .ok (.iadd, 1) := by decide +kernel
theorem dL_law_677 : decode cL_law 677 = .ok (.iaload, 1) := by decide +kernel
theorem dL_law_678 : decode cL_law 678 = .ok (.invokevirtual 78, 3) := by decide +kernel
theorem dL_law_681 : decode cL_law 681 = .ok (.pop, 1) := by decide +kernel
theorem dL_law_682 : decode cL_law 682 = .ok (.aload_n 2, 1) := by decide +kernel
theorem dL_law_683 : decode cL_law 683 = .ok (.aload_n 0, 1) := by decide +kernel
theorem dL_law_684 : decode cL_law 684 = .ok (.iload_n 3, 1) := by decide +kernel
theorem dL_law_685 : decode cL_law 685 = .ok (.iconst 1, 1) := by decide +kernel
theorem dL_law_686 : decode cL_law 686 = .ok (.iadd, 1) := by decide +kernel
theorem dL_law_687 : decode cL_law 687 = .ok (.iaload, 1) := by decide +kernel
theorem dL_law_688 : decode cL_law 688 = .ok (.aload_n 0, 1) := by decide +kernel
theorem dL_law_689 : decode cL_law 689 = .ok (.iload_n 3, 1) := by decide +kernel
theorem dL_law_690 : decode cL_law 690 = .ok (.iconst 2, 1) := by decide +kernel
theorem dL_law_691 : decode cL_law 691 = .ok (.iadd, 1) := by decide +kernel
theorem dL_law_692 : decode cL_law 692 = .ok (.iaload, 1) := by decide +kernel
theorem dL_law_693 : decode cL_law 693 = .ok (.aload_n 0, 1) := by decide +kernel
theorem dL_law_694 : decode cL_law 694 = .ok (.iload_n 3, 1) := by decide +kernel
theorem dL_law_695 : decode cL_law 695 = .ok (.iconst 3, 1) := by decide +kernel
theorem dL_law_696 : decode cL_law 696 = .ok (.iadd, 1) := by decide +kernel
theorem dL_law_697 : decode cL_law 697 = .ok (.iaload, 1) := by decide +kernel
theorem dL_law_698 : decode cL_law 698 = .ok (.invokevirtual 81, 3) := by decide +kernel
theorem dL_law_701 : decode cL_law 701 = .ok (.pop, 1) := by decide +kernel
theorem dL_law_702 : decode cL_law 702 = .ok (.goto 332, 3) := by decide +kernel
theorem dL_law_705 : decode cL_law 705 = .ok (.aload_n 1, 1) := by decide +kernel
theorem dL_law_706 : decode cL_law 706 = .ok (.aload_n 0, 1) := by decide +kernel
theorem dL_law_707 : decode cL_law 707 = .ok (.iload_n 3, 1) := by decide +kernel
theorem dL_law_708 : decode cL_law 708 = .ok (.iconst 1, 1) := by decide +kernel
theorem dL_law_709 : decode cL_law 709 = .ok (.iadd, 1) := by decide +kernel
theorem dL_law_710 : decode cL_law 710 = .ok (.iaload, 1) := by decide +kernel
theorem dL_law_711 : decode cL_law 711 = .ok (.invokevirtual 82, 3) := by decide +kernel
theorem dL_law_714 : decode cL_law 714 = .ok (.pop, 1) := by decide +kernel
theorem dL_law_715 : decode cL_law 715 = .ok (.aload_n 2, 1) := by decide +kernel
theorem dL_law_716 : decode cL_law 716 = .ok (.aload_n 0, 1) := by decide +kernel
theorem dL_law_717 : decode cL_law 717 = .ok (.iload_n 3, 1) := by decide +kernel
theorem dL_law_718 : decode cL_law 718 = .ok (.iconst 1, 1) := by decide +kernel
theorem dL_law_719 : decode cL_law 719 = .ok (.iadd, 1) := by decide +kernel
theorem dL_law_720 : decode cL_law 720 = .ok (.iaload, 1) := by decide +kernel
theorem dL_law_721 : decode cL_law 721 = .ok (.invokevirtual 85, 3) := by decide +kernel
theorem dL_law_724 : decode cL_law 724 = .ok (.pop, 1) := by decide +kernel
theorem dL_law_725 : decode cL_law 725 = .ok (.goto 309, 3) := by decide +kernel
theorem dL_law_728 : decode cL_law 728 = .ok (.aload_n 1, 1) := by decide +kernel
theorem dL_law_729 : decode cL_law 729 = .ok (.aload_n 0, 1) := by decide +kernel
theorem dL_law_730 : decode cL_law 730 = .ok (.iload_n 3, 1) := by decide +kernel
theorem dL_law_731 : decode cL_law 731 = .ok (.iconst 1, 1) := by decide +kernel
theorem dL_law_732 : decode cL_law 732 = .ok (.iadd, 1) := by decide +kernel
theorem dL_law_733 : decode cL_law 733 = .ok (.iaload, 1) := by decide +kernel
theorem dL_law_734 : decode cL_law 734 = .ok (.invokevirtual 86, 3) := by decide +kernel
theorem dL_law_737 : decode cL_law 737 = .ok (.pop, 1) := by decide +kernel
theorem dL_law_738 : decode cL_law 738 = .ok (.aload_n 2, 1) := by decide +kernel
theorem dL_law_739 : decode cL_law 739 = .ok (.aload_n 0, 1) := by decide +kernel
theorem dL_law_740 : decode cL_law 740 = .ok (.iload_n 3, 1) := by decide +kernel
theorem dL_law_741 : decode cL_law 741 = .ok (.iconst 1, 1) := by decide +kernel
theorem dL_law_742 : decode cL_law 742 = .ok (.iadd, 1) := by decide +kernel
theorem dL_law_743 : decode cL_law 743 = .ok (.iaload, 1) := by decide +kernel
theorem dL_law_744 : decode cL_law 744 = .ok (.invokevirtual 89, 3) := by decide +kernel
theorem dL_law_747 : decode cL_law 747 = .ok (.pop, 1) := by decide +kernel
theorem dL_law_748 : decode cL_law 748 = .ok (.goto 286, 3) := by decide +kernel
theorem dL_law_751 : decode cL_law 751 = .ok (.aload_n 1, 1) := by decide +kernel
theorem dL_law_752 : decode cL_law 752 = .ok (.aload_n 0, 1) := by decide +kernel
theorem dL_law_753 : decode cL_law 753 = .ok (.iload_n 3, 1) := by decide +kernel
theorem dL_law_754 : decode cL_law 754 = .ok (.iconst 1, 1) := by decide +kernel
theorem dL_law_755 : decode cL_law 755 = .ok (.iadd, 1) := by decide +kernel
theorem dL_law_756 : decode cL_law 756 = .ok (.iaload, 1) := by decide +kernel
theorem dL_law_757 : decode cL_law 757 = .ok (.aload_n 0, 1) := by decide +kernel
theorem dL_law_758 : decode cL_law 758 = .ok (.iload_n 3, 1) := by decide +kernel
theorem dL_law_759 : decode cL_law 759 = .ok (.iconst 2, 1) := by decide +kernel
theorem dL_law_760 : decode cL_law 760 = .ok (.iadd, 1) := by decide +kernel
theorem dL_law_761 : decode cL_law 761 = .ok (.iaload, 1) := by decide +kernel
theorem dL_law_762 : decode cL_law 762 = .ok (.invokevirtual 90, 3) := by decide +kernel
theorem dL_law_765 : decode cL_law 765 = .ok (.pop, 1) := by decide +kernel
theorem dL_law_766 : decode cL_law 766 = .ok (.aload_n 2, 1) := by decide +kernel
theorem dL_law_767 : decode cL_law 767 = .ok (.aload_n 0, 1) := by decide +kernel
theorem dL_law_768 : decode cL_law 768 = .ok (.iload_n 3, 1) := by decide +kernel
theorem dL_law_769 : decode cL_law 769 = .ok (.iconst 1, 1) := by decide +kernel
theorem dL_law_770 : decode cL_law 770 = .ok (.iadd, 1) := by decide +kernel
theorem dL_law_771 : decode cL_law 771 = .ok (.iaload, 1) := by decide +kernel
theorem dL_law_772 : decode cL_law 772 = .ok (.aload_n 0, 1) := by decide +kernel
theorem dL_law_773 : decode cL_law 773 = .ok (.iload_n 3, 1) := by decide +kernel
theorem dL_law_774 : decode cL_law 774 = .ok (.iconst 2, 1) := by decide +kernel
theorem dL_law_775 : decode cL_law 775 = .ok (.iadd, 1) := by decide +kernel
theorem dL_law_776 : decode cL_law 776 = .ok (.iaload, 1) := by decide +kernel
theorem dL_law_777 : decode cL_law 777 = .ok (.invokevirtual 93, 3) := by decide +kernel
theorem dL_law_780 : decode cL_law 780 = .ok (.pop, 1) := by decide +kernel
theorem dL_law_781 : decode cL_law 781 = .ok (.goto 253, 3) := by decide +kernel
theorem dL_law_784 : decode cL_law 784 = .ok (.aload_n 1, 1) := by decide +kernel
theorem dL_law_785 : decode cL_law 785 = .ok (.aload_n 0, 1) := by decide +kernel
theorem dL_law_786 : decode cL_law 786 = .ok (.iload_n 3, 1) := by decide +kernel
theorem dL_law_787 : decode cL_law 787 = .ok (.iconst 1, 1) := by decide +kernel
theorem dL_law_788 : decode cL_law 788 = .ok (.iadd, 1) := by decide +kernel
theorem dL_law_789 : decode cL_law 789 = .ok (.iaload, 1) := by decide +kernel
theorem dL_law_790 : decode cL_law 790 = .ok (.invokevirtual 94, 3) := by decide +kernel
theorem dL_law_793 : decode cL_law 793 = .ok (.pop, 1) := by decide +kernel
theorem dL_law_794 : decode cL_law 794 = .ok (.aload_n 2, 1) := by decide +kernel
theorem dL_law_795 : decode cL_law 795 = .ok (.aload_n 0, 1) := by decide +kernel
theorem dL_law_796 : decode cL_law 796 = .ok (.iload_n 3, 1) := by decide +kernel
theorem dL_law_797 : decode cL_law 797 = .ok (.iconst 1, 1) := by decide +kernel
theorem dL_law_798 : decode cL_law 798 = .ok (.iadd, 1) := by decide +kernel
theorem dL_law_799 : decode cL_law 799 = .ok (.iaload, 1) := by decide +kernel
theorem dL_law_800 : decode cL_law 800 = .ok (.invokevirtual 97, 3) := by decide +kernel
theorem dL_law_803 : decode cL_law 803 = .ok (.pop, 1) := by decide +kernel
theorem dL_law_804 : decode cL_law 804 = .ok (.goto 230, 3) := by decide +kernel
theorem dL_law_807 : decode cL_law 807 = .ok (.aload_n 1, 1) := by decide +kernel
theorem dL_law_808 : decode cL_law 808 = .ok (.aload_n 0, 1) := by decide +kernel
theorem dL_law_809 : decode cL_law 809 = .ok (.iload_n 3, 1) := by decide +kernel
theorem dL_law_810 : decode cL_law 810 = .ok (.iconst 1, 1) := by decide +kernel
theorem dL_law_811 : decode cL_law 811 = .ok (.iadd, 1) := by decide +kernel
theorem dL_law_812 : decode cL_law 812 = .ok (.iaload, 1) := by decide +kernel
theorem dL_law_813 : decode cL_law 813 = .ok (.aload_n 0, 1) := by decide +kernel
theorem dL_law_814 : decode cL_law 814 = .ok (.iload_n 3, 1) := by decide +kernel
theorem dL_law_815 : decode cL_law 815 = .ok (.iconst 2, 1) := by decide +kernel
theorem dL_law_816 : decode cL_law 816 = .ok (.iadd, 1) := by decide +kernel
theorem dL_law_817 : decode cL_law 817 = .ok (.iaload, 1) := by decide +kernel
theorem dL_law_818 : decode cL_law 818 = .ok (.invokevirtual 98, 3) := by decide +kernel
theorem dL_law_821 : decode cL_law 821 = .ok (.pop, 1) := by decide +kernel
theorem dL_law_822 : decode cL_law 822 = .ok (.aload_n 2, 1) := by decide +kernel
theorem dL_law_823 : decode cL_law 823 = .ok (.aload_n 0, 1) := by decide +kernel
theorem dL_law_824 : decode cL_law 824 = .ok (.iload_n 3, 1) := by decide +kernel
theorem dL_law_825 : decode cL_law 825 = .ok (.iconst 1, 1) := by decide +kernel
theorem dL_law_826 : decode cL_law 826 = .ok (.iadd, 1) := by decide +kernel
theorem dL_law_827 : decode cL_law 827 = .ok (.iaload, 1) := by decide +kernel
theorem dL_law_828 : decode cL_law 828 = .ok (.aload_n 0, 1) := by decide +kernel
theorem dL_law_829 : decode cL_law 829 = .ok (.iload_n 3, 1) := by decide +kernel
theorem dL_law_830 : decode cL_law 830 = .ok (.iconst 2, 1) := by decide +kernel
theorem dL_law_831 : decode cL_law 831 = .ok (.iadd, 1) := by decide +kernel
theorem dL_law_832 : decode cL_law 832 = .ok (.iaload, 1) := by decide +kernel
theorem dL_law_833 : decode cL_law 833 = .ok (.invokevirtual 101, 3) := by decide +kernel
theorem dL_law_836 : decode cL_law 836 = .ok (.pop, 1) := by decide +kernel
theorem dL_law_837 : decode cL_law 837 = .ok (.goto 197, 3) := by decide +kernel
theorem dL_law_840 : decode cL_law 840 = .ok (.aload_n 1, 1) := by decide +kernel
theorem dL_law_841 : decode cL_law 841 = .ok (.aload_n 0, 1) := by decide +kernel
theorem dL_law_842 : decode cL_law 842 = .ok (.iload_n 3, 1) := by decide +kernel
theorem dL_law_843 : decode cL_law 843 = .ok (.iconst 1, 1) := by decide +kernel
theorem dL_law_844 : decode cL_law 844 = .ok (.iadd, 1) := by decide +kernel
theorem dL_law_845 : decode cL_law 845 = .ok (.iaload, 1) := by decide +kernel
theorem dL_law_846 : decode cL_law 846 = .ok (.invokevirtual 102, 3) := by decide +kernel
theorem dL_law_849 : decode cL_law 849 = .ok (.pop, 1) := by decide +kernel
theorem dL_law_850 : decode cL_law 850 = .ok (.aload_n 2, 1) := by decide +kernel
theorem dL_law_851 : decode cL_law 851 = .ok (.aload_n 0, 1) := by decide +kernel
theorem dL_law_852 : decode cL_law 852 = .ok (.iload_n 3, 1) := by decide +kernel
theorem dL_law_853 : decode cL_law 853 = .ok (.iconst 1, 1) := by decide +kernel
theorem dL_law_854 : decode cL_law 854 = .ok (.iadd, 1) := by decide +kernel
theorem dL_law_855 : decode cL_law 855 = .ok (.iaload, 1) := by decide +kernel
theorem dL_law_856 : decode cL_law 856 = .ok (.invokevirtual 105, 3) := by decide +kernel
theorem dL_law_859 : decode cL_law 859 = .ok (.pop, 1) := by decide +kernel
theorem dL_law_860 : decode cL_law 860 = .ok (.goto 174, 3) := by decide +kernel
theorem dL_law_863 : decode cL_law 863 = .ok (.aload_n 1, 1) := by decide +kernel
theorem dL_law_864 : decode cL_law 864 = .ok (.aload_n 0, 1) := by decide +kernel
theorem dL_law_865 : decode cL_law 865 = .ok (.iload_n 3, 1) := by decide +kernel
theorem dL_law_866 : decode cL_law 866 = .ok (.iconst 1, 1) := by decide +kernel
theorem dL_law_867 : decode cL_law 867 = .ok (.iadd, 1) := by decide +kernel
theorem dL_law_868 : decode cL_law 868 = .ok (.iaload, 1) := by decide +kernel
theorem dL_law_869 : decode cL_law 869 = .ok (.invokevirtual 106, 3) := by decide +kernel
theorem dL_law_872 : decode cL_law 872 = .ok (.pop, 1) := by decide +kernel
theorem dL_law_873 : decode cL_law 873 = .ok (.aload_n 2, 1) := by decide +kernel
theorem dL_law_874 : decode cL_law 874 = .ok (.aload_n 0, 1) := by decide +kernel
theorem dL_law_875 : decode cL_law 875 = .ok (.iload_n 3, 1) := by decide +kernel
theorem dL_law_876 : decode cL_law 876 = .ok (.iconst 1, 1) := by decide +kernel
theorem dL_law_877 : decode cL_law 877 = .ok (.iadd, 1) := by decide +kernel
theorem dL_law_878 : decode cL_law 878 = .ok (.iaload, 1) := by decide +kernel
theorem dL_law_879 : decode cL_law 879 = .ok (.invokevirtual 109, 3) := by decide +kernel
theorem dL_law_882 : decode cL_law 882 = .ok (.pop, 1) := by decide +kernel
theorem dL_law_883 : decode cL_law 883 = .ok (.goto 151, 3) := by decide +kernel
theorem dL_law_886 : decode cL_law 886 = .ok (.aload_n 1, 1) := by decide +kernel
theorem dL_law_887 : decode cL_law 887 = .ok (.aload_n 0, 1) := by decide +kernel
theorem dL_law_888 : decode cL_law 888 = .ok (.iload_n 3, 1) := by decide +kernel
theorem dL_law_889 : decode cL_law 889 = .ok (.iconst 1, 1) := by decide +kernel
theorem dL_law_890 : decode cL_law 890 = .ok (.iadd, 1) := by decide +kernel
theorem dL_law_891 : decode cL_law 891 = .ok (.iaload, 1) := by decide +kernel
theorem dL_law_892 : decode cL_law 892 = .ok (.invokevirtual 110, 3) := by decide +kernel
theorem dL_law_895 : decode cL_law 895 = .ok (.pop, 1) := by decide +kernel
theorem dL_law_896 : decode cL_law 896 = .ok (.aload_n 2, 1) := by decide +kernel
theorem dL_law_897 : decode cL_law 897 = .ok (.aload_n 0, 1) := by decide +kernel
theorem dL_law_898 : decode cL_law 898 = .ok (.iload_n 3, 1) := by decide +kernel
theorem dL_law_899 : decode cL_law 899 = .ok (.iconst 1, 1) := by decide +kernel
theorem dL_law_900 : decode cL_law 900 = .ok (.iadd, 1) := by decide +kernel
theorem dL_law_901 : decode cL_law 901 = .ok (.iaload, 1) := by decide +kernel
theorem dL_law_902 : decode cL_law 902 = .ok (.invokevirtual 113, 3) := by decide +kernel
theorem dL_law_905 : decode cL_law 905 = .ok (.pop, 1) := by decide +kernel
theorem dL_law_906 : decode cL_law 906 = .ok (.goto 128, 3) := by decide +kernel
theorem dL_law_909 : decode cL_law 909 = .ok (.aload_n 1, 1) := by decide +kernel
theorem dL_law_910 : decode cL_law 910 = .ok (.aload_n 0, 1) := by decide +kernel
theorem dL_law_911 : decode cL_law 911 = .ok (.iload_n 3, 1) := by decide +kernel
theorem dL_law_912 : decode cL_law 912 = .ok (.iconst 1, 1) := by decide +kernel
theorem dL_law_913 : decode cL_law 913 = .ok (.iadd, 1) := by decide +kernel
theorem dL_law_914 : decode cL_law 914 = .ok (.iaload, 1) := by decide +kernel
theorem dL_law_915 : decode cL_law 915 = .ok (.aload_n 0, 1) := by decide +kernel
theorem dL_law_916 : decode cL_law 916 = .ok (.iload_n 3, 1) := by decide +kernel
theorem dL_law_917 : decode cL_law 917 = .ok (.iconst 2, 1) := by decide +kernel
theorem dL_law_918 : decode cL_law 918 = .ok (.iadd, 1) := by decide +kernel
theorem dL_law_919 : decode cL_law 919 = .ok (.iaload, 1) := by decide +kernel
theorem dL_law_920 : decode cL_law 920 = .ok (.invokevirtual 114, 3) := by decide +kernel
theorem dL_law_923 : decode cL_law 923 = .ok (.pop, 1) := by decide +kernel
theorem dL_law_924 : decode cL_law 924 = .ok (.aload_n 2, 1) := by decide +kernel
theorem dL_law_925 : decode cL_law 925 = .ok (.aload_n 0, 1) := by decide +kernel
theorem dL_law_926 : decode cL_law 926 = .ok (.iload_n 3, 1) := by decide +kernel
theorem dL_law_927 : decode cL_law 927 = .ok (.iconst 1, 1) := by decide +kernel
theorem dL_law_928 : decode cL_law 928 = .ok (.iadd, 1) := by decide +kernel
theorem dL_law_929 : decode cL_law 929 = .ok (.iaload, 1) := by decide +kernel
theorem dL_law_930 : decode cL_law 930 = .ok (.aload_n 0, 1) := by decide +kernel
theorem dL_law_931 : decode cL_law 931 = .ok (.iload_n 3, 1) := by decide +kernel
theorem dL_law_932 : decode cL_law 932 = .ok (.iconst 2, 1) := by decide +kernel
theorem dL_law_933 : decode cL_law 933 = .ok (.iadd, 1) := by decide +kernel
theorem dL_law_934 : decode cL_law 934 = .ok (.iaload, 1) := by decide +kernel
theorem dL_law_935 : decode cL_law 935 = .ok (.invokevirtual 117, 3) := by decide +kernel
theorem dL_law_938 : decode cL_law 938 = .ok (.pop, 1) := by decide +kernel
theorem dL_law_939 : decode cL_law 939 = .ok (.goto 95, 3) := by decide +kernel
theorem dL_law_942 : decode cL_law 942 = .ok (.aload_n 1, 1) := by decide +kernel
theorem dL_law_943 : decode cL_law 943 = .ok (.aload_n 0, 1) := by decide +kernel
theorem dL_law_944 : decode cL_law 944 = .ok (.iload_n 3, 1) := by decide +kernel
theorem dL_law_945 : decode cL_law 945 = .ok (.iconst 1, 1) := by decide +kernel
theorem dL_law_946 : decode cL_law 946 = .ok (.iadd, 1) := by decide +kernel
theorem dL_law_947 : decode cL_law 947 = .ok (.iaload, 1) := by decide +kernel
theorem dL_law_948 : decode cL_law 948 = .ok (.aload_n 0, 1) := by decide +kernel
theorem dL_law_949 : decode cL_law 949 = .ok (.iload_n 3, 1) := by decide +kernel
theorem dL_law_950 : decode cL_law 950 = .ok (.iconst 2, 1) := by decide +kernel
theorem dL_law_951 : decode cL_law 951 = .ok (.iadd, 1) := by decide +kernel
theorem dL_law_952 : decode cL_law 952 = .ok (.iaload, 1) := by decide +kernel
theorem dL_law_953 : decode cL_law 953 = .ok (.invokevirtual 118, 3) := by decide +kernel
theorem dL_law_956 : decode cL_law 956 = .ok (.pop, 1) := by decide +kernel
theorem dL_law_957 : decode cL_law 957 = .ok (.aload_n 2, 1) := by decide +kernel
theorem dL_law_958 : decode cL_law 958 = .ok (.aload_n 0, 1) := by decide +kernel
theorem dL_law_959 : decode cL_law 959 = .ok (.iload_n 3, 1) := by decide +kernel
theorem dL_law_960 : decode cL_law 960 = .ok (.iconst 1, 1) := by decide +kernel
theorem dL_law_961 : decode cL_law 961 = .ok (.iadd, 1) := by decide +kernel
theorem dL_law_962 : decode cL_law 962 = .ok (.iaload, 1) := by decide +kernel
theorem dL_law_963 : decode cL_law 963 = .ok (.aload_n 0, 1) := by decide +kernel
theorem dL_law_964 : decode cL_law 964 = .ok (.iload_n 3, 1) := by decide +kernel
theorem dL_law_965 : decode cL_law 965 = .ok (.iconst 2, 1) := by decide +kernel
theorem dL_law_966 : decode cL_law 966 = .ok (.iadd, 1) := by decide +kernel
theorem dL_law_967 : decode cL_law 967 = .ok (.iaload, 1) := by decide +kernel
theorem dL_law_968 : decode cL_law 968 = .ok (.invokevirtual 121, 3) := by decide +kernel
theorem dL_law_971 : decode cL_law 971 = .ok (.pop, 1) := by decide +kernel
theorem dL_law_972 : decode cL_law 972 = .ok (.goto 62, 3) := by decide +kernel
theorem dL_law_975 : decode cL_law 975 = .ok (.aload_n 1, 1) := by decide +kernel
theorem dL_law_976 : decode cL_law 976 = .ok (.aload_n 0, 1) := by decide +kernel
theorem dL_law_977 : decode cL_law 977 = .ok (.iload_n 3, 1) := by decide +kernel
theorem dL_law_978 : decode cL_law 978 = .ok (.iconst 1, 1) := by decide +kernel
theorem dL_law_979 : decode cL_law 979 = .ok (.iadd, 1) := by decide +kernel
theorem dL_law_980 : decode cL_law 980 = .ok (.iaload, 1) := by decide +kernel
theorem dL_law_981 : decode cL_law 981 = .ok (.invokevirtual 122, 3) := by decide +kernel
theorem dL_law_984 : decode cL_law 984 = .ok (.pop, 1) := by decide +kernel
theorem dL_law_985 : decode cL_law 985 = .ok (.aload_n 2, 1) := by decide +kernel
theorem dL_law_986 : decode cL_law 986 = .ok (.aload_n 0, 1) := by decide +kernel
theorem dL_law_987 : decode cL_law 987 = .ok (.iload_n 3, 1) := by decide +kernel
theorem dL_law_988 : decode cL_law 988 = .ok (.iconst 1, 1) := by decide +kernel
theorem dL_law_989 : decode cL_law 989 = .ok (.iadd, 1) := by decide +kernel
theorem dL_law_990 : decode cL_law 990 = .ok (.iaload, 1) := by decide +kernel
theorem dL_law_991 : decode cL_law 991 = .ok (.invokevirtual 125, 3) := by decide +kernel
theorem dL_law_994 : decode cL_law 994 = .ok (.pop, 1) := by decide +kernel
theorem dL_law_995 : decode cL_law 995 = .ok (.goto 39, 3) := by decide +kernel
theorem dL_law_998 : decode cL_law 998 = .ok (.aload_n 1, 1) := by decide +kernel
theorem dL_law_999 : decode cL_law 999 = .ok (.aload_n 0, 1) := by decide +kernel
theorem hdV_X8_as : yX8_as.cls = RX8 ∧ yX8_as.cls ≠ "java/lang/invoke/MethodHandle" ∧ yX8_as.cls ≠ "java/lang/invoke/VarHandle" ∧ (parseMethodDescriptor yX8_as.desc).map (fun d => d.parameters.length) = some 2 := by decide +kernel
theorem hdV_X8_ask : yX8_ask.cls = RX8 ∧ yX8_ask.cls ≠ "java/lang/invoke/MethodHandle" ∧ yX8_ask.cls ≠ "java/lang/invoke/VarHandle" ∧ (parseMethodDescriptor yX8_ask.desc).map (fun d => d.parameters.length) = some 2 := by decide +kernel
theorem hdV_X8_beauty : yX8_beauty.cls = RX8 ∧ yX8_beauty.cls ≠ "java/lang/invoke/MethodHandle" ∧ yX8_beauty.cls ≠ "java/lang/invoke/VarHandle" ∧ (parseMethodDescriptor yX8_beauty.desc).map (fun d => d.parameters.length) = some 1 := by decide +kernel
theorem hdV_X8_count : yX8_count.cls = RX8 ∧ yX8_count.cls ≠ "java/lang/invoke/MethodHandle" ∧ yX8_count.cls ≠ "java/lang/invoke/VarHandle" ∧ (parseMethodDescriptor yX8_count.desc).map (fun d => d.parameters.length) = some 1 := by decide +kernel
theorem hdV_X8_earns : yX8_earns.cls = RX8 ∧ yX8_earns.cls ≠ "java/lang/invoke/MethodHandle" ∧ yX8_earns.cls ≠ "java/lang/invoke/VarHandle" ∧ (parseMethodDescriptor yX8_earns.desc).map (fun d => d.parameters.length) = some 2 := by decide +kernel
theorem hdV_X8_home : yX8_home.cls = RX8 ∧ yX8_home.cls ≠ "java/lang/invoke/MethodHandle" ∧ yX8_home.cls ≠ "java/lang/invoke/VarHandle" ∧ (parseMethodDescriptor yX8_home.desc).map (fun d => d.parameters.length) = some 3 := by decide +kernel
theorem hdV_X8_image : yX8_image.cls = RX8 ∧ yX8_image.cls ≠ "java/lang/invoke/MethodHandle" ∧ yX8_image.cls ≠ "java/lang/invoke/VarHandle" ∧ (parseMethodDescriptor yX8_image.desc).map (fun d => d.parameters.length) = some 1 := by decide +kernel
theorem hdV_X8_kind : yX8_kind.cls = RX8 ∧ yX8_kind.cls ≠ "java/lang/invoke/MethodHandle" ∧ yX8_kind.cls ≠ "java/lang/invoke/VarHandle" ∧ (parseMethodDescriptor yX8_kind.desc).map (fun d => d.parameters.length) = some 1 := by decide +kernel
theorem hdV_X8_nothing : yX8_nothing.cls = RX8 ∧ yX8_nothing.cls ≠ "java/lang/invoke/MethodHandle" ∧ yX8_nothing.cls ≠ "java/lang/invoke/VarHandle" ∧ (parseMethodDescriptor yX8_nothing.desc).map (fun d => d.parameters.length) = some 1 := by decide +kernel
theorem hdV_X8_restore : yX8_restore.cls = RX8 ∧ yX8_restore.cls ≠ "java/lang/invoke/MethodHandle" ∧ yX8_restore.cls ≠ "java/lang/invoke/VarHandle" ∧ (parseMethodDescriptor yX8_restore.desc).map (fun d => d.parameters.length) = some 1 := by decide +kernel
theorem hdV_X8_rivals : yX8_rivals.cls = RX8 ∧ yX8_rivals.cls ≠ "java/lang/invoke/MethodHandle" ∧ yX8_rivals.cls ≠ "java/lang/invoke/VarHandle" ∧ (parseMethodDescriptor yX8_rivals.desc).map (fun d => d.parameters.length) = some 1 := by decide +kernel
theorem hdV_X8_status : yX8_status.cls = RX8 ∧ yX8_status.cls ≠ "java/lang/invoke/MethodHandle" ∧ yX8_status.cls ≠ "java/lang/invoke/VarHandle" ∧ (parseMethodDescriptor yX8_status.desc).map (fun d => d.parameters.length) = some 0 := by decide +kernel
theorem hdV_X8_trace : yX8_trace.cls = RX8 ∧ yX8_trace.cls ≠ "java/lang/invoke/MethodHandle" ∧ yX8_trace.cls ≠ "java/lang/invoke/VarHandle" ∧ (parseMethodDescriptor yX8_trace.desc).map (fun d => d.parameters.length) = some 1 := by decide +kernel
theorem hdV_X8_wall : yX8_wall.cls = RX8 ∧ yX8_wall.cls ≠ "java/lang/invoke/MethodHandle" ∧ yX8_wall.cls ≠ "java/lang/invoke/VarHandle" ∧ (parseMethodDescriptor yX8_wall.desc).map (fun d => d.parameters.length) = some 2 := by decide +kernel
theorem hdV_X9_as : yX9_as.cls = RX9 ∧ yX9_as.cls ≠ "java/lang/invoke/MethodHandle" ∧ yX9_as.cls ≠ "java/lang/invoke/VarHandle" ∧ (parseMethodDescriptor yX9_as.desc).map (fun d => d.parameters.length) = some 2 := by decide +kernel
theorem hdV_X9_ask : yX9_ask.cls = RX9 ∧ yX9_ask.cls ≠ "java/lang/invoke/MethodHandle" ∧ yX9_ask.cls ≠ "java/lang/invoke/VarHandle" ∧ (parseMethodDescriptor yX9_ask.desc).map (fun d => d.parameters.length) = some 2 := by decide +kernel
theorem hdV_X9_beauty : yX9_beauty.cls = RX9 ∧ yX9_beauty.cls ≠ "java/lang/invoke/MethodHandle" ∧ yX9_beauty.cls ≠ "java/lang/invoke/VarHandle" ∧ (parseMethodDescriptor yX9_beauty.desc).map (fun d => d.parameters.length) = some 1 := by decide +kernel
theorem hdV_X9_count : yX9_count.cls = RX9 ∧ yX9_count.cls ≠ "java/lang/invoke/MethodHandle" ∧ yX9_count.cls ≠ "java/lang/invoke/VarHandle" ∧ (parseMethodDescriptor yX9_count.desc).map (fun d => d.parameters.length) = some 1 := by decide +kernel
theorem hdV_X9_earns : yX9_earns.cls = RX9 ∧ yX9_earns.cls ≠ "java/lang/invoke/MethodHandle" ∧ yX9_earns.cls ≠ "java/lang/invoke/VarHandle" ∧ (parseMethodDescriptor yX9_earns.desc).map (fun d => d.parameters.length) = some 2 := by decide +kernel
theorem hdV_X9_home : yX9_home.cls = RX9 ∧ yX9_home.cls ≠ "java/lang/invoke/MethodHandle" ∧ yX9_home.cls ≠ "java/lang/invoke/VarHandle" ∧ (parseMethodDescriptor yX9_home.desc).map (fun d => d.parameters.length) = some 3 := by decide +kernel
theorem hdV_X9_image : yX9_image.cls = RX9 ∧ yX9_image.cls ≠ "java/lang/invoke/MethodHandle" ∧ yX9_image.cls ≠ "java/lang/invoke/VarHandle" ∧ (parseMethodDescriptor yX9_image.desc).map (fun d => d.parameters.length) = some 1 := by decide +kernel
theorem hdV_X9_kind : yX9_kind.cls = RX9 ∧ yX9_kind.cls ≠ "java/lang/invoke/MethodHandle" ∧ yX9_kind.cls ≠ "java/lang/invoke/VarHandle" ∧ (parseMethodDescriptor yX9_kind.desc).map (fun d => d.parameters.length) = some 1 := by decide +kernel
theorem hdV_X9_nothing : yX9_nothing.cls = RX9 ∧ yX9_nothing.cls ≠ "java/lang/invoke/MethodHandle" ∧ yX9_nothing.cls ≠ "java/lang/invoke/VarHandle" ∧ (parseMethodDescriptor yX9_nothing.desc).map (fun d => d.parameters.length) = some 1 := by decide +kernel
theorem hdV_X9_restore : yX9_restore.cls = RX9 ∧ yX9_restore.cls ≠ "java/lang/invoke/MethodHandle" ∧ yX9_restore.cls ≠ "java/lang/invoke/VarHandle" ∧ (parseMethodDescriptor yX9_restore.desc).map (fun d => d.parameters.length) = some 1 := by decide +kernel
theorem hdV_X9_rivals : yX9_rivals.cls = RX9 ∧ yX9_rivals.cls ≠ "java/lang/invoke/MethodHandle" ∧ yX9_rivals.cls ≠ "java/lang/invoke/VarHandle" ∧ (parseMethodDescriptor yX9_rivals.desc).map (fun d => d.parameters.length) = some 1 := by decide +kernel
theorem hdV_X9_status : yX9_status.cls = RX9 ∧ yX9_status.cls ≠ "java/lang/invoke/MethodHandle" ∧ yX9_status.cls ≠ "java/lang/invoke/VarHandle" ∧ (parseMethodDescriptor yX9_status.desc).map (fun d => d.parameters.length) = some 0 := by decide +kernel
theorem hdV_X9_trace : yX9_trace.cls = RX9 ∧ yX9_trace.cls ≠ "java/lang/invoke/MethodHandle" ∧ yX9_trace.cls ≠ "java/lang/invoke/VarHandle" ∧ (parseMethodDescriptor yX9_trace.desc).map (fun d => d.parameters.length) = some 1 := by decide +kernel
theorem hdV_X9_wall : yX9_wall.cls = RX9 ∧ yX9_wall.cls ≠ "java/lang/invoke/MethodHandle" ∧ yX9_wall.cls ≠ "java/lang/invoke/VarHandle" ∧ (parseMethodDescriptor yX9_wall.desc).map (fun d => d.parameters.length) = some 2 := by decide +kernel
set_option maxHeartbeats 4000000 in
set_option maxRecDepth 100000 in
theorem law_home {p : Program} (l : Launch) {e : Env} {s : State} {m : MethodId} {below : List Frame} {meth : Method} {c : Code} (D : va_G) (cI cZ cC cS : ClassId) (sq : Nat → Nat) {b L : Nat} {sc : Nat → Int32} {A : Nat → Prop} (C : lC p s m meth c b L sc A) (hK : kW D (tyW cI cZ cC cS) sq s) (hT : sT sq A s s.heap) (ad ay : Nat → Nat) (fq fim : Nat → Option Nat) (hL : L ≤ 3072) (i : Int32) (hi : 0 ≤ i.toInt ∧ i.toInt + 6 ≤ L) (K : ∀ (ln sn : Nat → Int32) (tz : Int32) (wx wy : va_W) (H : Heap) (locs : List Loc) (ls : Array Slot), IX cI cC cS ad fq fim ln sn tz wx → IY cI cZ ay ln sn tz wy → va_P D vwCl (wx ++ wy) H → va_D A (wx ++ wy) → va_S A s.heap H locs → lv_has ls 4 [(3, .int i), (2, .ref (ay 0)), (1, .ref (ad 0)), (0, .ref b)] → W p l e room_1 s m #[Value.ref b] below meth c H locs 98 12032 (lw_Z below #[Value.ref b] s) (F0 m 1034 ls [])) {ln sn : Nat → Int32} {tz : Int32} {wx wy : va_W} {H : Heap} {locs : List Loc} {ls : Array Slot} (hX_ : IX cI cC cS ad fq fim ln sn tz wx) (hY_ : IY cI cZ ay ln sn tz wy) (hP : va_P D vwCl (wx ++ wy) H) (hD : va_D A (wx ++ wy)) (hS : va_S A s.heap H locs) (hl : lv_has ls 4 [(3, .int i), (2, .ref (ay 0)), (1, .ref (ad 0)), (0, .ref b)]) : W p l e room_1 s m #[Value.ref b] below meth c H locs 98 12032 (lw_Z below #[Value.ref b] s) (F0 m 662 ls []) := by
  obtain ⟨S, hr_, hk_, hX, hbl, hA, hAf⟩ := id C
  have hbA : ¬ A b := fun z => absurd (hAf b z) (Nat.not_le.mpr hbl)
  refine lv_aload_n S.1 S.2.1 dL_law_662 rfl (lv_at hl 2 rfl) ?_
  refine lv_aload_n S.1 S.2.1 dL_law_663 rfl (lv_at hl 3 rfl) ?_
  refine lv_iload_n S.1 S.2.1 dL_law_664 rfl (lv_at hl 0 rfl) ?_
  refine lv_iconst (v := (1)) S.1 S.2.1 dL_law_665 (by decide) ?_
  refine lv_iadd S.1 S.2.1 dL_law_666 ?_
  refine lv_topi (fun x_1 ex_1 => ?_)
  have tx_1 : x_1.toInt = i.toInt + (1) := addI (A := i.toInt) (B := 1) ex_1 rfl rfl (by omega) (by omega)
  refine va_sld S.1 S.2.1 hX hbl hbA hS (in_of (by omega) (by omega)) dL_law_667 ?_
  refine lv_topi (fun v_2 ev_2 => ?_)
  refine lv_aload_n S.1 S.2.1 dL_law_668 rfl (lv_at hl 3 rfl) ?_
  refine lv_iload_n S.1 S.2.1 dL_law_669 rfl (lv_at hl 0 rfl) ?_
  refine lv_iconst (v := (2)) S.1 S.2.1 dL_law_670 (by decide) ?_
  refine lv_iadd S.1 S.2.1 dL_law_671 ?_
  refine lv_topi (fun x_3 ex_3 => ?_)
  have tx_3 : x_3.toInt = i.toInt + (2) := addI (A := i.toInt) (B := 2) ex_3 rfl rfl (by omega) (by omega)
  refine va_sld S.1 S.2.1 hX hbl hbA hS (in_of (by omega) (by omega)) dL_law_672 ?_
  refine lv_topi (fun v_4 ev_4 => ?_)
  refine lv_aload_n S.1 S.2.1 dL_law_673 rfl (lv_at hl 3 rfl) ?_
  refine lv_iload_n S.1 S.2.1 dL_law_674 rfl (lv_at hl 0 rfl) ?_
  refine lv_iconst (v := (3)) S.1 S.2.1 dL_law_675 (by decide) ?_
  refine lv_iadd S.1 S.2.1 dL_law_676 ?_
  refine lv_topi (fun x_5 ex_5 => ?_)
  have tx_5 : x_5.toInt = i.toInt + (3) := addI (A := i.toInt) (B := 3) ex_5 rfl rfl (by omega) (by omega)
  refine va_sld S.1 S.2.1 hX hbl hbA hS (in_of (by omega) (by omega)) dL_law_677 ?_
  refine lv_topi (fun v_6 ev_6 => ?_)
  obtain ⟨fs_, he_⟩ := IX_0 hX_
  refine law_ci (C := RX8) (ci := 8) (As := [.int v_2, .int v_4, .int v_6]) (fX_home l D cI cZ cC cS sq H.size ad fq fim ln sn tz v_2 v_4 v_6 hX_) S gL_law_X8_home rfl hdV_X8_home ⟨Nat.le_of_ble_eq_true rfl, Nat.le_of_ble_eq_true rfl⟩ ⟨Nat.le_of_ble_eq_true rfl, Nat.le_of_ble_eq_true rfl⟩ hK hT hS hA hP hD rfl he_ rfl hl.1 rfl (Nat.le_of_ble_eq_true rfl) dL_law_678 (fun r1 wx H locs hw hP hD hS => ?_)
  have hX_ := hw
  refine lv_pop S.1 S.2.1 dL_law_681 rfl ?_
  refine lv_aload_n S.1 S.2.1 dL_law_682 rfl (lv_at hl 1 rfl) ?_
  refine lv_aload_n S.1 S.2.1 dL_law_683 rfl (lv_at hl 3 rfl) ?_
  refine lv_iload_n S.1 S.2.1 dL_law_684 rfl (lv_at hl 0 rfl) ?_
  refine lv_iconst (v := (1)) S.1 S.2.1 dL_law_685 (by decide) ?_
  refine lv_iadd S.1 S.2.1 dL_law_686 ?_
  refine lv_topi (fun x_7 ex_7 => ?_)
  have qx_7 : x_1 = x_7 := ex_1.trans ex_7.symm
  subst qx_7
  refine va_sld S.1 S.2.1 hX hbl hbA hS (in_of (by omega) (by omega)) dL_law_687 ?_
  refine lv_topi (fun v_8 ev_8 => ?_)
  have qv_8 : v_2 = v_8 := ev_2.trans ev_8.symm
  subst qv_8
  refine lv_aload_n S.1 S.2.1 dL_law_688 rfl (lv_at hl 3 rfl) ?_
  refine lv_iload_n S.1 S.2.1 dL_law_689 rfl (lv_at hl 0 rfl) ?_
  refine lv_iconst (v := (2)) S.1 S.2.1 dL_law_690 (by decide) ?_
  refine lv_iadd S.1 S.2.1 dL_law_691 ?_
  refine lv_topi (fun x_9 ex_9 => ?_)
  have qx_9 : x_3 = x_9 := ex_3.trans ex_9.symm
  subst qx_9
  refine va_sld S.1 S.2.1 hX hbl hbA hS (in_of (by omega) (by omega)) dL_law_692 ?_
  refine lv_topi (fun v_10 ev_10 => ?_)
  have qv_10 : v_4 = v_10 := ev_4.trans ev_10.symm
  subst qv_10
  refine lv_aload_n S.1 S.2.1 dL_law_693 rfl (lv_at hl 3 rfl) ?_
  refine lv_iload_n S.1 S.2.1 dL_law_694 rfl (lv_at hl 0 rfl) ?_
  refine lv_iconst (v := (3)) S.1 S.2.1 dL_law_695 (by decide) ?_
  refine lv_iadd S.1 S.2.1 dL_law_696 ?_
  refine lv_topi (fun x_11 ex_11 => ?_)
  have qx_11 : x_5 = x_11 := ex_5.trans ex_11.symm
  subst qx_11
  refine va_sld S.1 S.2.1 hX hbl hbA hS (in_of (by omega) (by omega)) dL_law_697 ?_
  refine lv_topi (fun v_12 ev_12 => ?_)
  have qv_12 : v_6 = v_12 := ev_6.trans ev_12.symm
  subst qv_12
  obtain ⟨fs_, he_⟩ := IY_0 hY_
  refine law_ci (C := RX9) (ci := 9) (As := [.int v_2, .int v_4, .int v_6]) (fY_home l D cI cZ cC cS sq H.size ay ln sn tz v_2 v_4 v_6 hY_) S gL_law_X9_home rfl hdV_X9_home ⟨Nat.le_of_ble_eq_true rfl, Nat.le_of_ble_eq_true rfl⟩ ⟨Nat.le_of_ble_eq_true rfl, Nat.le_of_ble_eq_true rfl⟩ hK hT hS hA hP hD rfl he_ rfl hl.1 rfl (Nat.le_of_ble_eq_true rfl) dL_law_698 (fun r2 wy H locs hw hP hD hS => ?_)
  have hY_ := hw
  refine lv_pop S.1 S.2.1 dL_law_701 rfl ?_
  refine lv_goto (tgt := 1034) S.1 S.2.1 dL_law_702 (by decide) ?_
  exact K ln sn tz wx wy H _ ls hX_ hY_ hP hD hS hl
set_option maxHeartbeats 4000000 in
set_option maxRecDepth 100000 in
theorem law_nothing {p : Program} (l : Launch) {e : Env} {s : State} {m : MethodId} {below : List Frame} {meth : Method} {c : Code} (D : va_G) (cI cZ cC cS : ClassId) (sq : Nat → Nat) {b L : Nat} {sc : Nat → Int32} {A : Nat → Prop} (C : lC p s m meth c b L sc A) (hK : kW D (tyW cI cZ cC cS) sq s) (hT : sT sq A s s.heap) (ad ay : Nat → Nat) (fq fim : Nat → Option Nat) (hL : L ≤ 3072) (i : Int32) (hi : 0 ≤ i.toInt ∧ i.toInt + 6 ≤ L) (K : ∀ (ln sn : Nat → Int32) (tz : Int32) (wx wy : va_W) (H : Heap) (locs : List Loc) (ls : Array Slot), IX cI cC cS ad fq fim ln sn tz wx → IY cI cZ ay ln sn tz wy → va_P D vwCl (wx ++ wy) H → va_D A (wx ++ wy) → va_S A s.heap H locs → lv_has ls 4 [(3, .int i), (2, .ref (ay 0)), (1, .ref (ad 0)), (0, .ref b)] → W p l e room_1 s m #[Value.ref b] below meth c H locs 98 12032 (lw_Z below #[Value.ref b] s) (F0 m 1034 ls [])) {ln sn : Nat → Int32} {tz : Int32} {wx wy : va_W} {H : Heap} {locs : List Loc} {ls : Array Slot} (hX_ : IX cI cC cS ad fq fim ln sn tz wx) (hY_ : IY cI cZ ay ln sn tz wy) (hP : va_P D vwCl (wx ++ wy) H) (hD : va_D A (wx ++ wy)) (hS : va_S A s.heap H locs) (hl : lv_has ls 4 [(3, .int i), (2, .ref (ay 0)), (1, .ref (ad 0)), (0, .ref b)]) : W p l e room_1 s m #[Value.ref b] below meth c H locs 98 12032 (lw_Z below #[Value.ref b] s) (F0 m 705 ls []) := by
  obtain ⟨S, hr_, hk_, hX, hbl, hA, hAf⟩ := id C
  have hbA : ¬ A b := fun z => absurd (hAf b z) (Nat.not_le.mpr hbl)
  refine lv_aload_n S.1 S.2.1 dL_law_705 rfl (lv_at hl 2 rfl) ?_
  refine lv_aload_n S.1 S.2.1 dL_law_706 rfl (lv_at hl 3 rfl) ?_
  refine lv_iload_n S.1 S.2.1 dL_law_707 rfl (lv_at hl 0 rfl) ?_
  refine lv_iconst (v := (1)) S.1 S.2.1 dL_law_708 (by decide) ?_
  refine lv_iadd S.1 S.2.1 dL_law_709 ?_
  refine lv_topi (fun x_1 ex_1 => ?_)
  have tx_1 : x_1.toInt = i.toInt + (1) := addI (A := i.toInt) (B := 1) ex_1 rfl rfl (by omega) (by omega)
  refine va_sld S.1 S.2.1 hX hbl hbA hS (in_of (by omega) (by omega)) dL_law_710 ?_
  refine lv_topi (fun v_2 ev_2 => ?_)
  obtain ⟨fs_, he_⟩ := IX_0 hX_
  refine law_ci (C := RX8) (ci := 8) (As := [.int v_2]) (fX_nothing l D cI cZ cC cS sq H.size ad fq fim ln sn tz v_2 hX_) S gL_law_X8_nothing rfl hdV_X8_nothing ⟨Nat.le_of_ble_eq_true rfl, Nat.le_of_ble_eq_true rfl⟩ ⟨Nat.le_of_ble_eq_true rfl, Nat.le_of_ble_eq_true rfl⟩ hK hT hS hA hP hD rfl he_ rfl hl.1 rfl (Nat.le_of_ble_eq_true rfl) dL_law_711 (fun r1 wx H locs hw hP hD hS => ?_)
  have hX_ := hw
  refine lv_pop S.1 S.2.1 dL_law_714 rfl ?_
  refine lv_aload_n S.1 S.2.1 dL_law_715 rfl (lv_at hl 1 rfl) ?_
  refine lv_aload_n S.1 S.2.1 dL_law_716 rfl (lv_at hl 3 rfl) ?_
  refine lv_iload_n S.1 S.2.1 dL_law_717 rfl (lv_at hl 0 rfl) ?_
  refine lv_iconst (v := (1)) S.1 S.2.1 dL_law_718 (by decide) ?_
  refine lv_iadd S.1 S.2.1 dL_law_719 ?_
  refine lv_topi (fun x_3 ex_3 => ?_)
  have qx_3 : x_1 = x_3 := ex_1.trans ex_3.symm
  subst qx_3
  refine va_sld S.1 S.2.1 hX hbl hbA hS (in_of (by omega) (by omega)) dL_law_720 ?_
  refine lv_topi (fun v_4 ev_4 => ?_)
  have qv_4 : v_2 = v_4 := ev_2.trans ev_4.symm
  subst qv_4
  obtain ⟨fs_, he_⟩ := IY_0 hY_
  refine law_ci (C := RX9) (ci := 9) (As := [.int v_2]) (fY_nothing l D cI cZ cC cS sq H.size ay ln sn tz v_2 hY_) S gL_law_X9_nothing rfl hdV_X9_nothing ⟨Nat.le_of_ble_eq_true rfl, Nat.le_of_ble_eq_true rfl⟩ ⟨Nat.le_of_ble_eq_true rfl, Nat.le_of_ble_eq_true rfl⟩ hK hT hS hA hP hD rfl he_ rfl hl.1 rfl (Nat.le_of_ble_eq_true rfl) dL_law_721 (fun r2 wy H locs hw hP hD hS => ?_)
  have hY_ := hw
  refine lv_pop S.1 S.2.1 dL_law_724 rfl ?_
  refine lv_goto (tgt := 1034) S.1 S.2.1 dL_law_725 (by decide) ?_
  exact K ln sn tz wx wy H _ ls hX_ hY_ hP hD hS hl
set_option maxHeartbeats 4000000 in
set_option maxRecDepth 100000 in
theorem law_beauty {p : Program} (l : Launch) {e : Env} {s : State} {m : MethodId} {below : List Frame} {meth : Method} {c : Code} (D : va_G) (cI cZ cC cS : ClassId) (sq : Nat → Nat) {b L : Nat} {sc : Nat → Int32} {A : Nat → Prop} (C : lC p s m meth c b L sc A) (hK : kW D (tyW cI cZ cC cS) sq s) (hT : sT sq A s s.heap) (ad ay : Nat → Nat) (fq fim : Nat → Option Nat) (hL : L ≤ 3072) (i : Int32) (hi : 0 ≤ i.toInt ∧ i.toInt + 6 ≤ L) (K : ∀ (ln sn : Nat → Int32) (tz : Int32) (wx wy : va_W) (H : Heap) (locs : List Loc) (ls : Array Slot), IX cI cC cS ad fq fim ln sn tz wx → IY cI cZ ay ln sn tz wy → va_P D vwCl (wx ++ wy) H → va_D A (wx ++ wy) → va_S A s.heap H locs → lv_has ls 4 [(3, .int i), (2, .ref (ay 0)), (1, .ref (ad 0)), (0, .ref b)] → W p l e room_1 s m #[Value.ref b] below meth c H locs 98 12032 (lw_Z below #[Value.ref b] s) (F0 m 1034 ls [])) {ln sn : Nat → Int32} {tz : Int32} {wx wy : va_W} {H : Heap} {locs : List Loc} {ls : Array Slot} (hX_ : IX cI cC cS ad fq fim ln sn tz wx) (hY_ : IY cI cZ ay ln sn tz wy) (hP : va_P D vwCl (wx ++ wy) H) (hD : va_D A (wx ++ wy)) (hS : va_S A s.heap H locs) (hl : lv_has ls 4 [(3, .int i), (2, .ref (ay 0)), (1, .ref (ad 0)), (0, .ref b)]) : W p l e room_1 s m #[Value.ref b] below meth c H locs 98 12032 (lw_Z below #[Value.ref b] s) (F0 m 728 ls []) := by
  obtain ⟨S, hr_, hk_, hX, hbl, hA, hAf⟩ := id C
  have hbA : ¬ A b := fun z => absurd (hAf b z) (Nat.not_le.mpr hbl)
  refine lv_aload_n S.1 S.2.1 dL_law_728 rfl (lv_at hl 2 rfl) ?_
  refine lv_aload_n S.1 S.2.1 dL_law_729 rfl (lv_at hl 3 rfl) ?_
  refine lv_iload_n S.1 S.2.1 dL_law_730 rfl (lv_at hl 0 rfl) ?_
  refine lv_iconst (v := (1)) S.1 S.2.1 dL_law_731 (by decide) ?_
  refine lv_iadd S.1 S.2.1 dL_law_732 ?_
  refine lv_topi (fun x_1 ex_1 => ?_)
  have tx_1 : x_1.toInt = i.toInt + (1) := addI (A := i.toInt) (B := 1) ex_1 rfl rfl (by omega) (by omega)
  refine va_sld S.1 S.2.1 hX hbl hbA hS (in_of (by omega) (by omega)) dL_law_733 ?_
  refine lv_topi (fun v_2 ev_2 => ?_)
  obtain ⟨fs_, he_⟩ := IX_0 hX_
  refine law_ci (C := RX8) (ci := 8) (As := [.int v_2]) (fX_beauty l D cI cZ cC cS sq H.size ad fq fim ln sn tz v_2 hX_) S gL_law_X8_beauty rfl hdV_X8_beauty ⟨Nat.le_of_ble_eq_true rfl, Nat.le_of_ble_eq_true rfl⟩ ⟨Nat.le_of_ble_eq_true rfl, Nat.le_of_ble_eq_true rfl⟩ hK hT hS hA hP hD rfl he_ rfl hl.1 rfl (Nat.le_of_ble_eq_true rfl) dL_law_734 (fun r1 wx H locs hw hP hD hS => ?_)
  have hX_ := hw
  refine lv_pop S.1 S.2.1 dL_law_737 rfl ?_
  refine lv_aload_n S.1 S.2.1 dL_law_738 rfl (lv_at hl 1 rfl) ?_
  refine lv_aload_n S.1 S.2.1 dL_law_739 rfl (lv_at hl 3 rfl) ?_
  refine lv_iload_n S.1 S.2.1 dL_law_740 rfl (lv_at hl 0 rfl) ?_
  refine lv_iconst (v := (1)) S.1 S.2.1 dL_law_741 (by decide) ?_
  refine lv_iadd S.1 S.2.1 dL_law_742 ?_
  refine lv_topi (fun x_3 ex_3 => ?_)
  have qx_3 : x_1 = x_3 := ex_1.trans ex_3.symm
  subst qx_3
  refine va_sld S.1 S.2.1 hX hbl hbA hS (in_of (by omega) (by omega)) dL_law_743 ?_
  refine lv_topi (fun v_4 ev_4 => ?_)
  have qv_4 : v_2 = v_4 := ev_2.trans ev_4.symm
  subst qv_4
  obtain ⟨fs_, he_⟩ := IY_0 hY_
  refine law_ci (C := RX9) (ci := 9) (As := [.int v_2]) (fY_beauty l D cI cZ cC cS sq H.size ay ln sn tz v_2 hY_) S gL_law_X9_beauty rfl hdV_X9_beauty ⟨Nat.le_of_ble_eq_true rfl, Nat.le_of_ble_eq_true rfl⟩ ⟨Nat.le_of_ble_eq_true rfl, Nat.le_of_ble_eq_true rfl⟩ hK hT hS hA hP hD rfl he_ rfl hl.1 rfl (Nat.le_of_ble_eq_true rfl) dL_law_744 (fun r2 wy H locs hw hP hD hS => ?_)
  have hY_ := hw
  refine lv_pop S.1 S.2.1 dL_law_747 rfl ?_
  refine lv_goto (tgt := 1034) S.1 S.2.1 dL_law_748 (by decide) ?_
  exact K ln sn tz wx wy H _ ls hX_ hY_ hP hD hS hl
set_option maxHeartbeats 4000000 in
set_option maxRecDepth 100000 in
theorem law_earns {p : Program} (l : Launch) {e : Env} {s : State} {m : MethodId} {below : List Frame} {meth : Method} {c : Code} (D : va_G) (cI cZ cC cS : ClassId) (sq : Nat → Nat) {b L : Nat} {sc : Nat → Int32} {A : Nat → Prop} (C : lC p s m meth c b L sc A) (hK : kW D (tyW cI cZ cC cS) sq s) (hT : sT sq A s s.heap) (ad ay : Nat → Nat) (fq fim : Nat → Option Nat) (hL : L ≤ 3072) (i : Int32) (hi : 0 ≤ i.toInt ∧ i.toInt + 6 ≤ L) (K : ∀ (ln sn : Nat → Int32) (tz : Int32) (wx wy : va_W) (H : Heap) (locs : List Loc) (ls : Array Slot), IX cI cC cS ad fq fim ln sn tz wx → IY cI cZ ay ln sn tz wy → va_P D vwCl (wx ++ wy) H → va_D A (wx ++ wy) → va_S A s.heap H locs → lv_has ls 4 [(3, .int i), (2, .ref (ay 0)), (1, .ref (ad 0)), (0, .ref b)] → W p l e room_1 s m #[Value.ref b] below meth c H locs 98 12032 (lw_Z below #[Value.ref b] s) (F0 m 1034 ls [])) {ln sn : Nat → Int32} {tz : Int32} {wx wy : va_W} {H : Heap} {locs : List Loc} {ls : Array Slot} (hX_ : IX cI cC cS ad fq fim ln sn tz wx) (hY_ : IY cI cZ ay ln sn tz wy) (hP : va_P D vwCl (wx ++ wy) H) (hD : va_D A (wx ++ wy)) (hS : va_S A s.heap H locs) (hl : lv_has ls 4 [(3, .int i), (2, .ref (ay 0)), (1, .ref (ad 0)), (0, .ref b)]) : W p l e room_1 s m #[Value.ref b] below meth c H locs 98 12032 (lw_Z below #[Value.ref b] s) (F0 m 751 ls []) := by
  obtain ⟨S, hr_, hk_, hX, hbl, hA, hAf⟩ := id C
  have hbA : ¬ A b := fun z => absurd (hAf b z) (Nat.not_le.mpr hbl)
  refine lv_aload_n S.1 S.2.1 dL_law_751 rfl (lv_at hl 2 rfl) ?_
  refine lv_aload_n S.1 S.2.1 dL_law_752 rfl (lv_at hl 3 rfl) ?_
  refine lv_iload_n S.1 S.2.1 dL_law_753 rfl (lv_at hl 0 rfl) ?_
  refine lv_iconst (v := (1)) S.1 S.2.1 dL_law_754 (by decide) ?_
  refine lv_iadd S.1 S.2.1 dL_law_755 ?_
  refine lv_topi (fun x_1 ex_1 => ?_)
  have tx_1 : x_1.toInt = i.toInt + (1) := addI (A := i.toInt) (B := 1) ex_1 rfl rfl (by omega) (by omega)
  refine va_sld S.1 S.2.1 hX hbl hbA hS (in_of (by omega) (by omega)) dL_law_756 ?_
  refine lv_topi (fun v_2 ev_2 => ?_)
  refine lv_aload_n S.1 S.2.1 dL_law_757 rfl (lv_at hl 3 rfl) ?_
  refine lv_iload_n S.1 S.2.1 dL_law_758 rfl (lv_at hl 0 rfl) ?_
  refine lv_iconst (v := (2)) S.1 S.2.1 dL_law_759 (by decide) ?_
  refine lv_iadd S.1 S.2.1 dL_law_760 ?_
  refine lv_topi (fun x_3 ex_3 => ?_)
  have tx_3 : x_3.toInt = i.toInt + (2) := addI (A := i.toInt) (B := 2) ex_3 rfl rfl (by omega) (by omega)
  refine va_sld S.1 S.2.1 hX hbl hbA hS (in_of (by omega) (by omega)) dL_law_761 ?_
  refine lv_topi (fun v_4 ev_4 => ?_)
  obtain ⟨fs_, he_⟩ := IX_0 hX_
  refine law_ci (C := RX8) (ci := 8) (As := [.int v_2, .int v_4]) (fX_earns l D cI cZ cC cS sq H.size ad fq fim ln sn tz v_2 v_4 hX_) S gL_law_X8_earns rfl hdV_X8_earns ⟨Nat.le_of_ble_eq_true rfl, Nat.le_of_ble_eq_true rfl⟩ ⟨Nat.le_of_ble_eq_true rfl, Nat.le_of_ble_eq_true rfl⟩ hK hT hS hA hP hD rfl he_ rfl hl.1 rfl (Nat.le_of_ble_eq_true rfl) dL_law_762 (fun r1 wx H locs hw hP hD hS => ?_)
  have hX_ := hw
  refine lv_pop S.1 S.2.1 dL_law_765 rfl ?_
  refine lv_aload_n S.1 S.2.1 dL_law_766 rfl (lv_at hl 1 rfl) ?_
  refine lv_aload_n S.1 S.2.1 dL_law_767 rfl (lv_at hl 3 rfl) ?_
  refine lv_iload_n S.1 S.2.1 dL_law_768 rfl (lv_at hl 0 rfl) ?_
  refine lv_iconst (v := (1)) S.1 S.2.1 dL_law_769 (by decide) ?_
  refine lv_iadd S.1 S.2.1 dL_law_770 ?_
  refine lv_topi (fun x_5 ex_5 => ?_)
  have qx_5 : x_1 = x_5 := ex_1.trans ex_5.symm
  subst qx_5
  refine va_sld S.1 S.2.1 hX hbl hbA hS (in_of (by omega) (by omega)) dL_law_771 ?_
  refine lv_topi (fun v_6 ev_6 => ?_)
  have qv_6 : v_2 = v_6 := ev_2.trans ev_6.symm
  subst qv_6
  refine lv_aload_n S.1 S.2.1 dL_law_772 rfl (lv_at hl 3 rfl) ?_
  refine lv_iload_n S.1 S.2.1 dL_law_773 rfl (lv_at hl 0 rfl) ?_
  refine lv_iconst (v := (2)) S.1 S.2.1 dL_law_774 (by decide) ?_
  refine lv_iadd S.1 S.2.1 dL_law_775 ?_
  refine lv_topi (fun x_7 ex_7 => ?_)
  have qx_7 : x_3 = x_7 := ex_3.trans ex_7.symm
  subst qx_7
  refine va_sld S.1 S.2.1 hX hbl hbA hS (in_of (by omega) (by omega)) dL_law_776 ?_
  refine lv_topi (fun v_8 ev_8 => ?_)
  have qv_8 : v_4 = v_8 := ev_4.trans ev_8.symm
  subst qv_8
  obtain ⟨fs_, he_⟩ := IY_0 hY_
  refine law_ci (C := RX9) (ci := 9) (As := [.int v_2, .int v_4]) (fY_earns l D cI cZ cC cS sq H.size ay ln sn tz v_2 v_4 hY_) S gL_law_X9_earns rfl hdV_X9_earns ⟨Nat.le_of_ble_eq_true rfl, Nat.le_of_ble_eq_true rfl⟩ ⟨Nat.le_of_ble_eq_true rfl, Nat.le_of_ble_eq_true rfl⟩ hK hT hS hA hP hD rfl he_ rfl hl.1 rfl (Nat.le_of_ble_eq_true rfl) dL_law_777 (fun r2 wy H locs hw hP hD hS => ?_)
  have hY_ := hw
  refine lv_pop S.1 S.2.1 dL_law_780 rfl ?_
  refine lv_goto (tgt := 1034) S.1 S.2.1 dL_law_781 (by decide) ?_
  exact K ln sn tz wx wy H _ ls hX_ hY_ hP hD hS hl
set_option maxHeartbeats 4000000 in
set_option maxRecDepth 100000 in
theorem law_rivals {p : Program} (l : Launch) {e : Env} {s : State} {m : MethodId} {below : List Frame} {meth : Method} {c : Code} (D : va_G) (cI cZ cC cS : ClassId) (sq : Nat → Nat) {b L : Nat} {sc : Nat → Int32} {A : Nat → Prop} (C : lC p s m meth c b L sc A) (hK : kW D (tyW cI cZ cC cS) sq s) (hT : sT sq A s s.heap) (ad ay : Nat → Nat) (fq fim : Nat → Option Nat) (hL : L ≤ 3072) (i : Int32) (hi : 0 ≤ i.toInt ∧ i.toInt + 6 ≤ L) (K : ∀ (ln sn : Nat → Int32) (tz : Int32) (wx wy : va_W) (H : Heap) (locs : List Loc) (ls : Array Slot), IX cI cC cS ad fq fim ln sn tz wx → IY cI cZ ay ln sn tz wy → va_P D vwCl (wx ++ wy) H → va_D A (wx ++ wy) → va_S A s.heap H locs → lv_has ls 4 [(3, .int i), (2, .ref (ay 0)), (1, .ref (ad 0)), (0, .ref b)] → W p l e room_1 s m #[Value.ref b] below meth c H locs 98 12032 (lw_Z below #[Value.ref b] s) (F0 m 1034 ls [])) {ln sn : Nat → Int32} {tz : Int32} {wx wy : va_W} {H : Heap} {locs : List Loc} {ls : Array Slot} (hX_ : IX cI cC cS ad fq fim ln sn tz wx) (hY_ : IY cI cZ ay ln sn tz wy) (hP : va_P D vwCl (wx ++ wy) H) (hD : va_D A (wx ++ wy)) (hS : va_S A s.heap H locs) (hl : lv_has ls 4 [(3, .int i), (2, .ref (ay 0)), (1, .ref (ad 0)), (0, .ref b)]) : W p l e room_1 s m #[Value.ref b] below meth c H locs 98 12032 (lw_Z below #[Value.ref b] s) (F0 m 784 ls []) := by
  obtain ⟨S, hr_, hk_, hX, hbl, hA, hAf⟩ := id C
  have hbA : ¬ A b := fun z => absurd (hAf b z) (Nat.not_le.mpr hbl)
  refine lv_aload_n S.1 S.2.1 dL_law_784 rfl (lv_at hl 2 rfl) ?_
  refine lv_aload_n S.1 S.2.1 dL_law_785 rfl (lv_at hl 3 rfl) ?_
  refine lv_iload_n S.1 S.2.1 dL_law_786 rfl (lv_at hl 0 rfl) ?_
  refine lv_iconst (v := (1)) S.1 S.2.1 dL_law_787 (by decide) ?_
  refine lv_iadd S.1 S.2.1 dL_law_788 ?_
  refine lv_topi (fun x_1 ex_1 => ?_)
  have tx_1 : x_1.toInt = i.toInt + (1) := addI (A := i.toInt) (B := 1) ex_1 rfl rfl (by omega) (by omega)
  refine va_sld S.1 S.2.1 hX hbl hbA hS (in_of (by omega) (by omega)) dL_law_789 ?_
  refine lv_topi (fun v_2 ev_2 => ?_)
  obtain ⟨fs_, he_⟩ := IX_0 hX_
  refine law_ci (C := RX8) (ci := 8) (As := [.int v_2]) (fX_rivals l D cI cZ cC cS sq H.size ad fq fim ln sn tz v_2 hX_) S gL_law_X8_rivals rfl hdV_X8_rivals ⟨Nat.le_of_ble_eq_true rfl, Nat.le_of_ble_eq_true rfl⟩ ⟨Nat.le_of_ble_eq_true rfl, Nat.le_of_ble_eq_true rfl⟩ hK hT hS hA hP hD rfl he_ rfl hl.1 rfl (Nat.le_of_ble_eq_true rfl) dL_law_790 (fun r1 wx H locs hw hP hD hS => ?_)
  have hX_ := hw
  refine lv_pop S.1 S.2.1 dL_law_793 rfl ?_
  refine lv_aload_n S.1 S.2.1 dL_law_794 rfl (lv_at hl 1 rfl) ?_
  refine lv_aload_n S.1 S.2.1 dL_law_795 rfl (lv_at hl 3 rfl) ?_
  refine lv_iload_n S.1 S.2.1 dL_law_796 rfl (lv_at hl 0 rfl) ?_
  refine lv_iconst (v := (1)) S.1 S.2.1 dL_law_797 (by decide) ?_
  refine lv_iadd S.1 S.2.1 dL_law_798 ?_
  refine lv_topi (fun x_3 ex_3 => ?_)
  have qx_3 : x_1 = x_3 := ex_1.trans ex_3.symm
  subst qx_3
  refine va_sld S.1 S.2.1 hX hbl hbA hS (in_of (by omega) (by omega)) dL_law_799 ?_
  refine lv_topi (fun v_4 ev_4 => ?_)
  have qv_4 : v_2 = v_4 := ev_2.trans ev_4.symm
  subst qv_4
  obtain ⟨fs_, he_⟩ := IY_0 hY_
  refine law_ci (C := RX9) (ci := 9) (As := [.int v_2]) (fY_rivals l D cI cZ cC cS sq H.size ay ln sn tz v_2 hY_) S gL_law_X9_rivals rfl hdV_X9_rivals ⟨Nat.le_of_ble_eq_true rfl, Nat.le_of_ble_eq_true rfl⟩ ⟨Nat.le_of_ble_eq_true rfl, Nat.le_of_ble_eq_true rfl⟩ hK hT hS hA hP hD rfl he_ rfl hl.1 rfl (Nat.le_of_ble_eq_true rfl) dL_law_800 (fun r2 wy H locs hw hP hD hS => ?_)
  have hY_ := hw
  refine lv_pop S.1 S.2.1 dL_law_803 rfl ?_
  refine lv_goto (tgt := 1034) S.1 S.2.1 dL_law_804 (by decide) ?_
  exact K ln sn tz wx wy H _ ls hX_ hY_ hP hD hS hl
set_option maxHeartbeats 4000000 in
set_option maxRecDepth 100000 in
theorem law_wall {p : Program} (l : Launch) {e : Env} {s : State} {m : MethodId} {below : List Frame} {meth : Method} {c : Code} (D : va_G) (cI cZ cC cS : ClassId) (sq : Nat → Nat) {b L : Nat} {sc : Nat → Int32} {A : Nat → Prop} (C : lC p s m meth c b L sc A) (hK : kW D (tyW cI cZ cC cS) sq s) (hT : sT sq A s s.heap) (ad ay : Nat → Nat) (fq fim : Nat → Option Nat) (hL : L ≤ 3072) (i : Int32) (hi : 0 ≤ i.toInt ∧ i.toInt + 6 ≤ L) (K : ∀ (ln sn : Nat → Int32) (tz : Int32) (wx wy : va_W) (H : Heap) (locs : List Loc) (ls : Array Slot), IX cI cC cS ad fq fim ln sn tz wx → IY cI cZ ay ln sn tz wy → va_P D vwCl (wx ++ wy) H → va_D A (wx ++ wy) → va_S A s.heap H locs → lv_has ls 4 [(3, .int i), (2, .ref (ay 0)), (1, .ref (ad 0)), (0, .ref b)] → W p l e room_1 s m #[Value.ref b] below meth c H locs 98 12032 (lw_Z below #[Value.ref b] s) (F0 m 1034 ls [])) {ln sn : Nat → Int32} {tz : Int32} {wx wy : va_W} {H : Heap} {locs : List Loc} {ls : Array Slot} (hX_ : IX cI cC cS ad fq fim ln sn tz wx) (hY_ : IY cI cZ ay ln sn tz wy) (hP : va_P D vwCl (wx ++ wy) H) (hD : va_D A (wx ++ wy)) (hS : va_S A s.heap H locs) (hl : lv_has ls 4 [(3, .int i), (2, .ref (ay 0)), (1, .ref (ad 0)), (0, .ref b)]) : W p l e room_1 s m #[Value.ref b] below meth c H locs 98 12032 (lw_Z below #[Value.ref b] s) (F0 m 807 ls []) := by
  obtain ⟨S, hr_, hk_, hX, hbl, hA, hAf⟩ := id C
  have hbA : ¬ A b := fun z => absurd (hAf b z) (Nat.not_le.mpr hbl)
  refine lv_aload_n S.1 S.2.1 dL_law_807 rfl (lv_at hl 2 rfl) ?_
  refine lv_aload_n S.1 S.2.1 dL_law_808 rfl (lv_at hl 3 rfl) ?_
  refine lv_iload_n S.1 S.2.1 dL_law_809 rfl (lv_at hl 0 rfl) ?_
  refine lv_iconst (v := (1)) S.1 S.2.1 dL_law_810 (by decide) ?_
  refine lv_iadd S.1 S.2.1 dL_law_811 ?_
  refine lv_topi (fun x_1 ex_1 => ?_)
  have tx_1 : x_1.toInt = i.toInt + (1) := addI (A := i.toInt) (B := 1) ex_1 rfl rfl (by omega) (by omega)
  refine va_sld S.1 S.2.1 hX hbl hbA hS (in_of (by omega) (by omega)) dL_law_812 ?_
  refine lv_topi (fun v_2 ev_2 => ?_)
  refine lv_aload_n S.1 S.2.1 dL_law_813 rfl (lv_at hl 3 rfl) ?_
  refine lv_iload_n S.1 S.2.1 dL_law_814 rfl (lv_at hl 0 rfl) ?_
  refine lv_iconst (v := (2)) S.1 S.2.1 dL_law_815 (by decide) ?_
  refine lv_iadd S.1 S.2.1 dL_law_816 ?_
  refine lv_topi (fun x_3 ex_3 => ?_)
  have tx_3 : x_3.toInt = i.toInt + (2) := addI (A := i.toInt) (B := 2) ex_3 rfl rfl (by omega) (by omega)
  refine va_sld S.1 S.2.1 hX hbl hbA hS (in_of (by omega) (by omega)) dL_law_817 ?_
  refine lv_topi (fun v_4 ev_4 => ?_)
  obtain ⟨fs_, he_⟩ := IX_0 hX_
  refine law_ci (C := RX8) (ci := 8) (As := [.int v_2, .int v_4]) (fX_wall l D cI cZ cC cS sq H.size ad fq fim ln sn tz v_2 v_4 hX_) S gL_law_X8_wall rfl hdV_X8_wall ⟨Nat.le_of_ble_eq_true rfl, Nat.le_of_ble_eq_true rfl⟩ ⟨Nat.le_of_ble_eq_true rfl, Nat.le_of_ble_eq_true rfl⟩ hK hT hS hA hP hD rfl he_ rfl hl.1 rfl (Nat.le_of_ble_eq_true rfl) dL_law_818 (fun r1 wx H locs hw hP hD hS => ?_)
  have hX_ := hw
  refine lv_pop S.1 S.2.1 dL_law_821 rfl ?_
  refine lv_aload_n S.1 S.2.1 dL_law_822 rfl (lv_at hl 1 rfl) ?_
  refine lv_aload_n S.1 S.2.1 dL_law_823 rfl (lv_at hl 3 rfl) ?_
  refine lv_iload_n S.1 S.2.1 dL_law_824 rfl (lv_at hl 0 rfl) ?_
  refine lv_iconst (v := (1)) S.1 S.2.1 dL_law_825 (by decide) ?_
  refine lv_iadd S.1 S.2.1 dL_law_826 ?_
  refine lv_topi (fun x_5 ex_5 => ?_)
  have qx_5 : x_1 = x_5 := ex_1.trans ex_5.symm
  subst qx_5
  refine va_sld S.1 S.2.1 hX hbl hbA hS (in_of (by omega) (by omega)) dL_law_827 ?_
  refine lv_topi (fun v_6 ev_6 => ?_)
  have qv_6 : v_2 = v_6 := ev_2.trans ev_6.symm
  subst qv_6
  refine lv_aload_n S.1 S.2.1 dL_law_828 rfl (lv_at hl 3 rfl) ?_
  refine lv_iload_n S.1 S.2.1 dL_law_829 rfl (lv_at hl 0 rfl) ?_
  refine lv_iconst (v := (2)) S.1 S.2.1 dL_law_830 (by decide) ?_
  refine lv_iadd S.1 S.2.1 dL_law_831 ?_
  refine lv_topi (fun x_7 ex_7 => ?_)
  have qx_7 : x_3 = x_7 := ex_3.trans ex_7.symm
  subst qx_7
  refine va_sld S.1 S.2.1 hX hbl hbA hS (in_of (by omega) (by omega)) dL_law_832 ?_
  refine lv_topi (fun v_8 ev_8 => ?_)
  have qv_8 : v_4 = v_8 := ev_4.trans ev_8.symm
  subst qv_8
  obtain ⟨fs_, he_⟩ := IY_0 hY_
  refine law_ci (C := RX9) (ci := 9) (As := [.int v_2, .int v_4]) (fY_wall l D cI cZ cC cS sq H.size ay ln sn tz v_2 v_4 hY_) S gL_law_X9_wall rfl hdV_X9_wall ⟨Nat.le_of_ble_eq_true rfl, Nat.le_of_ble_eq_true rfl⟩ ⟨Nat.le_of_ble_eq_true rfl, Nat.le_of_ble_eq_true rfl⟩ hK hT hS hA hP hD rfl he_ rfl hl.1 rfl (Nat.le_of_ble_eq_true rfl) dL_law_833 (fun r2 wy H locs hw hP hD hS => ?_)
  have hY_ := hw
  refine lv_pop S.1 S.2.1 dL_law_836 rfl ?_
  refine lv_goto (tgt := 1034) S.1 S.2.1 dL_law_837 (by decide) ?_
  exact K ln sn tz wx wy H _ ls hX_ hY_ hP hD hS hl
set_option maxHeartbeats 4000000 in
set_option maxRecDepth 100000 in
theorem law_image {p : Program} (l : Launch) {e : Env} {s : State} {m : MethodId} {below : List Frame} {meth : Method} {c : Code} (D : va_G) (cI cZ cC cS : ClassId) (sq : Nat → Nat) {b L : Nat} {sc : Nat → Int32} {A : Nat → Prop} (C : lC p s m meth c b L sc A) (hK : kW D (tyW cI cZ cC cS) sq s) (hT : sT sq A s s.heap) (ad ay : Nat → Nat) (fq fim : Nat → Option Nat) (hL : L ≤ 3072) (i : Int32) (hi : 0 ≤ i.toInt ∧ i.toInt + 6 ≤ L) (K : ∀ (ln sn : Nat → Int32) (tz : Int32) (wx wy : va_W) (H : Heap) (locs : List Loc) (ls : Array Slot), IX cI cC cS ad fq fim ln sn tz wx → IY cI cZ ay ln sn tz wy → va_P D vwCl (wx ++ wy) H → va_D A (wx ++ wy) → va_S A s.heap H locs → lv_has ls 4 [(3, .int i), (2, .ref (ay 0)), (1, .ref (ad 0)), (0, .ref b)] → W p l e room_1 s m #[Value.ref b] below meth c H locs 98 12032 (lw_Z below #[Value.ref b] s) (F0 m 1034 ls [])) {ln sn : Nat → Int32} {tz : Int32} {wx wy : va_W} {H : Heap} {locs : List Loc} {ls : Array Slot} (hX_ : IX cI cC cS ad fq fim ln sn tz wx) (hY_ : IY cI cZ ay ln sn tz wy) (hP : va_P D vwCl (wx ++ wy) H) (hD : va_D A (wx ++ wy)) (hS : va_S A s.heap H locs) (hl : lv_has ls 4 [(3, .int i), (2, .ref (ay 0)), (1, .ref (ad 0)), (0, .ref b)]) : W p l e room_1 s m #[Value.ref b] below meth c H locs 98 12032 (lw_Z below #[Value.ref b] s) (F0 m 840 ls []) := by
  obtain ⟨S, hr_, hk_, hX, hbl, hA, hAf⟩ := id C
  have hbA : ¬ A b := fun z => absurd (hAf b z) (Nat.not_le.mpr hbl)
  refine lv_aload_n S.1 S.2.1 dL_law_840 rfl (lv_at hl 2 rfl) ?_
  refine lv_aload_n S.1 S.2.1 dL_law_841 rfl (lv_at hl 3 rfl) ?_
  refine lv_iload_n S.1 S.2.1 dL_law_842 rfl (lv_at hl 0 rfl) ?_
  refine lv_iconst (v := (1)) S.1 S.2.1 dL_law_843 (by decide) ?_
  refine lv_iadd S.1 S.2.1 dL_law_844 ?_
  refine lv_topi (fun x_1 ex_1 => ?_)
  have tx_1 : x_1.toInt = i.toInt + (1) := addI (A := i.toInt) (B := 1) ex_1 rfl rfl (by omega) (by omega)
  refine va_sld S.1 S.2.1 hX hbl hbA hS (in_of (by omega) (by omega)) dL_law_845 ?_
  refine lv_topi (fun v_2 ev_2 => ?_)
  obtain ⟨fs_, he_⟩ := IX_0 hX_
  refine law_ci (C := RX8) (ci := 8) (As := [.int v_2]) (fX_image l D cI cZ cC cS sq H.size ad fq fim ln sn tz v_2 hX_) S gL_law_X8_image rfl hdV_X8_image ⟨Nat.le_of_ble_eq_true rfl, Nat.le_of_ble_eq_true rfl⟩ ⟨Nat.le_of_ble_eq_true rfl, Nat.le_of_ble_eq_true rfl⟩ hK hT hS hA hP hD rfl he_ rfl hl.1 rfl (Nat.le_of_ble_eq_true rfl) dL_law_846 (fun r1 wx H locs hw hP hD hS => ?_)
  have hX_ := hw
  refine lv_pop S.1 S.2.1 dL_law_849 rfl ?_
  refine lv_aload_n S.1 S.2.1 dL_law_850 rfl (lv_at hl 1 rfl) ?_
  refine lv_aload_n S.1 S.2.1 dL_law_851 rfl (lv_at hl 3 rfl) ?_
  refine lv_iload_n S.1 S.2.1 dL_law_852 rfl (lv_at hl 0 rfl) ?_
  refine lv_iconst (v := (1)) S.1 S.2.1 dL_law_853 (by decide) ?_
  refine lv_iadd S.1 S.2.1 dL_law_854 ?_
  refine lv_topi (fun x_3 ex_3 => ?_)
  have qx_3 : x_1 = x_3 := ex_1.trans ex_3.symm
  subst qx_3
  refine va_sld S.1 S.2.1 hX hbl hbA hS (in_of (by omega) (by omega)) dL_law_855 ?_
  refine lv_topi (fun v_4 ev_4 => ?_)
  have qv_4 : v_2 = v_4 := ev_2.trans ev_4.symm
  subst qv_4
  obtain ⟨fs_, he_⟩ := IY_0 hY_
  refine law_ci (C := RX9) (ci := 9) (As := [.int v_2]) (fY_image l D cI cZ cC cS sq H.size ay ln sn tz v_2 hY_) S gL_law_X9_image rfl hdV_X9_image ⟨Nat.le_of_ble_eq_true rfl, Nat.le_of_ble_eq_true rfl⟩ ⟨Nat.le_of_ble_eq_true rfl, Nat.le_of_ble_eq_true rfl⟩ hK hT hS hA hP hD rfl he_ rfl hl.1 rfl (Nat.le_of_ble_eq_true rfl) dL_law_856 (fun r2 wy H locs hw hP hD hS => ?_)
  have hY_ := hw
  refine lv_pop S.1 S.2.1 dL_law_859 rfl ?_
  refine lv_goto (tgt := 1034) S.1 S.2.1 dL_law_860 (by decide) ?_
  exact K ln sn tz wx wy H _ ls hX_ hY_ hP hD hS hl
set_option maxHeartbeats 4000000 in
set_option maxRecDepth 100000 in
theorem law_restore {p : Program} (l : Launch) {e : Env} {s : State} {m : MethodId} {below : List Frame} {meth : Method} {c : Code} (D : va_G) (cI cZ cC cS : ClassId) (sq : Nat → Nat) {b L : Nat} {sc : Nat → Int32} {A : Nat → Prop} (C : lC p s m meth c b L sc A) (hK : kW D (tyW cI cZ cC cS) sq s) (hT : sT sq A s s.heap) (ad ay : Nat → Nat) (fq fim : Nat → Option Nat) (hL : L ≤ 3072) (i : Int32) (hi : 0 ≤ i.toInt ∧ i.toInt + 6 ≤ L) (K : ∀ (ln sn : Nat → Int32) (tz : Int32) (wx wy : va_W) (H : Heap) (locs : List Loc) (ls : Array Slot), IX cI cC cS ad fq fim ln sn tz wx → IY cI cZ ay ln sn tz wy → va_P D vwCl (wx ++ wy) H → va_D A (wx ++ wy) → va_S A s.heap H locs → lv_has ls 4 [(3, .int i), (2, .ref (ay 0)), (1, .ref (ad 0)), (0, .ref b)] → W p l e room_1 s m #[Value.ref b] below meth c H locs 98 12032 (lw_Z below #[Value.ref b] s) (F0 m 1034 ls [])) {ln sn : Nat → Int32} {tz : Int32} {wx wy : va_W} {H : Heap} {locs : List Loc} {ls : Array Slot} (hX_ : IX cI cC cS ad fq fim ln sn tz wx) (hY_ : IY cI cZ ay ln sn tz wy) (hP : va_P D vwCl (wx ++ wy) H) (hD : va_D A (wx ++ wy)) (hS : va_S A s.heap H locs) (hl : lv_has ls 4 [(3, .int i), (2, .ref (ay 0)), (1, .ref (ad 0)), (0, .ref b)]) : W p l e room_1 s m #[Value.ref b] below meth c H locs 98 12032 (lw_Z below #[Value.ref b] s) (F0 m 863 ls []) := by
  obtain ⟨S, hr_, hk_, hX, hbl, hA, hAf⟩ := id C
  have hbA : ¬ A b := fun z => absurd (hAf b z) (Nat.not_le.mpr hbl)
  refine lv_aload_n S.1 S.2.1 dL_law_863 rfl (lv_at hl 2 rfl) ?_
  refine lv_aload_n S.1 S.2.1 dL_law_864 rfl (lv_at hl 3 rfl) ?_
  refine lv_iload_n S.1 S.2.1 dL_law_865 rfl (lv_at hl 0 rfl) ?_
  refine lv_iconst (v := (1)) S.1 S.2.1 dL_law_866 (by decide) ?_
  refine lv_iadd S.1 S.2.1 dL_law_867 ?_
  refine lv_topi (fun x_1 ex_1 => ?_)
  have tx_1 : x_1.toInt = i.toInt + (1) := addI (A := i.toInt) (B := 1) ex_1 rfl rfl (by omega) (by omega)
  refine va_sld S.1 S.2.1 hX hbl hbA hS (in_of (by omega) (by omega)) dL_law_868 ?_
  refine lv_topi (fun v_2 ev_2 => ?_)
  obtain ⟨fs_, he_⟩ := IX_0 hX_
  refine law_ci (C := RX8) (ci := 8) (As := [.int v_2]) (fX_restore l D cI cZ cC cS sq H.size ad fq fim ln sn tz v_2 hX_) S gL_law_X8_restore rfl hdV_X8_restore ⟨Nat.le_of_ble_eq_true rfl, Nat.le_of_ble_eq_true rfl⟩ ⟨Nat.le_of_ble_eq_true rfl, Nat.le_of_ble_eq_true rfl⟩ hK hT hS hA hP hD rfl he_ rfl hl.1 rfl (Nat.le_of_ble_eq_true rfl) dL_law_869 (fun r1 wx H locs hw hP hD hS => ?_)
  have hX_ := hw
  refine lv_pop S.1 S.2.1 dL_law_872 rfl ?_
  refine lv_aload_n S.1 S.2.1 dL_law_873 rfl (lv_at hl 1 rfl) ?_
  refine lv_aload_n S.1 S.2.1 dL_law_874 rfl (lv_at hl 3 rfl) ?_
  refine lv_iload_n S.1 S.2.1 dL_law_875 rfl (lv_at hl 0 rfl) ?_
  refine lv_iconst (v := (1)) S.1 S.2.1 dL_law_876 (by decide) ?_
  refine lv_iadd S.1 S.2.1 dL_law_877 ?_
  refine lv_topi (fun x_3 ex_3 => ?_)
  have qx_3 : x_1 = x_3 := ex_1.trans ex_3.symm
  subst qx_3
  refine va_sld S.1 S.2.1 hX hbl hbA hS (in_of (by omega) (by omega)) dL_law_878 ?_
  refine lv_topi (fun v_4 ev_4 => ?_)
  have qv_4 : v_2 = v_4 := ev_2.trans ev_4.symm
  subst qv_4
  obtain ⟨fs_, he_⟩ := IY_0 hY_
  refine law_ci (C := RX9) (ci := 9) (As := [.int v_2]) (fY_restore l D cI cZ cC cS sq H.size ay ln sn tz v_2 hY_) S gL_law_X9_restore rfl hdV_X9_restore ⟨Nat.le_of_ble_eq_true rfl, Nat.le_of_ble_eq_true rfl⟩ ⟨Nat.le_of_ble_eq_true rfl, Nat.le_of_ble_eq_true rfl⟩ hK hT hS hA hP hD rfl he_ rfl hl.1 rfl (Nat.le_of_ble_eq_true rfl) dL_law_879 (fun r2 wy H locs hw hP hD hS => ?_)
  have hY_ := hw
  refine lv_pop S.1 S.2.1 dL_law_882 rfl ?_
  refine lv_goto (tgt := 1034) S.1 S.2.1 dL_law_883 (by decide) ?_
  exact K ln sn tz wx wy H _ ls hX_ hY_ hP hD hS hl
set_option maxHeartbeats 4000000 in
set_option maxRecDepth 100000 in
theorem law_kind {p : Program} (l : Launch) {e : Env} {s : State} {m : MethodId} {below : List Frame} {meth : Method} {c : Code} (D : va_G) (cI cZ cC cS : ClassId) (sq : Nat → Nat) {b L : Nat} {sc : Nat → Int32} {A : Nat → Prop} (C : lC p s m meth c b L sc A) (hK : kW D (tyW cI cZ cC cS) sq s) (hT : sT sq A s s.heap) (ad ay : Nat → Nat) (fq fim : Nat → Option Nat) (hL : L ≤ 3072) (i : Int32) (hi : 0 ≤ i.toInt ∧ i.toInt + 6 ≤ L) (K : ∀ (ln sn : Nat → Int32) (tz : Int32) (wx wy : va_W) (H : Heap) (locs : List Loc) (ls : Array Slot), IX cI cC cS ad fq fim ln sn tz wx → IY cI cZ ay ln sn tz wy → va_P D vwCl (wx ++ wy) H → va_D A (wx ++ wy) → va_S A s.heap H locs → lv_has ls 4 [(3, .int i), (2, .ref (ay 0)), (1, .ref (ad 0)), (0, .ref b)] → W p l e room_1 s m #[Value.ref b] below meth c H locs 98 12032 (lw_Z below #[Value.ref b] s) (F0 m 1034 ls [])) {ln sn : Nat → Int32} {tz : Int32} {wx wy : va_W} {H : Heap} {locs : List Loc} {ls : Array Slot} (hX_ : IX cI cC cS ad fq fim ln sn tz wx) (hY_ : IY cI cZ ay ln sn tz wy) (hP : va_P D vwCl (wx ++ wy) H) (hD : va_D A (wx ++ wy)) (hS : va_S A s.heap H locs) (hl : lv_has ls 4 [(3, .int i), (2, .ref (ay 0)), (1, .ref (ad 0)), (0, .ref b)]) : W p l e room_1 s m #[Value.ref b] below meth c H locs 98 12032 (lw_Z below #[Value.ref b] s) (F0 m 886 ls []) := by
  obtain ⟨S, hr_, hk_, hX, hbl, hA, hAf⟩ := id C
  have hbA : ¬ A b := fun z => absurd (hAf b z) (Nat.not_le.mpr hbl)
  refine lv_aload_n S.1 S.2.1 dL_law_886 rfl (lv_at hl 2 rfl) ?_
  refine lv_aload_n S.1 S.2.1 dL_law_887 rfl (lv_at hl 3 rfl) ?_
  refine lv_iload_n S.1 S.2.1 dL_law_888 rfl (lv_at hl 0 rfl) ?_
  refine lv_iconst (v := (1)) S.1 S.2.1 dL_law_889 (by decide) ?_
  refine lv_iadd S.1 S.2.1 dL_law_890 ?_
  refine lv_topi (fun x_1 ex_1 => ?_)
  have tx_1 : x_1.toInt = i.toInt + (1) := addI (A := i.toInt) (B := 1) ex_1 rfl rfl (by omega) (by omega)
  refine va_sld S.1 S.2.1 hX hbl hbA hS (in_of (by omega) (by omega)) dL_law_891 ?_
  refine lv_topi (fun v_2 ev_2 => ?_)
  obtain ⟨fs_, he_⟩ := IX_0 hX_
  refine law_ci (C := RX8) (ci := 8) (As := [.int v_2]) (fX_kind l D cI cZ cC cS sq H.size ad fq fim ln sn tz v_2 hX_) S gL_law_X8_kind rfl hdV_X8_kind ⟨Nat.le_of_ble_eq_true rfl, Nat.le_of_ble_eq_true rfl⟩ ⟨Nat.le_of_ble_eq_true rfl, Nat.le_of_ble_eq_true rfl⟩ hK hT hS hA hP hD rfl he_ rfl hl.1 rfl (Nat.le_of_ble_eq_true rfl) dL_law_892 (fun r1 wx H locs hw hP hD hS => ?_)
  have hX_ := hw
  refine lv_pop S.1 S.2.1 dL_law_895 rfl ?_
  refine lv_aload_n S.1 S.2.1 dL_law_896 rfl (lv_at hl 1 rfl) ?_
  refine lv_aload_n S.1 S.2.1 dL_law_897 rfl (lv_at hl 3 rfl) ?_
  refine lv_iload_n S.1 S.2.1 dL_law_898 rfl (lv_at hl 0 rfl) ?_
  refine lv_iconst (v := (1)) S.1 S.2.1 dL_law_899 (by decide) ?_
  refine lv_iadd S.1 S.2.1 dL_law_900 ?_
  refine lv_topi (fun x_3 ex_3 => ?_)
  have qx_3 : x_1 = x_3 := ex_1.trans ex_3.symm
  subst qx_3
  refine va_sld S.1 S.2.1 hX hbl hbA hS (in_of (by omega) (by omega)) dL_law_901 ?_
  refine lv_topi (fun v_4 ev_4 => ?_)
  have qv_4 : v_2 = v_4 := ev_2.trans ev_4.symm
  subst qv_4
  obtain ⟨fs_, he_⟩ := IY_0 hY_
  refine law_ci (C := RX9) (ci := 9) (As := [.int v_2]) (fY_kind l D cI cZ cC cS sq H.size ay ln sn tz v_2 hY_) S gL_law_X9_kind rfl hdV_X9_kind ⟨Nat.le_of_ble_eq_true rfl, Nat.le_of_ble_eq_true rfl⟩ ⟨Nat.le_of_ble_eq_true rfl, Nat.le_of_ble_eq_true rfl⟩ hK hT hS hA hP hD rfl he_ rfl hl.1 rfl (Nat.le_of_ble_eq_true rfl) dL_law_902 (fun r2 wy H locs hw hP hD hS => ?_)
  have hY_ := hw
  refine lv_pop S.1 S.2.1 dL_law_905 rfl ?_
  refine lv_goto (tgt := 1034) S.1 S.2.1 dL_law_906 (by decide) ?_
  exact K ln sn tz wx wy H _ ls hX_ hY_ hP hD hS hl
set_option maxHeartbeats 4000000 in
set_option maxRecDepth 100000 in
theorem law_as {p : Program} (l : Launch) {e : Env} {s : State} {m : MethodId} {below : List Frame} {meth : Method} {c : Code} (D : va_G) (cI cZ cC cS : ClassId) (sq : Nat → Nat) {b L : Nat} {sc : Nat → Int32} {A : Nat → Prop} (C : lC p s m meth c b L sc A) (hK : kW D (tyW cI cZ cC cS) sq s) (hT : sT sq A s s.heap) (ad ay : Nat → Nat) (fq fim : Nat → Option Nat) (hL : L ≤ 3072) (i : Int32) (hi : 0 ≤ i.toInt ∧ i.toInt + 6 ≤ L) (K : ∀ (ln sn : Nat → Int32) (tz : Int32) (wx wy : va_W) (H : Heap) (locs : List Loc) (ls : Array Slot), IX cI cC cS ad fq fim ln sn tz wx → IY cI cZ ay ln sn tz wy → va_P D vwCl (wx ++ wy) H → va_D A (wx ++ wy) → va_S A s.heap H locs → lv_has ls 4 [(3, .int i), (2, .ref (ay 0)), (1, .ref (ad 0)), (0, .ref b)] → W p l e room_1 s m #[Value.ref b] below meth c H locs 98 12032 (lw_Z below #[Value.ref b] s) (F0 m 1034 ls [])) {ln sn : Nat → Int32} {tz : Int32} {wx wy : va_W} {H : Heap} {locs : List Loc} {ls : Array Slot} (hX_ : IX cI cC cS ad fq fim ln sn tz wx) (hY_ : IY cI cZ ay ln sn tz wy) (hP : va_P D vwCl (wx ++ wy) H) (hD : va_D A (wx ++ wy)) (hS : va_S A s.heap H locs) (hl : lv_has ls 4 [(3, .int i), (2, .ref (ay 0)), (1, .ref (ad 0)), (0, .ref b)]) : W p l e room_1 s m #[Value.ref b] below meth c H locs 98 12032 (lw_Z below #[Value.ref b] s) (F0 m 909 ls []) := by
  obtain ⟨S, hr_, hk_, hX, hbl, hA, hAf⟩ := id C
  have hbA : ¬ A b := fun z => absurd (hAf b z) (Nat.not_le.mpr hbl)
  refine lv_aload_n S.1 S.2.1 dL_law_909 rfl (lv_at hl 2 rfl) ?_
  refine lv_aload_n S.1 S.2.1 dL_law_910 rfl (lv_at hl 3 rfl) ?_
  refine lv_iload_n S.1 S.2.1 dL_law_911 rfl (lv_at hl 0 rfl) ?_
  refine lv_iconst (v := (1)) S.1 S.2.1 dL_law_912 (by decide) ?_
  refine lv_iadd S.1 S.2.1 dL_law_913 ?_
  refine lv_topi (fun x_1 ex_1 => ?_)
  have tx_1 : x_1.toInt = i.toInt + (1) := addI (A := i.toInt) (B := 1) ex_1 rfl rfl (by omega) (by omega)
  refine va_sld S.1 S.2.1 hX hbl hbA hS (in_of (by omega) (by omega)) dL_law_914 ?_
  refine lv_topi (fun v_2 ev_2 => ?_)
  refine lv_aload_n S.1 S.2.1 dL_law_915 rfl (lv_at hl 3 rfl) ?_
  refine lv_iload_n S.1 S.2.1 dL_law_916 rfl (lv_at hl 0 rfl) ?_
  refine lv_iconst (v := (2)) S.1 S.2.1 dL_law_917 (by decide) ?_
  refine lv_iadd S.1 S.2.1 dL_law_918 ?_
  refine lv_topi (fun x_3 ex_3 => ?_)
  have tx_3 : x_3.toInt = i.toInt + (2) := addI (A := i.toInt) (B := 2) ex_3 rfl rfl (by omega) (by omega)
  refine va_sld S.1 S.2.1 hX hbl hbA hS (in_of (by omega) (by omega)) dL_law_919 ?_
  refine lv_topi (fun v_4 ev_4 => ?_)
  obtain ⟨fs_, he_⟩ := IX_0 hX_
  refine law_ci (C := RX8) (ci := 8) (As := [.int v_2, .int v_4]) (fX_as l D cI cZ cC cS sq H.size ad fq fim ln sn tz v_2 v_4 hX_) S gL_law_X8_as rfl hdV_X8_as ⟨Nat.le_of_ble_eq_true rfl, Nat.le_of_ble_eq_true rfl⟩ ⟨Nat.le_of_ble_eq_true rfl, Nat.le_of_ble_eq_true rfl⟩ hK hT hS hA hP hD rfl he_ rfl hl.1 rfl (Nat.le_of_ble_eq_true rfl) dL_law_920 (fun r1 wx H locs hw hP hD hS => ?_)
  have hX_ := hw
  refine lv_pop S.1 S.2.1 dL_law_923 rfl ?_
  refine lv_aload_n S.1 S.2.1 dL_law_924 rfl (lv_at hl 1 rfl) ?_
  refine lv_aload_n S.1 S.2.1 dL_law_925 rfl (lv_at hl 3 rfl) ?_
  refine lv_iload_n S.1 S.2.1 dL_law_926 rfl (lv_at hl 0 rfl) ?_
  refine lv_iconst (v := (1)) S.1 S.2.1 dL_law_927 (by decide) ?_
  refine lv_iadd S.1 S.2.1 dL_law_928 ?_
  refine lv_topi (fun x_5 ex_5 => ?_)
  have qx_5 : x_1 = x_5 := ex_1.trans ex_5.symm
  subst qx_5
  refine va_sld S.1 S.2.1 hX hbl hbA hS (in_of (by omega) (by omega)) dL_law_929 ?_
  refine lv_topi (fun v_6 ev_6 => ?_)
  have qv_6 : v_2 = v_6 := ev_2.trans ev_6.symm
  subst qv_6
  refine lv_aload_n S.1 S.2.1 dL_law_930 rfl (lv_at hl 3 rfl) ?_
  refine lv_iload_n S.1 S.2.1 dL_law_931 rfl (lv_at hl 0 rfl) ?_
  refine lv_iconst (v := (2)) S.1 S.2.1 dL_law_932 (by decide) ?_
  refine lv_iadd S.1 S.2.1 dL_law_933 ?_
  refine lv_topi (fun x_7 ex_7 => ?_)
  have qx_7 : x_3 = x_7 := ex_3.trans ex_7.symm
  subst qx_7
  refine va_sld S.1 S.2.1 hX hbl hbA hS (in_of (by omega) (by omega)) dL_law_934 ?_
  refine lv_topi (fun v_8 ev_8 => ?_)
  have qv_8 : v_4 = v_8 := ev_4.trans ev_8.symm
  subst qv_8
  obtain ⟨fs_, he_⟩ := IY_0 hY_
  refine law_ci (C := RX9) (ci := 9) (As := [.int v_2, .int v_4]) (fY_as l D cI cZ cC cS sq H.size ay ln sn tz v_2 v_4 hY_) S gL_law_X9_as rfl hdV_X9_as ⟨Nat.le_of_ble_eq_true rfl, Nat.le_of_ble_eq_true rfl⟩ ⟨Nat.le_of_ble_eq_true rfl, Nat.le_of_ble_eq_true rfl⟩ hK hT hS hA hP hD rfl he_ rfl hl.1 rfl (Nat.le_of_ble_eq_true rfl) dL_law_935 (fun r2 wy H locs hw hP hD hS => ?_)
  have hY_ := hw
  refine lv_pop S.1 S.2.1 dL_law_938 rfl ?_
  refine lv_goto (tgt := 1034) S.1 S.2.1 dL_law_939 (by decide) ?_
  exact K ln sn tz wx wy H _ ls hX_ hY_ hP hD hS hl
set_option maxHeartbeats 4000000 in
set_option maxRecDepth 100000 in
theorem law_ask {p : Program} (l : Launch) {e : Env} {s : State} {m : MethodId} {below : List Frame} {meth : Method} {c : Code} (D : va_G) (cI cZ cC cS : ClassId) (sq : Nat → Nat) {b L : Nat} {sc : Nat → Int32} {A : Nat → Prop} (C : lC p s m meth c b L sc A) (hK : kW D (tyW cI cZ cC cS) sq s) (hT : sT sq A s s.heap) (ad ay : Nat → Nat) (fq fim : Nat → Option Nat) (hL : L ≤ 3072) (i : Int32) (hi : 0 ≤ i.toInt ∧ i.toInt + 6 ≤ L) (K : ∀ (ln sn : Nat → Int32) (tz : Int32) (wx wy : va_W) (H : Heap) (locs : List Loc) (ls : Array Slot), IX cI cC cS ad fq fim ln sn tz wx → IY cI cZ ay ln sn tz wy → va_P D vwCl (wx ++ wy) H → va_D A (wx ++ wy) → va_S A s.heap H locs → lv_has ls 4 [(3, .int i), (2, .ref (ay 0)), (1, .ref (ad 0)), (0, .ref b)] → W p l e room_1 s m #[Value.ref b] below meth c H locs 98 12032 (lw_Z below #[Value.ref b] s) (F0 m 1034 ls [])) {ln sn : Nat → Int32} {tz : Int32} {wx wy : va_W} {H : Heap} {locs : List Loc} {ls : Array Slot} (hX_ : IX cI cC cS ad fq fim ln sn tz wx) (hY_ : IY cI cZ ay ln sn tz wy) (hP : va_P D vwCl (wx ++ wy) H) (hD : va_D A (wx ++ wy)) (hS : va_S A s.heap H locs) (hl : lv_has ls 4 [(3, .int i), (2, .ref (ay 0)), (1, .ref (ad 0)), (0, .ref b)]) : W p l e room_1 s m #[Value.ref b] below meth c H locs 98 12032 (lw_Z below #[Value.ref b] s) (F0 m 942 ls []) := by
  obtain ⟨S, hr_, hk_, hX, hbl, hA, hAf⟩ := id C
  have hbA : ¬ A b := fun z => absurd (hAf b z) (Nat.not_le.mpr hbl)
  refine lv_aload_n S.1 S.2.1 dL_law_942 rfl (lv_at hl 2 rfl) ?_
  refine lv_aload_n S.1 S.2.1 dL_law_943 rfl (lv_at hl 3 rfl) ?_
  refine lv_iload_n S.1 S.2.1 dL_law_944 rfl (lv_at hl 0 rfl) ?_
  refine lv_iconst (v := (1)) S.1 S.2.1 dL_law_945 (by decide) ?_
  refine lv_iadd S.1 S.2.1 dL_law_946 ?_
  refine lv_topi (fun x_1 ex_1 => ?_)
  have tx_1 : x_1.toInt = i.toInt + (1) := addI (A := i.toInt) (B := 1) ex_1 rfl rfl (by omega) (by omega)
  refine va_sld S.1 S.2.1 hX hbl hbA hS (in_of (by omega) (by omega)) dL_law_947 ?_
  refine lv_topi (fun v_2 ev_2 => ?_)
  refine lv_aload_n S.1 S.2.1 dL_law_948 rfl (lv_at hl 3 rfl) ?_
  refine lv_iload_n S.1 S.2.1 dL_law_949 rfl (lv_at hl 0 rfl) ?_
  refine lv_iconst (v := (2)) S.1 S.2.1 dL_law_950 (by decide) ?_
  refine lv_iadd S.1 S.2.1 dL_law_951 ?_
  refine lv_topi (fun x_3 ex_3 => ?_)
  have tx_3 : x_3.toInt = i.toInt + (2) := addI (A := i.toInt) (B := 2) ex_3 rfl rfl (by omega) (by omega)
  refine va_sld S.1 S.2.1 hX hbl hbA hS (in_of (by omega) (by omega)) dL_law_952 ?_
  refine lv_topi (fun v_4 ev_4 => ?_)
  obtain ⟨fs_, he_⟩ := IX_0 hX_
  refine law_ci (C := RX8) (ci := 8) (As := [.int v_2, .int v_4]) (fX_ask l D cI cZ cC cS sq H.size ad fq fim ln sn tz v_2 v_4 hX_) S gL_law_X8_ask rfl hdV_X8_ask ⟨Nat.le_of_ble_eq_true rfl, Nat.le_of_ble_eq_true rfl⟩ ⟨Nat.le_of_ble_eq_true rfl, Nat.le_of_ble_eq_true rfl⟩ hK hT hS hA hP hD rfl he_ rfl hl.1 rfl (Nat.le_of_ble_eq_true rfl) dL_law_953 (fun r1 wx H locs hw hP hD hS => ?_)
  have hX_ := hw
  refine lv_pop S.1 S.2.1 dL_law_956 rfl ?_
  refine lv_aload_n S.1 S.2.1 dL_law_957 rfl (lv_at hl 1 rfl) ?_
  refine lv_aload_n S.1 S.2.1 dL_law_958 rfl (lv_at hl 3 rfl) ?_
  refine lv_iload_n S.1 S.2.1 dL_law_959 rfl (lv_at hl 0 rfl) ?_
  refine lv_iconst (v := (1)) S.1 S.2.1 dL_law_960 (by decide) ?_
  refine lv_iadd S.1 S.2.1 dL_law_961 ?_
  refine lv_topi (fun x_5 ex_5 => ?_)
  have qx_5 : x_1 = x_5 := ex_1.trans ex_5.symm
  subst qx_5
  refine va_sld S.1 S.2.1 hX hbl hbA hS (in_of (by omega) (by omega)) dL_law_962 ?_
  refine lv_topi (fun v_6 ev_6 => ?_)
  have qv_6 : v_2 = v_6 := ev_2.trans ev_6.symm
  subst qv_6
  refine lv_aload_n S.1 S.2.1 dL_law_963 rfl (lv_at hl 3 rfl) ?_
  refine lv_iload_n S.1 S.2.1 dL_law_964 rfl (lv_at hl 0 rfl) ?_
  refine lv_iconst (v := (2)) S.1 S.2.1 dL_law_965 (by decide) ?_
  refine lv_iadd S.1 S.2.1 dL_law_966 ?_
  refine lv_topi (fun x_7 ex_7 => ?_)
  have qx_7 : x_3 = x_7 := ex_3.trans ex_7.symm
  subst qx_7
  refine va_sld S.1 S.2.1 hX hbl hbA hS (in_of (by omega) (by omega)) dL_law_967 ?_
  refine lv_topi (fun v_8 ev_8 => ?_)
  have qv_8 : v_4 = v_8 := ev_4.trans ev_8.symm
  subst qv_8
  obtain ⟨fs_, he_⟩ := IY_0 hY_
  refine law_ci (C := RX9) (ci := 9) (As := [.int v_2, .int v_4]) (fY_ask l D cI cZ cC cS sq H.size ay ln sn tz v_2 v_4 hY_) S gL_law_X9_ask rfl hdV_X9_ask ⟨Nat.le_of_ble_eq_true rfl, Nat.le_of_ble_eq_true rfl⟩ ⟨Nat.le_of_ble_eq_true rfl, Nat.le_of_ble_eq_true rfl⟩ hK hT hS hA hP hD rfl he_ rfl hl.1 rfl (Nat.le_of_ble_eq_true rfl) dL_law_968 (fun r2 wy H locs hw hP hD hS => ?_)
  have hY_ := hw
  refine lv_pop S.1 S.2.1 dL_law_971 rfl ?_
  refine lv_goto (tgt := 1034) S.1 S.2.1 dL_law_972 (by decide) ?_
  exact K ln sn tz wx wy H _ ls hX_ hY_ hP hD hS hl
set_option maxHeartbeats 4000000 in
set_option maxRecDepth 100000 in
theorem law_trace {p : Program} (l : Launch) {e : Env} {s : State} {m : MethodId} {below : List Frame} {meth : Method} {c : Code} (D : va_G) (cI cZ cC cS : ClassId) (sq : Nat → Nat) {b L : Nat} {sc : Nat → Int32} {A : Nat → Prop} (C : lC p s m meth c b L sc A) (hK : kW D (tyW cI cZ cC cS) sq s) (hT : sT sq A s s.heap) (ad ay : Nat → Nat) (fq fim : Nat → Option Nat) (hL : L ≤ 3072) (i : Int32) (hi : 0 ≤ i.toInt ∧ i.toInt + 6 ≤ L) (K : ∀ (ln sn : Nat → Int32) (tz : Int32) (wx wy : va_W) (H : Heap) (locs : List Loc) (ls : Array Slot), IX cI cC cS ad fq fim ln sn tz wx → IY cI cZ ay ln sn tz wy → va_P D vwCl (wx ++ wy) H → va_D A (wx ++ wy) → va_S A s.heap H locs → lv_has ls 4 [(3, .int i), (2, .ref (ay 0)), (1, .ref (ad 0)), (0, .ref b)] → W p l e room_1 s m #[Value.ref b] below meth c H locs 98 12032 (lw_Z below #[Value.ref b] s) (F0 m 1034 ls [])) {ln sn : Nat → Int32} {tz : Int32} {wx wy : va_W} {H : Heap} {locs : List Loc} {ls : Array Slot} (hX_ : IX cI cC cS ad fq fim ln sn tz wx) (hY_ : IY cI cZ ay ln sn tz wy) (hP : va_P D vwCl (wx ++ wy) H) (hD : va_D A (wx ++ wy)) (hS : va_S A s.heap H locs) (hl : lv_has ls 4 [(3, .int i), (2, .ref (ay 0)), (1, .ref (ad 0)), (0, .ref b)]) : W p l e room_1 s m #[Value.ref b] below meth c H locs 98 12032 (lw_Z below #[Value.ref b] s) (F0 m 975 ls []) := by
  obtain ⟨S, hr_, hk_, hX, hbl, hA, hAf⟩ := id C
  have hbA : ¬ A b := fun z => absurd (hAf b z) (Nat.not_le.mpr hbl)
  refine lv_aload_n S.1 S.2.1 dL_law_975 rfl (lv_at hl 2 rfl) ?_
  refine lv_aload_n S.1 S.2.1 dL_law_976 rfl (lv_at hl 3 rfl) ?_
  refine lv_iload_n S.1 S.2.1 dL_law_977 rfl (lv_at hl 0 rfl) ?_
  refine lv_iconst (v := (1)) S.1 S.2.1 dL_law_978 (by decide) ?_
  refine lv_iadd S.1 S.2.1 dL_law_979 ?_
  refine lv_topi (fun x_1 ex_1 => ?_)
  have tx_1 : x_1.toInt = i.toInt + (1) := addI (A := i.toInt) (B := 1) ex_1 rfl rfl (by omega) (by omega)
  refine va_sld S.1 S.2.1 hX hbl hbA hS (in_of (by omega) (by omega)) dL_law_980 ?_
  refine lv_topi (fun v_2 ev_2 => ?_)
  obtain ⟨fs_, he_⟩ := IX_0 hX_
  refine law_ci (C := RX8) (ci := 8) (As := [.int v_2]) (fX_trace l D cI cZ cC cS sq H.size ad fq fim ln sn tz v_2 hX_) S gL_law_X8_trace rfl hdV_X8_trace ⟨Nat.le_of_ble_eq_true rfl, Nat.le_of_ble_eq_true rfl⟩ ⟨Nat.le_of_ble_eq_true rfl, Nat.le_of_ble_eq_true rfl⟩ hK hT hS hA hP hD rfl he_ rfl hl.1 rfl (Nat.le_of_ble_eq_true rfl) dL_law_981 (fun r1 wx H locs hw hP hD hS => ?_)
  have hX_ := hw
  refine lv_pop S.1 S.2.1 dL_law_984 rfl ?_
  refine lv_aload_n S.1 S.2.1 dL_law_985 rfl (lv_at hl 1 rfl) ?_
  refine lv_aload_n S.1 S.2.1 dL_law_986 rfl (lv_at hl 3 rfl) ?_
  refine lv_iload_n S.1 S.2.1 dL_law_987 rfl (lv_at hl 0 rfl) ?_
  refine lv_iconst (v := (1)) S.1 S.2.1 dL_law_988 (by decide) ?_
  refine lv_iadd S.1 S.2.1 dL_law_989 ?_
  refine lv_topi (fun x_3 ex_3 => ?_)
  have qx_3 : x_1 = x_3 := ex_1.trans ex_3.symm
  subst qx_3
  refine va_sld S.1 S.2.1 hX hbl hbA hS (in_of (by omega) (by omega)) dL_law_990 ?_
  refine lv_topi (fun v_4 ev_4 => ?_)
  have qv_4 : v_2 = v_4 := ev_2.trans ev_4.symm
  subst qv_4
  obtain ⟨fs_, he_⟩ := IY_0 hY_
  refine law_ci (C := RX9) (ci := 9) (As := [.int v_2]) (fY_trace l D cI cZ cC cS sq H.size ay ln sn tz v_2 hY_) S gL_law_X9_trace rfl hdV_X9_trace ⟨Nat.le_of_ble_eq_true rfl, Nat.le_of_ble_eq_true rfl⟩ ⟨Nat.le_of_ble_eq_true rfl, Nat.le_of_ble_eq_true rfl⟩ hK hT hS hA hP hD rfl he_ rfl hl.1 rfl (Nat.le_of_ble_eq_true rfl) dL_law_991 (fun r2 wy H locs hw hP hD hS => ?_)
  have hY_ := hw
  refine lv_pop S.1 S.2.1 dL_law_994 rfl ?_
  refine lv_goto (tgt := 1034) S.1 S.2.1 dL_law_995 (by decide) ?_
  exact K ln sn tz wx wy H _ ls hX_ hY_ hP hD hS hl
set_option maxHeartbeats 4000000 in
set_option maxRecDepth 100000 in
theorem law_count {p : Program} (l : Launch) {e : Env} {s : State} {m : MethodId} {below : List Frame} {meth : Method} {c : Code} (D : va_G) (cI cZ cC cS : ClassId) (sq : Nat → Nat) {b L : Nat} {sc : Nat → Int32} {A : Nat → Prop} (C : lC p s m meth c b L sc A) (hK : kW D (tyW cI cZ cC cS) sq s) (hT : sT sq A s s.heap) (ad ay : Nat → Nat) (fq fim : Nat → Option Nat) (hL : L ≤ 3072) (i : Int32) (hi : 0 ≤ i.toInt ∧ i.toInt + 6 ≤ L) (K : ∀ (ln sn : Nat → Int32) (tz : Int32) (wx wy : va_W) (H : Heap) (locs : List Loc) (ls : Array Slot), IX cI cC cS ad fq fim ln sn tz wx → IY cI cZ ay ln sn tz wy → va_P D vwCl (wx ++ wy) H → va_D A (wx ++ wy) → va_S A s.heap H locs → lv_has ls 4 [(3, .int i), (2, .ref (ay 0)), (1, .ref (ad 0)), (0, .ref b)] → W p l e room_1 s m #[Value.ref b] below meth c H locs 98 12032 (lw_Z below #[Value.ref b] s) (F0 m 1034 ls [])) {ln sn : Nat → Int32} {tz : Int32} {wx wy : va_W} {H : Heap} {locs : List Loc} {ls : Array Slot} (hX_ : IX cI cC cS ad fq fim ln sn tz wx) (hY_ : IY cI cZ ay ln sn tz wy) (hP : va_P D vwCl (wx ++ wy) H) (hD : va_D A (wx ++ wy)) (hS : va_S A s.heap H locs) (hl : lv_has ls 4 [(3, .int i), (2, .ref (ay 0)), (1, .ref (ad 0)), (0, .ref b)]) : W p l e room_1 s m #[Value.ref b] below meth c H locs 98 12032 (lw_Z below #[Value.ref b] s) (F0 m 998 ls []) := by
  obtain ⟨S, hr_, hk_, hX, hbl, hA, hAf⟩ := id C
  have hbA : ¬ A b := fun z => absurd (hAf b z) (Nat.not_le.mpr hbl)
  refine lv_aload_n S.1 S.2.1 dL_law_998 rfl (lv_at hl 2 rfl) ?_
  refine lv_aload_n S.1 S.2.1 dL_law_999 rfl (lv_at hl 3 rfl) ?_
  refine lv_iload_n S.1 S.2.1 dL_law_1000 rfl (lv_at hl 0 rfl) ?_
  refine lv_iconst (v := (1)) S.1 S.2.1 dL_law_1001 (by decide) ?_
  refine lv_iadd S.1 S.2.1 dL_law_1002 ?_
  refine lv_topi (fun x_1 ex_1 => ?_)
  have tx_1 : x_1.toInt = i.toInt + (1) := addI (A := i.toInt) (B := 1) ex_1 rfl rfl (by omega) (by omega)
  refine va_sld S.1 S.2.1 hX hbl hbA hS (in_of (by omega) (by omega)) dL_law_1003 ?_
  refine lv_topi (fun v_2 ev_2 => ?_)
  obtain ⟨fs_, he_⟩ := IX_0 hX_
  refine law_ci (C := RX8) (ci := 8) (As := [.int v_2]) (fX_count l D cI cZ cC cS sq H.size ad fq fim ln sn tz v_2 hX_) S gL_law_X8_count rfl hdV_X8_count ⟨Nat.le_of_ble_eq_true rfl, Nat.le_of_ble_eq_true rfl⟩ ⟨Nat.le_of_ble_eq_true rfl, Nat.le_of_ble_eq_true rfl⟩ hK hT hS hA hP hD rfl he_ rfl hl.1 rfl (Nat.le_of_ble_eq_true rfl) dL_law_1004 (fun r1 wx H locs hw hP hD hS => ?_)
  have hX_ := hw
  refine lv_pop S.1 S.2.1 dL_law_1007 rfl ?_
  refine lv_aload_n S.1 S.2.1 dL_law_1008 rfl (lv_at hl 1 rfl) ?_
  refine lv_aload_n S.1 S.2.1 dL_law_1009 rfl (lv_at hl 3 rfl) ?_
  refine lv_iload_n S.1 S.2.1 dL_law_1010 rfl (lv_at hl 0 rfl) ?_
  refine lv_iconst (v := (1)) S.1 S.2.1 dL_law_1011 (by decide) ?_
  refine lv_iadd S.1 S.2.1 dL_law_1012 ?_
  refine lv_topi (fun x_3 ex_3 => ?_)
  have qx_3 : x_1 = x_3 := ex_1.trans ex_3.symm
  subst qx_3
  refine va_sld S.1 S.2.1 hX hbl hbA hS (in_of (by omega) (by omega)) dL_law_1013 ?_
  refine lv_topi (fun v_4 ev_4 => ?_)
  have qv_4 : v_2 = v_4 := ev_2.trans ev_4.symm
  subst qv_4
  obtain ⟨fs_, he_⟩ := IY_0 hY_
  refine law_ci (C := RX9) (ci := 9) (As := [.int v_2]) (fY_count l D cI cZ cC cS sq H.size ay ln sn tz v_2 hY_) S gL_law_X9_count rfl hdV_X9_count ⟨Nat.le_of_ble_eq_true rfl, Nat.le_of_ble_eq_true rfl⟩ ⟨Nat.le_of_ble_eq_true rfl, Nat.le_of_ble_eq_true rfl⟩ hK hT hS hA hP hD rfl he_ rfl hl.1 rfl (Nat.le_of_ble_eq_true rfl) dL_law_1014 (fun r2 wy H locs hw hP hD hS => ?_)
  have hY_ := hw
  refine lv_pop S.1 S.2.1 dL_law_1017 rfl ?_
  refine lv_goto (tgt := 1034) S.1 S.2.1 dL_law_1018 (by decide) ?_
  exact K ln sn tz wx wy H _ ls hX_ hY_ hP hD hS hl
set_option maxHeartbeats 4000000 in
set_option maxRecDepth 100000 in
theorem law_status {p : Program} (l : Launch) {e : Env} {s : State} {m : MethodId} {below : List Frame} {meth : Method} {c : Code} (D : va_G) (cI cZ cC cS : ClassId) (sq : Nat → Nat) {b L : Nat} {sc : Nat → Int32} {A : Nat → Prop} (C : lC p s m meth c b L sc A) (hK : kW D (tyW cI cZ cC cS) sq s) (hT : sT sq A s s.heap) (ad ay : Nat → Nat) (fq fim : Nat → Option Nat) (hL : L ≤ 3072) (i : Int32) (hi : 0 ≤ i.toInt ∧ i.toInt + 6 ≤ L) (K : ∀ (ln sn : Nat → Int32) (tz : Int32) (wx wy : va_W) (H : Heap) (locs : List Loc) (ls : Array Slot), IX cI cC cS ad fq fim ln sn tz wx → IY cI cZ ay ln sn tz wy → va_P D vwCl (wx ++ wy) H → va_D A (wx ++ wy) → va_S A s.heap H locs → lv_has ls 4 [(3, .int i), (2, .ref (ay 0)), (1, .ref (ad 0)), (0, .ref b)] → W p l e room_1 s m #[Value.ref b] below meth c H locs 98 12032 (lw_Z below #[Value.ref b] s) (F0 m 1034 ls [])) {ln sn : Nat → Int32} {tz : Int32} {wx wy : va_W} {H : Heap} {locs : List Loc} {ls : Array Slot} (hX_ : IX cI cC cS ad fq fim ln sn tz wx) (hY_ : IY cI cZ ay ln sn tz wy) (hP : va_P D vwCl (wx ++ wy) H) (hD : va_D A (wx ++ wy)) (hS : va_S A s.heap H locs) (hl : lv_has ls 4 [(3, .int i), (2, .ref (ay 0)), (1, .ref (ad 0)), (0, .ref b)]) : W p l e room_1 s m #[Value.ref b] below meth c H locs 98 12032 (lw_Z below #[Value.ref b] s) (F0 m 1021 ls []) := by
  obtain ⟨S, hr_, hk_, hX, hbl, hA, hAf⟩ := id C
  have hbA : ¬ A b := fun z => absurd (hAf b z) (Nat.not_le.mpr hbl)
  refine lv_aload_n S.1 S.2.1 dL_law_1021 rfl (lv_at hl 2 rfl) ?_
  obtain ⟨fs_, he_⟩ := IX_0 hX_
  refine law_ci (C := RX8) (ci := 8) (As := []) (fX_status l D cI cZ cC cS sq H.size ad fq fim ln sn tz  hX_) S gL_law_X8_status rfl hdV_X8_status ⟨Nat.le_of_ble_eq_true rfl, Nat.le_of_ble_eq_true rfl⟩ ⟨Nat.le_of_ble_eq_true rfl, Nat.le_of_ble_eq_true rfl⟩ hK hT hS hA hP hD rfl he_ rfl hl.1 rfl (Nat.le_of_ble_eq_true rfl) dL_law_1022 (fun r1 wx H locs hw hP hD hS => ?_)
  have hX_ := hw
  refine lv_pop S.1 S.2.1 dL_law_1025 rfl ?_
  refine lv_aload_n S.1 S.2.1 dL_law_1026 rfl (lv_at hl 1 rfl) ?_
  obtain ⟨fs_, he_⟩ := IY_0 hY_
  refine law_ci (C := RX9) (ci := 9) (As := []) (fY_status l D cI cZ cC cS sq H.size ay ln sn tz  hY_) S gL_law_X9_status rfl hdV_X9_status ⟨Nat.le_of_ble_eq_true rfl, Nat.le_of_ble_eq_true rfl⟩ ⟨Nat.le_of_ble_eq_true rfl, Nat.le_of_ble_eq_true rfl⟩ hK hT hS hA hP hD rfl he_ rfl hl.1 rfl (Nat.le_of_ble_eq_true rfl) dL_law_1027 (fun r2 wy H locs hw hP hD hS => ?_)
  have hY_ := hw
  refine lv_pop S.1 S.2.1 dL_law_1030 rfl ?_
  refine lv_goto (tgt := 1034) S.1 S.2.1 dL_law_1031 (by decide) ?_
  exact K ln sn tz wx wy H _ ls hX_ hY_ hP hD hS hl
