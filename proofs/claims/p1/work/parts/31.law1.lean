set_option maxRecDepth 20000 in
theorem ggL_law_X8_as : GoodIn wsL_law wsX8_as := goodIn_r _ [993, 22, 151, 45, 973, 417, 418, 21, 419, 63, 64, 155, 156, 2, 157, 994, 995, 996, 44, 997, 998, 999, 975, 976, 977, 121, 978, 451, 452, 453, 66, 416, 979, 561, 562, 563, 67, 564, 980, 443, 444, 445, 981, 413, 414, 415, 171, 172, 173, 174, 47, 158, 159, 160, 161, 162, 1101, 1102, 1103, 1104, 1105, 1106, 1107, 1108, 1109, 1110, 1111, 1112, 1113, 1149, 1150, 1151, 1152, 1153, 1154, 1155, 1156, 1157, 1158, 1159, 1160, 1185, 1186, 1187] (by decide +kernel) (by decide +kernel)
set_option maxRecDepth 20000 in
theorem gL_law_X8_as : GoodIn wsL_law (wsV RL 114 RX8 yX8_as wsX8_as) := goodIn_app (goodIn_of _ (by decide +kernel)) ggL_law_X8_as
set_option maxRecDepth 20000 in
theorem ggL_law_X8_ask : GoodIn wsL_law wsX8_ask := goodIn_r _ [1010, 22, 151, 45, 973, 417, 418, 21, 419, 63, 64, 155, 156, 2, 157, 1011, 1012, 1013, 44, 1014, 120, 1015, 1016, 1017, 1018, 1019, 1020, 999, 975, 976, 977, 121, 978, 451, 452, 453, 66, 416, 979, 561, 562, 563, 67, 564, 980, 443, 444, 445, 981, 413, 414, 415, 1021, 1022, 1023, 1024, 119, 1025, 1026, 1027, 1028, 1029, 434, 435, 436, 1030, 1101, 1102, 1103, 1104, 1105, 1106, 1107, 1108, 1109, 1110, 1111, 1112, 1113, 1149, 1150, 1151, 1152, 1153, 1154, 1155, 1156, 1157, 1158, 1159, 1160, 1185, 1186, 1187] (by decide +kernel) (by decide +kernel)
set_option maxRecDepth 20000 in
theorem gL_law_X8_ask : GoodIn wsL_law (wsV RL 118 RX8 yX8_ask wsX8_ask) := goodIn_app (goodIn_of _ (by decide +kernel)) ggL_law_X8_ask
set_option maxRecDepth 20000 in
theorem ggL_law_X8_beauty : GoodIn wsL_law wsX8_beauty := goodIn_r _ [848, 621, 151, 22, 623, 624, 625, 2, 626, 627, 628, 629, 21, 630, 63, 849, 850, 851, 852, 559, 413, 414, 415, 66, 416, 417, 418, 419, 64, 853, 854, 855, 856, 32, 662, 1101, 1102, 1103, 1104, 1105, 1106, 1107, 1108, 1109, 1110, 1111, 1112, 1113, 1149, 1150, 1151, 1152, 1153, 1154, 1155, 1156, 1157, 1158, 1159, 1160, 1165, 1166, 1167, 1168] (by decide +kernel) (by decide +kernel)
set_option maxRecDepth 20000 in
theorem gL_law_X8_beauty : GoodIn wsL_law (wsV RL 86 RX8 yX8_beauty wsX8_beauty) := goodIn_app (goodIn_of _ (by decide +kernel)) ggL_law_X8_beauty
set_option maxRecDepth 20000 in
theorem ggL_law_X8_city : GoodIn wsL_law wsX8_city := goodIn_r _ [263, 27, 18, 243, 264, 46, 265, 266, 22, 23, 32, 267, 268, 269, 270, 26, 271, 82, 81, 272, 273, 274, 275, 21, 276, 63, 64, 65, 67, 68, 72, 73, 74, 277, 168, 169, 170, 278, 279, 280, 17, 281, 58, 282, 283, 284, 285, 55, 54, 57, 56, 286, 287, 288, 289, 290, 291, 292, 59, 293, 294, 295, 296, 297, 298, 299, 300, 301, 302, 303, 304, 305, 306, 307, 308, 309, 310, 311, 312, 313, 314, 315, 316, 317, 318, 319, 320, 321, 322, 323, 324, 325, 326, 327, 328, 329, 330, 331, 332, 333, 334, 335, 336, 337, 338, 339, 340, 341, 342, 343, 344, 345, 346, 347, 348, 349, 350, 351, 352, 353, 79, 354, 80, 355, 356, 357, 358, 359, 360, 361, 362, 363, 364, 365, 366, 367, 368, 369, 370, 371, 372, 373, 374, 375, 376, 377, 378, 379, 380, 381, 382, 383, 384, 385, 386, 387, 388, 389, 390, 391, 392, 393, 394, 395, 396, 397, 398, 399, 400, 401, 402, 403, 404, 405, 406, 407, 408, 409, 410, 411, 412, 413, 414, 415, 66, 416, 417, 418, 419, 420, 421, 422, 423, 424, 219, 220, 221, 69, 70, 71, 425, 426, 427, 31, 428, 429, 430, 431, 432, 86, 87, 433, 434, 435, 436, 437, 438, 439, 440, 441, 442, 443, 444, 445, 446, 447, 448, 449, 88, 89, 450, 451, 452, 453, 1101, 1102, 1103, 1104, 1105, 1106, 1107, 1108, 1109, 1110, 1111, 1112, 1113, 1143, 1144, 1145, 1146, 1147, 1148, 1161, 1162, 1163, 1164, 1149, 1150, 1151, 1152, 1153, 1154, 1155, 1156, 1157, 1158, 1159, 1160, 1165, 1166, 1167, 1168] (by decide +kernel) (by decide +kernel)
set_option maxRecDepth 20000 in
theorem gL_law_X8_city : GoodIn wsL_law (wsV RL 39 RX8 yX8_city wsX8_city) := goodIn_app (goodIn_of _ (by decide +kernel)) ggL_law_X8_city
set_option maxRecDepth 20000 in
theorem ggL_law_X8_copy : GoodIn wsL_law wsX8_copy := goodIn_r _ [215, 151, 14, 216, 217, 218, 219, 220, 221, 152, 153, 2, 154, 155, 156, 157, 200, 201, 202, 49, 203, 125, 158, 159, 160, 161, 47, 162, 222, 223, 224, 225, 126, 171, 172, 173, 174, 1101, 1102, 1103, 1104, 1105, 1106, 1107, 1108, 1109, 1110, 1111, 1112, 1113, 1188, 1189, 1190] (by decide +kernel) (by decide +kernel)
set_option maxRecDepth 20000 in
theorem gL_law_X8_copy : GoodIn wsL_law (wsV RL 22 RX8 yX8_copy wsX8_copy) := goodIn_app (goodIn_of _ (by decide +kernel)) ggL_law_X8_copy
set_option maxRecDepth 20000 in
theorem ggL_law_X8_count : GoodIn wsL_law wsX8_count := goodIn_r _ [1069, 22, 1070, 1071, 267, 18, 243, 151, 1072, 1073, 1074, 2, 1075, 14, 200, 201, 202, 49, 203, 125, 1076, 1077, 1078, 21, 1079, 564, 451, 452, 453, 66, 416, 417, 418, 419, 63, 64, 1080, 1081, 1082, 1083, 1084, 443, 444, 445, 1101, 1102, 1103, 1104, 1105, 1106, 1107, 1108, 1109, 1110, 1111, 1112, 1113, 1149, 1150, 1151, 1152, 1153, 1154, 1155, 1156, 1157, 1158, 1159, 1160, 1143, 1144, 1145, 1146, 1147, 1148, 1188, 1189, 1190] (by decide +kernel) (by decide +kernel)
set_option maxRecDepth 20000 in
theorem gL_law_X8_count : GoodIn wsL_law (wsV RL 126 RX8 yX8_count wsX8_count) := goodIn_app (goodIn_of _ (by decide +kernel)) ggL_law_X8_count
set_option maxRecDepth 20000 in
theorem ggL_law_X8_drop : GoodIn wsL_law wsX8_drop := goodIn_r _ [233, 151, 14, 199, 152, 153, 2, 154, 155, 156, 157, 200, 201, 202, 49, 203, 125, 158, 159, 160, 161, 47, 162, 163, 164, 165, 166, 126, 127, 167, 168, 169, 170, 171, 172, 173, 174, 1101, 1102, 1103, 1104, 1105, 1106, 1107, 1108, 1109, 1110, 1111, 1112, 1113, 1188, 1189, 1190] (by decide +kernel) (by decide +kernel)
set_option maxRecDepth 20000 in
theorem gL_law_X8_drop : GoodIn wsL_law (wsV RL 27 RX8 yX8_drop wsX8_drop) := goodIn_app (goodIn_of _ (by decide +kernel)) ggL_law_X8_drop
set_option maxRecDepth 20000 in
theorem ggL_law_X8_earns : GoodIn wsL_law wsX8_earns := goodIn_r _ [868, 621, 151, 41, 32, 623, 624, 625, 2, 626, 22, 627, 628, 629, 21, 630, 63, 631, 632, 633, 155, 156, 157, 869, 870, 871, 40, 872, 113, 873, 110, 874, 219, 220, 221, 114, 875, 759, 760, 36, 761, 103, 105, 876, 877, 878, 879, 880, 881, 882, 883, 884, 102, 101, 788, 774, 672, 673, 674, 71, 68, 885, 763, 764, 765, 766, 98, 96, 97, 95, 767, 768, 769, 770, 771, 100, 772, 94, 99, 773, 775, 776, 777, 778, 779, 780, 781, 782, 783, 784, 785, 786, 787, 789, 803, 795, 796, 797, 804, 805, 806, 807, 808, 809, 810, 811, 886, 566, 567, 31, 568, 88, 887, 888, 889, 890, 112, 111, 891, 168, 169, 170, 892, 893, 894, 895, 1101, 1102, 1103, 1104, 1105, 1106, 1107, 1108, 1109, 1110, 1111, 1112, 1113, 1149, 1150, 1151, 1152, 1153, 1154, 1155, 1156, 1157, 1158, 1159, 1160, 1180, 1181, 1182, 1183, 1184, 1169, 1170, 1171, 1172, 1173, 1174, 1175, 1176, 1177, 1178, 1179, 1165, 1166, 1167, 1168] (by decide +kernel) (by decide +kernel)
set_option maxRecDepth 20000 in
theorem gL_law_X8_earns : GoodIn wsL_law (wsV RL 90 RX8 yX8_earns wsX8_earns) := goodIn_app (goodIn_of _ (by decide +kernel)) ggL_law_X8_earns
set_option maxRecDepth 20000 in
theorem ggL_law_X8_fault : GoodIn wsL_law wsX8_fault := goodIn_r _ [547, 46, 1101, 1102, 1103, 1104, 1105, 1106, 1107, 1108, 1109, 1110, 1111, 1112, 1113] (by decide +kernel) (by decide +kernel)
set_option maxRecDepth 20000 in
theorem gL_law_X8_fault : GoodIn wsL_law (wsV RL 44 RX8 yX8_fault wsX8_fault) := goodIn_app (goodIn_of _ (by decide +kernel)) ggL_law_X8_fault
set_option maxRecDepth 20000 in
theorem ggL_law_X8_feed : GoodIn wsL_law wsX8_feed := goodIn_r _ [241, 151, 18, 242, 243, 244, 245, 246, 17, 247, 55, 248, 249, 250, 251, 54, 1101, 1102, 1103, 1104, 1105, 1106, 1107, 1108, 1109, 1110, 1111, 1112, 1113, 1143, 1144, 1145, 1146, 1147, 1148] (by decide +kernel) (by decide +kernel)
set_option maxRecDepth 20000 in
theorem gL_law_X8_feed : GoodIn wsL_law (wsV RL 34 RX8 yX8_feed wsX8_feed) := goodIn_app (goodIn_of _ (by decide +kernel)) ggL_law_X8_feed
set_option maxRecDepth 20000 in
theorem ggL_law_X8_got : GoodIn wsL_law wsX8_got := goodIn_r _ [729, 621, 22, 151, 623, 624, 625, 2, 626, 627, 628, 629, 21, 630, 63, 631, 632, 633, 155, 156, 157, 730, 731, 732, 733, 65, 73, 1101, 1102, 1103, 1104, 1105, 1106, 1107, 1108, 1109, 1110, 1111, 1112, 1113, 1149, 1150, 1151, 1152, 1153, 1154, 1155, 1156, 1157, 1158, 1159, 1160] (by decide +kernel) (by decide +kernel)
set_option maxRecDepth 20000 in
theorem gL_law_X8_got : GoodIn wsL_law (wsV RL 70 RX8 yX8_got wsX8_got) := goodIn_app (goodIn_of _ (by decide +kernel)) ggL_law_X8_got
set_option maxRecDepth 20000 in
theorem ggL_law_X8_home : GoodIn wsL_law wsX8_home := goodIn_r _ [753, 151, 37, 32, 22, 622, 557, 648, 649, 650, 2, 651, 267, 155, 156, 157, 754, 755, 756, 757, 656, 758, 759, 760, 36, 761, 103, 105, 762, 763, 764, 765, 766, 98, 96, 97, 95, 101, 767, 768, 769, 770, 771, 100, 102, 772, 94, 99, 773, 774, 672, 673, 21, 674, 71, 68, 775, 776, 777, 778, 779, 780, 781, 782, 783, 784, 785, 786, 787, 788, 789, 790, 791, 792, 793, 794, 795, 796, 797, 798, 799, 800, 801, 802, 803, 804, 805, 806, 807, 808, 809, 810, 811, 1101, 1102, 1103, 1104, 1105, 1106, 1107, 1108, 1109, 1110, 1111, 1112, 1113, 1149, 1150, 1151, 1152, 1153, 1154, 1155, 1156, 1157, 1158, 1159, 1160, 1169, 1170, 1171, 1172, 1173, 1174, 1175, 1176, 1177, 1178, 1179, 1165, 1166, 1167, 1168] (by decide +kernel) (by decide +kernel)
set_option maxRecDepth 20000 in
theorem gL_law_X8_home : GoodIn wsL_law (wsV RL 78 RX8 yX8_home wsX8_home) := goodIn_app (goodIn_of _ (by decide +kernel)) ggL_law_X8_home
set_option maxRecDepth 20000 in
theorem ggL_law_X8_image : GoodIn wsL_law wsX8_image := goodIn_r _ [956, 151, 621, 28, 22, 155, 156, 2, 157, 623, 624, 625, 626, 627, 628, 629, 21, 630, 63, 420, 421, 422, 423, 64, 65, 66, 424, 219, 220, 221, 67, 68, 69, 70, 71, 72, 73, 74, 1101, 1102, 1103, 1104, 1105, 1106, 1107, 1108, 1109, 1110, 1111, 1112, 1113, 1149, 1150, 1151, 1152, 1153, 1154, 1155, 1156, 1157, 1158, 1159, 1160] (by decide +kernel) (by decide +kernel)
set_option maxRecDepth 20000 in
theorem gL_law_X8_image : GoodIn wsL_law (wsV RL 102 RX8 yX8_image wsX8_image) := goodIn_app (goodIn_of _ (by decide +kernel)) ggL_law_X8_image
set_option maxRecDepth 20000 in
theorem ggL_law_X8_kind : GoodIn wsL_law wsX8_kind := goodIn_r _ [972, 22, 45, 151, 973, 417, 418, 21, 419, 63, 64, 974, 975, 976, 44, 977, 121, 978, 451, 452, 453, 66, 416, 979, 561, 562, 563, 67, 564, 980, 443, 444, 445, 981, 413, 414, 415, 1101, 1102, 1103, 1104, 1105, 1106, 1107, 1108, 1109, 1110, 1111, 1112, 1113, 1149, 1150, 1151, 1152, 1153, 1154, 1155, 1156, 1157, 1158, 1159, 1160, 1185, 1186, 1187] (by decide +kernel) (by decide +kernel)
set_option maxRecDepth 20000 in
theorem gL_law_X8_kind : GoodIn wsL_law (wsV RL 110 RX8 yX8_kind wsX8_kind) := goodIn_app (goodIn_of _ (by decide +kernel)) ggL_law_X8_kind
set_option maxRecDepth 20000 in
theorem ggL_law_X8_look : GoodIn wsL_law wsX8_look := goodIn_r _ [555, 22, 151, 32, 556, 557, 558, 559, 413, 414, 21, 415, 66, 416, 417, 418, 419, 63, 64, 155, 156, 2, 157, 560, 561, 562, 563, 67, 564, 451, 452, 453, 565, 566, 567, 31, 568, 88, 1101, 1102, 1103, 1104, 1105, 1106, 1107, 1108, 1109, 1110, 1111, 1112, 1113, 1165, 1166, 1167, 1168, 1149, 1150, 1151, 1152, 1153, 1154, 1155, 1156, 1157, 1158, 1159, 1160] (by decide +kernel) (by decide +kernel)
set_option maxRecDepth 20000 in
theorem gL_law_X8_look : GoodIn wsL_law (wsV RL 48 RX8 yX8_look wsX8_look) := goodIn_app (goodIn_of _ (by decide +kernel)) ggL_law_X8_look
set_option maxRecDepth 20000 in
theorem ggL_law_X8_nothing : GoodIn wsL_law wsX8_nothing := goodIn_r _ [840, 151, 37, 32, 22, 622, 557, 648, 649, 650, 2, 651, 267, 155, 156, 157, 758, 759, 760, 36, 761, 103, 105, 754, 755, 756, 757, 656, 762, 763, 764, 765, 766, 98, 96, 97, 95, 101, 767, 768, 769, 770, 771, 100, 102, 772, 94, 99, 773, 774, 672, 673, 21, 674, 71, 68, 775, 776, 777, 778, 779, 780, 781, 782, 783, 784, 785, 786, 787, 788, 789, 790, 791, 792, 793, 1101, 1102, 1103, 1104, 1105, 1106, 1107, 1108, 1109, 1110, 1111, 1112, 1113, 1149, 1150, 1151, 1152, 1153, 1154, 1155, 1156, 1157, 1158, 1159, 1160, 1169, 1170, 1171, 1172, 1173, 1174, 1175, 1176, 1177, 1178, 1179, 1165, 1166, 1167, 1168] (by decide +kernel) (by decide +kernel)
set_option maxRecDepth 20000 in
theorem gL_law_X8_nothing : GoodIn wsL_law (wsV RL 82 RX8 yX8_nothing wsX8_nothing) := goodIn_app (goodIn_of _ (by decide +kernel)) ggL_law_X8_nothing
set_option maxRecDepth 20000 in
theorem ggL_law_X8_person : GoodIn wsL_law wsX8_person := goodIn_r _ [712, 151, 22, 669, 670, 661, 713, 656, 663, 648, 649, 650, 2, 651, 267, 155, 156, 157, 714, 715, 716, 21, 717, 73, 1101, 1102, 1103, 1104, 1105, 1106, 1107, 1108, 1109, 1110, 1111, 1112, 1113, 1149, 1150, 1151, 1152, 1153, 1154, 1155, 1156, 1157, 1158, 1159, 1160] (by decide +kernel) (by decide +kernel)
set_option maxRecDepth 20000 in
theorem gL_law_X8_person : GoodIn wsL_law (wsV RL 66 RX8 yX8_person wsX8_person) := goodIn_app (goodIn_of _ (by decide +kernel)) ggL_law_X8_person
set_option maxRecDepth 20000 in
theorem ggL_law_X8_price : GoodIn wsL_law wsX8_price := goodIn_r _ [620, 621, 151, 22, 622, 623, 624, 625, 2, 626, 627, 628, 629, 21, 630, 63, 631, 632, 633, 155, 156, 157, 1101, 1102, 1103, 1104, 1105, 1106, 1107, 1108, 1109, 1110, 1111, 1112, 1113, 1149, 1150, 1151, 1152, 1153, 1154, 1155, 1156, 1157, 1158, 1159, 1160] (by decide +kernel) (by decide +kernel)
set_option maxRecDepth 20000 in
theorem gL_law_X8_price : GoodIn wsL_law (wsV RL 52 RX8 yX8_price wsX8_price) := goodIn_app (goodIn_of _ (by decide +kernel)) ggL_law_X8_price
set_option maxRecDepth 20000 in
theorem ggL_law_X8_restore : GoodIn wsL_law wsX8_restore := goodIn_r _ [964, 151, 28, 621, 22, 32, 155, 156, 2, 157, 627, 628, 629, 21, 630, 63, 420, 421, 422, 423, 64, 65, 66, 424, 219, 220, 221, 67, 68, 69, 70, 71, 72, 73, 74, 425, 426, 427, 31, 428, 429, 430, 431, 432, 86, 87, 433, 434, 435, 436, 437, 413, 414, 415, 416, 417, 418, 419, 438, 439, 440, 441, 442, 443, 444, 445, 446, 447, 448, 449, 88, 89, 450, 451, 452, 453, 1101, 1102, 1103, 1104, 1105, 1106, 1107, 1108, 1109, 1110, 1111, 1112, 1113, 1149, 1150, 1151, 1152, 1153, 1154, 1155, 1156, 1157, 1158, 1159, 1160, 1165, 1166, 1167, 1168] (by decide +kernel) (by decide +kernel)
set_option maxRecDepth 20000 in
theorem gL_law_X8_restore : GoodIn wsL_law (wsV RL 106 RX8 yX8_restore wsX8_restore) := goodIn_app (goodIn_of _ (by decide +kernel)) ggL_law_X8_restore
set_option maxRecDepth 20000 in
theorem ggL_law_X8_rivals : GoodIn wsL_law wsX8_rivals := goodIn_r _ [915, 621, 151, 41, 32, 916, 623, 624, 625, 2, 626, 22, 627, 628, 629, 21, 630, 63, 631, 632, 633, 155, 156, 157, 869, 870, 871, 40, 872, 113, 873, 110, 874, 219, 220, 221, 114, 875, 759, 760, 36, 761, 103, 105, 917, 918, 919, 920, 921, 922, 923, 924, 925, 564, 451, 452, 453, 66, 416, 417, 418, 419, 64, 926, 888, 889, 890, 112, 880, 111, 891, 168, 169, 170, 881, 882, 883, 884, 102, 101, 788, 774, 672, 673, 674, 71, 68, 885, 763, 764, 765, 766, 98, 96, 97, 95, 767, 768, 769, 770, 771, 100, 772, 94, 99, 773, 775, 776, 777, 778, 779, 780, 781, 782, 783, 784, 785, 786, 787, 789, 803, 795, 796, 797, 804, 805, 806, 807, 808, 809, 810, 811, 886, 566, 567, 31, 568, 88, 892, 893, 894, 895, 1101, 1102, 1103, 1104, 1105, 1106, 1107, 1108, 1109, 1110, 1111, 1112, 1113, 1180, 1181, 1182, 1183, 1184, 1149, 1150, 1151, 1152, 1153, 1154, 1155, 1156, 1157, 1158, 1159, 1160, 1169, 1170, 1171, 1172, 1173, 1174, 1175, 1176, 1177, 1178, 1179, 1165, 1166, 1167, 1168] (by decide +kernel) (by decide +kernel)
set_option maxRecDepth 20000 in
theorem gL_law_X8_rivals : GoodIn wsL_law (wsV RL 94 RX8 yX8_rivals wsX8_rivals) := goodIn_app (goodIn_of _ (by decide +kernel)) ggL_law_X8_rivals
set_option maxRecDepth 20000 in
theorem ggL_law_X8_set : GoodIn wsL_law wsX8_set := goodIn_r _ [198, 151, 14, 199, 152, 153, 2, 154, 155, 156, 157, 200, 201, 202, 49, 203, 125, 158, 159, 160, 161, 47, 162, 204, 205, 206, 207, 127, 171, 172, 173, 174, 1101, 1102, 1103, 1104, 1105, 1106, 1107, 1108, 1109, 1110, 1111, 1112, 1113, 1188, 1189, 1190] (by decide +kernel) (by decide +kernel)
set_option maxRecDepth 20000 in
theorem gL_law_X8_set : GoodIn wsL_law (wsV RL 18 RX8 yX8_set wsX8_set) := goodIn_app (goodIn_of _ (by decide +kernel)) ggL_law_X8_set
set_option maxRecDepth 20000 in
theorem ggL_law_X8_sheet : GoodIn wsL_law wsX8_sheet := goodIn_r _ [150, 151, 14, 152, 153, 2, 154, 155, 156, 157, 158, 159, 160, 161, 47, 162, 163, 164, 165, 49, 166, 125, 126, 127, 167, 168, 169, 170, 171, 172, 173, 174, 1101, 1102, 1103, 1104, 1105, 1106, 1107, 1108, 1109, 1110, 1111, 1112, 1113, 1188, 1189, 1190] (by decide +kernel) (by decide +kernel)
set_option maxRecDepth 20000 in
theorem gL_law_X8_sheet : GoodIn wsL_law (wsV RL 13 RX8 yX8_sheet wsX8_sheet) := goodIn_app (goodIn_of _ (by decide +kernel)) ggL_law_X8_sheet
set_option maxRecDepth 20000 in
theorem ggL_law_X8_status : GoodIn wsL_law wsX8_status := goodIn_r _ [1096, 47, 1101, 1102, 1103, 1104, 1105, 1106, 1107, 1108, 1109, 1110, 1111, 1112, 1113] (by decide +kernel) (by decide +kernel)
set_option maxRecDepth 20000 in
theorem gL_law_X8_status : GoodIn wsL_law (wsV RL 130 RX8 yX8_status wsX8_status) := goodIn_app (goodIn_of _ (by decide +kernel)) ggL_law_X8_status
set_option maxRecDepth 20000 in
theorem ggL_law_X8_step : GoodIn wsL_law wsX8_step := goodIn_r _ [647, 151, 648, 649, 650, 2, 651, 22, 267, 155, 156, 157, 652, 653, 654, 655, 656, 657, 658, 659, 660, 661, 32, 662, 663, 664, 665, 666, 667, 668, 622, 669, 670, 671, 672, 673, 21, 674, 71, 68, 565, 566, 567, 31, 568, 88, 1101, 1102, 1103, 1104, 1105, 1106, 1107, 1108, 1109, 1110, 1111, 1112, 1113, 1149, 1150, 1151, 1152, 1153, 1154, 1155, 1156, 1157, 1158, 1159, 1160, 1165, 1166, 1167, 1168] (by decide +kernel) (by decide +kernel)
set_option maxRecDepth 20000 in
theorem gL_law_X8_step : GoodIn wsL_law (wsV RL 57 RX8 yX8_step wsX8_step) := goodIn_app (goodIn_of _ (by decide +kernel)) ggL_law_X8_step
set_option maxRecDepth 20000 in
theorem ggL_law_X8_trace : GoodIn wsL_law wsX8_trace := goodIn_r _ [1059, 45, 1060, 1061, 557, 155, 156, 2, 157, 1101, 1102, 1103, 1104, 1105, 1106, 1107, 1108, 1109, 1110, 1111, 1112, 1113, 1185, 1186, 1187] (by decide +kernel) (by decide +kernel)
set_option maxRecDepth 20000 in
theorem gL_law_X8_trace : GoodIn wsL_law (wsV RL 122 RX8 yX8_trace wsX8_trace) := goodIn_app (goodIn_of _ (by decide +kernel)) ggL_law_X8_trace
set_option maxRecDepth 20000 in
theorem ggL_law_X8_walk : GoodIn wsL_law wsX8_walk := goodIn_r _ [703, 151, 14, 217, 648, 649, 650, 2, 651, 22, 267, 155, 156, 157, 152, 153, 154, 200, 201, 202, 49, 203, 125, 158, 159, 160, 161, 47, 162, 222, 223, 224, 225, 126, 652, 653, 654, 655, 656, 657, 658, 659, 660, 661, 32, 662, 663, 664, 665, 666, 667, 668, 622, 669, 670, 671, 672, 673, 21, 674, 71, 68, 565, 566, 567, 31, 568, 88, 171, 172, 173, 174, 1101, 1102, 1103, 1104, 1105, 1106, 1107, 1108, 1109, 1110, 1111, 1112, 1113, 1188, 1189, 1190, 1149, 1150, 1151, 1152, 1153, 1154, 1155, 1156, 1157, 1158, 1159, 1160, 1165, 1166, 1167, 1168] (by decide +kernel) (by decide +kernel)
set_option maxRecDepth 20000 in
theorem gL_law_X8_walk : GoodIn wsL_law (wsV RL 61 RX8 yX8_walk wsX8_walk) := goodIn_app (goodIn_of _ (by decide +kernel)) ggL_law_X8_walk
set_option maxRecDepth 20000 in
theorem ggL_law_X8_wall : GoodIn wsL_law wsX8_wall := goodIn_r _ [943, 22, 151, 41, 32, 944, 33, 559, 413, 414, 21, 415, 66, 416, 417, 418, 419, 63, 64, 945, 946, 947, 948, 65, 69, 70, 631, 632, 2, 633, 155, 156, 157, 869, 870, 871, 40, 872, 113, 873, 110, 874, 219, 220, 221, 114, 875, 759, 760, 36, 761, 103, 105, 876, 877, 878, 879, 880, 881, 882, 883, 884, 102, 101, 788, 774, 672, 673, 674, 71, 68, 885, 763, 764, 765, 766, 98, 96, 97, 95, 767, 768, 769, 770, 771, 100, 772, 94, 99, 773, 775, 776, 777, 778, 779, 780, 781, 782, 783, 784, 785, 786, 787, 789, 803, 795, 796, 797, 804, 805, 806, 807, 808, 809, 810, 811, 886, 566, 567, 31, 568, 88, 425, 426, 427, 428, 429, 430, 431, 432, 86, 87, 433, 434, 435, 436, 437, 438, 439, 440, 441, 442, 443, 444, 445, 446, 447, 448, 449, 89, 450, 451, 452, 453, 1101, 1102, 1103, 1104, 1105, 1106, 1107, 1108, 1109, 1110, 1111, 1112, 1113, 1149, 1150, 1151, 1152, 1153, 1154, 1155, 1156, 1157, 1158, 1159, 1160, 1180, 1181, 1182, 1183, 1184, 1169, 1170, 1171, 1172, 1173, 1174, 1175, 1176, 1177, 1178, 1179, 1165, 1166, 1167, 1168] (by decide +kernel) (by decide +kernel)
set_option maxRecDepth 20000 in
theorem gL_law_X8_wall : GoodIn wsL_law (wsV RL 98 RX8 yX8_wall wsX8_wall) := goodIn_app (goodIn_of _ (by decide +kernel)) ggL_law_X8_wall
set_option maxRecDepth 20000 in
theorem ggL_law_X8_witnesses : GoodIn wsL_law wsX8_witnesses := goodIn_r _ [741, 621, 22, 151, 623, 624, 625, 2, 626, 627, 628, 629, 21, 630, 63, 631, 632, 633, 155, 156, 157, 742, 743, 744, 745, 65, 74, 1101, 1102, 1103, 1104, 1105, 1106, 1107, 1108, 1109, 1110, 1111, 1112, 1113, 1149, 1150, 1151, 1152, 1153, 1154, 1155, 1156, 1157, 1158, 1159, 1160] (by decide +kernel) (by decide +kernel)
set_option maxRecDepth 20000 in
theorem gL_law_X8_witnesses : GoodIn wsL_law (wsV RL 74 RX8 yX8_witnesses wsX8_witnesses) := goodIn_app (goodIn_of _ (by decide +kernel)) ggL_law_X8_witnesses
set_option maxRecDepth 20000 in
theorem ggL_law_X9_as : GoodIn wsL_law wsX9_as := goodIn_r _ [1003, 179, 643, 181, 182, 579, 580, 581, 5, 582, 583, 187, 188, 189, 584, 585, 586, 587, 135, 986, 987, 988, 989, 1004, 1005, 1006, 190, 191, 192, 193, 194, 1114, 1115, 1116, 1117, 1118, 1119, 1120, 1121, 1122, 1123, 1124, 1125, 1126, 1127, 1128, 1129, 1130, 1131, 1132, 1133, 1134, 1135, 1136, 1137, 1138, 1139, 1140, 1141, 1142] (by decide +kernel) (by decide +kernel)
set_option maxRecDepth 20000 in
theorem gL_law_X9_as : GoodIn wsL_law (wsV RL 117 RX9 yX9_as wsX9_as) := goodIn_app (goodIn_of _ (by decide +kernel)) ggL_law_X9_as
set_option maxRecDepth 20000 in
theorem ggL_law_X9_ask : GoodIn wsL_law wsX9_ask := goodIn_r _ [1034, 179, 181, 1035, 579, 580, 581, 5, 582, 583, 187, 188, 189, 584, 585, 586, 587, 135, 986, 987, 988, 989, 1036, 1037, 1038, 1039, 1040, 1041, 1042, 1043, 146, 1044, 1045, 1046, 1047, 599, 600, 601, 602, 603, 604, 605, 606, 607, 608, 1048, 1049, 1050, 1051, 1004, 1005, 1006, 1052, 1053, 1054, 1055, 1114, 1115, 1116, 1117, 1118, 1119, 1120, 1121, 1122, 1123, 1124, 1125, 1126, 1127, 1128, 1129, 1130, 1131, 1132, 1133, 1134, 1135, 1136, 1137, 1138, 1139, 1140, 1141, 1142] (by decide +kernel) (by decide +kernel)
set_option maxRecDepth 20000 in
theorem gL_law_X9_ask : GoodIn wsL_law (wsV RL 121 RX9 yX9_ask wsX9_ask) := goodIn_app (goodIn_of _ (by decide +kernel)) ggL_law_X9_ask
set_option maxRecDepth 20000 in
theorem ggL_law_X9_beauty : GoodIn wsL_law wsX9_beauty := goodIn_r _ [860, 179, 466, 638, 181, 478, 575, 576, 577, 5, 578, 135, 579, 580, 581, 582, 583, 187, 188, 189, 584, 585, 586, 587, 861, 862, 863, 864, 599, 600, 601, 602, 603, 604, 605, 606, 607, 608, 1114, 1115, 1116, 1117, 1118, 1119, 1120, 1121, 1122, 1123, 1124, 1125, 1126, 1127, 1128, 1129, 1130, 1131, 1132, 1133, 1134, 1135, 1136, 1137, 1138, 1139, 1140, 1141, 1142] (by decide +kernel) (by decide +kernel)
set_option maxRecDepth 20000 in
theorem gL_law_X9_beauty : GoodIn wsL_law (wsV RL 89 RX9 yX9_beauty wsX9_beauty) := goodIn_app (goodIn_of _ (by decide +kernel)) ggL_law_X9_beauty
set_option maxRecDepth 20000 in
theorem ggL_law_X9_city : GoodIn wsL_law wsX9_city := goodIn_r _ [457, 179, 136, 458, 459, 460, 461, 462, 463, 464, 465, 466, 135, 467, 468, 469, 5, 470, 257, 471, 472, 473, 474, 475, 476, 477, 478, 479, 480, 481, 482, 483, 137, 484, 485, 486, 487, 488, 489, 490, 491, 492, 493, 494, 495, 496, 497, 498, 499, 500, 501, 502, 503, 504, 505, 506, 507, 508, 509, 510, 511, 512, 513, 514, 515, 516, 517, 518, 519, 520, 521, 522, 523, 524, 525, 526, 527, 528, 529, 530, 531, 532, 533, 187, 188, 189, 534, 535, 536, 537, 538, 539, 540, 541, 542, 543, 1114, 1115, 1116, 1117, 1118, 1119, 1120, 1121, 1122, 1123, 1124, 1125, 1126, 1127, 1128, 1129, 1130, 1131, 1132, 1133, 1134, 1135, 1136, 1137, 1138, 1139, 1140, 1141, 1142] (by decide +kernel) (by decide +kernel)
set_option maxRecDepth 20000 in
theorem gL_law_X9_city : GoodIn wsL_law (wsV RL 43 RX9 yX9_city wsX9_city) := goodIn_app (goodIn_of _ (by decide +kernel)) ggL_law_X9_city
set_option maxRecDepth 20000 in
theorem ggL_law_X9_copy : GoodIn wsL_law wsX9_copy := goodIn_r _ [229, 179, 181, 182, 132, 133, 134, 183, 184, 5, 185, 186, 187, 188, 189, 190, 191, 192, 193, 194, 1114, 1115, 1116, 1117, 1118, 1119, 1120, 1121, 1122, 1123, 1124, 1125, 1126, 1127, 1128, 1129, 1130, 1131, 1132, 1133, 1134, 1135, 1136, 1137, 1138, 1139, 1140, 1141, 1142] (by decide +kernel) (by decide +kernel)
set_option maxRecDepth 20000 in
theorem gL_law_X9_copy : GoodIn wsL_law (wsV RL 26 RX9 yX9_copy wsX9_copy) := goodIn_app (goodIn_of _ (by decide +kernel)) ggL_law_X9_copy
set_option maxRecDepth 20000 in
theorem ggL_law_X9_count : GoodIn wsL_law wsX9_count := goodIn_r _ [1088, 179, 132, 135, 257, 181, 1089, 1090, 1091, 5, 1092, 579, 580, 581, 582, 583, 187, 188, 189, 584, 585, 586, 587, 1114, 1115, 1116, 1117, 1118, 1119, 1120, 1121, 1122, 1123, 1124, 1125, 1126, 1127, 1128, 1129, 1130, 1131, 1132, 1133, 1134, 1135, 1136, 1137, 1138, 1139, 1140, 1141, 1142] (by decide +kernel) (by decide +kernel)
set_option maxRecDepth 20000 in
theorem gL_law_X9_count : GoodIn wsL_law (wsV RL 129 RX9 yX9_count wsX9_count) := goodIn_app (goodIn_of _ (by decide +kernel)) ggL_law_X9_count
set_option maxRecDepth 20000 in
theorem ggL_law_X9_drop : GoodIn wsL_law wsX9_drop := goodIn_r _ [237, 179, 181, 182, 132, 133, 183, 184, 5, 185, 186, 187, 188, 189, 190, 191, 192, 193, 194, 1114, 1115, 1116, 1117, 1118, 1119, 1120, 1121, 1122, 1123, 1124, 1125, 1126, 1127, 1128, 1129, 1130, 1131, 1132, 1133, 1134, 1135, 1136, 1137, 1138, 1139, 1140, 1141, 1142] (by decide +kernel) (by decide +kernel)
set_option maxRecDepth 20000 in
theorem gL_law_X9_drop : GoodIn wsL_law (wsV RL 31 RX9 yX9_drop wsX9_drop) := goodIn_app (goodIn_of _ (by decide +kernel)) ggL_law_X9_drop
set_option maxRecDepth 20000 in
theorem ggL_law_X9_earns : GoodIn wsL_law wsX9_earns := goodIn_r _ [899, 179, 466, 638, 181, 640, 641, 5, 642, 643, 187, 188, 189, 900, 901, 902, 903, 135, 904, 905, 906, 907, 139, 816, 140, 141, 817, 818, 819, 820, 138, 821, 822, 823, 824, 575, 576, 577, 578, 579, 580, 581, 582, 583, 584, 585, 586, 587, 591, 592, 593, 594, 574, 573, 595, 596, 597, 598, 599, 600, 601, 602, 603, 604, 605, 606, 607, 608, 696, 697, 698, 699, 613, 614, 615, 616, 688, 689, 690, 691, 609, 610, 611, 612, 825, 826, 827, 828, 829, 830, 831, 832, 833, 834, 835, 836, 478, 908, 909, 910, 911, 1114, 1115, 1116, 1117, 1118, 1119, 1120, 1121, 1122, 1123, 1124, 1125, 1126, 1127, 1128, 1129, 1130, 1131, 1132, 1133, 1134, 1135, 1136, 1137, 1138, 1139, 1140, 1141, 1142] (by decide +kernel) (by decide +kernel)
set_option maxRecDepth 20000 in
theorem gL_law_X9_earns : GoodIn wsL_law (wsV RL 93 RX9 yX9_earns wsX9_earns) := goodIn_app (goodIn_of _ (by decide +kernel)) ggL_law_X9_earns
set_option maxRecDepth 20000 in
theorem ggL_law_X9_fault : GoodIn wsL_law wsX9_fault := goodIn_r _ [551, 179, 463, 1114, 1115, 1116, 1117, 1118, 1119, 1120, 1121, 1122, 1123, 1124, 1125, 1126, 1127, 1128, 1129, 1130, 1131, 1132, 1133, 1134, 1135, 1136, 1137, 1138, 1139, 1140, 1141, 1142] (by decide +kernel) (by decide +kernel)
set_option maxRecDepth 20000 in
theorem gL_law_X9_fault : GoodIn wsL_law (wsV RL 47 RX9 yX9_fault wsX9_fault) := goodIn_app (goodIn_of _ (by decide +kernel)) ggL_law_X9_fault
set_option maxRecDepth 20000 in
theorem ggL_law_X9_feed : GoodIn wsL_law wsX9_feed := goodIn_r _ [255, 179, 256, 181, 257, 258, 137, 259, 187, 188, 5, 189, 1114, 1115, 1116, 1117, 1118, 1119, 1120, 1121, 1122, 1123, 1124, 1125, 1126, 1127, 1128, 1129, 1130, 1131, 1132, 1133, 1134, 1135, 1136, 1137, 1138, 1139, 1140, 1141, 1142] (by decide +kernel) (by decide +kernel)
set_option maxRecDepth 20000 in
theorem gL_law_X9_feed : GoodIn wsL_law (wsV RL 38 RX9 yX9_feed wsX9_feed) := goodIn_app (goodIn_of _ (by decide +kernel)) ggL_law_X9_feed
set_option maxRecDepth 20000 in
theorem ggL_law_X9_got : GoodIn wsL_law wsX9_got := goodIn_r _ [737, 179, 466, 638, 135, 181, 640, 641, 5, 642, 643, 187, 188, 189, 1114, 1115, 1116, 1117, 1118, 1119, 1120, 1121, 1122, 1123, 1124, 1125, 1126, 1127, 1128, 1129, 1130, 1131, 1132, 1133, 1134, 1135, 1136, 1137, 1138, 1139, 1140, 1141, 1142] (by decide +kernel) (by decide +kernel)
set_option maxRecDepth 20000 in
theorem gL_law_X9_got : GoodIn wsL_law (wsV RL 73 RX9 yX9_got wsX9_got) := goodIn_app (goodIn_of _ (by decide +kernel)) ggL_law_X9_got
set_option maxRecDepth 20000 in
theorem ggL_law_X9_home : GoodIn wsL_law wsX9_home := goodIn_r _ [815, 179, 643, 181, 138, 816, 478, 139, 141, 679, 680, 681, 5, 682, 135, 187, 188, 189, 688, 689, 690, 691, 817, 818, 819, 820, 821, 822, 823, 824, 140, 575, 576, 577, 578, 579, 580, 581, 582, 583, 584, 585, 586, 587, 591, 592, 593, 594, 574, 573, 595, 596, 597, 598, 599, 600, 601, 602, 603, 604, 605, 606, 607, 608, 696, 697, 698, 699, 613, 614, 615, 616, 609, 610, 611, 612, 825, 826, 827, 828, 829, 830, 831, 832, 833, 834, 835, 836, 1114, 1115, 1116, 1117, 1118, 1119, 1120, 1121, 1122, 1123, 1124, 1125, 1126, 1127, 1128, 1129, 1130, 1131, 1132, 1133, 1134, 1135, 1136, 1137, 1138, 1139, 1140, 1141, 1142] (by decide +kernel) (by decide +kernel)
set_option maxRecDepth 20000 in
theorem gL_law_X9_home : GoodIn wsL_law (wsV RL 81 RX9 yX9_home wsX9_home) := goodIn_app (goodIn_of _ (by decide +kernel)) ggL_law_X9_home
set_option maxRecDepth 20000 in
theorem ggL_law_X9_image : GoodIn wsL_law wsX9_image := goodIn_r _ [960, 179, 181, 466, 638, 145, 135, 144, 187, 188, 5, 189, 1114, 1115, 1116, 1117, 1118, 1119, 1120, 1121, 1122, 1123, 1124, 1125, 1126, 1127, 1128, 1129, 1130, 1131, 1132, 1133, 1134, 1135, 1136, 1137, 1138, 1139, 1140, 1141, 1142] (by decide +kernel) (by decide +kernel)
set_option maxRecDepth 20000 in
theorem gL_law_X9_image : GoodIn wsL_law (wsV RL 105 RX9 yX9_image wsX9_image) := goodIn_app (goodIn_of _ (by decide +kernel)) ggL_law_X9_image
set_option maxRecDepth 20000 in
theorem ggL_law_X9_kind : GoodIn wsL_law wsX9_kind := goodIn_r _ [985, 179, 181, 579, 580, 581, 5, 582, 583, 187, 188, 189, 584, 585, 586, 587, 135, 986, 987, 988, 989, 1114, 1115, 1116, 1117, 1118, 1119, 1120, 1121, 1122, 1123, 1124, 1125, 1126, 1127, 1128, 1129, 1130, 1131, 1132, 1133, 1134, 1135, 1136, 1137, 1138, 1139, 1140, 1141, 1142] (by decide +kernel) (by decide +kernel)
set_option maxRecDepth 20000 in
theorem gL_law_X9_kind : GoodIn wsL_law (wsV RL 113 RX9 yX9_kind wsX9_kind) := goodIn_app (goodIn_of _ (by decide +kernel)) ggL_law_X9_kind
set_option maxRecDepth 20000 in
theorem ggL_law_X9_look : GoodIn wsL_law wsX9_look := goodIn_r _ [572, 179, 180, 181, 573, 478, 574, 575, 576, 577, 5, 578, 135, 579, 580, 581, 582, 583, 187, 188, 189, 584, 585, 586, 587, 588, 589, 590, 186, 591, 592, 593, 594, 595, 596, 597, 598, 599, 600, 601, 602, 603, 604, 605, 606, 607, 608, 609, 610, 611, 612, 613, 614, 615, 616, 1114, 1115, 1116, 1117, 1118, 1119, 1120, 1121, 1122, 1123, 1124, 1125, 1126, 1127, 1128, 1129, 1130, 1131, 1132, 1133, 1134, 1135, 1136, 1137, 1138, 1139, 1140, 1141, 1142] (by decide +kernel) (by decide +kernel)
set_option maxRecDepth 20000 in
theorem gL_law_X9_look : GoodIn wsL_law (wsV RL 51 RX9 yX9_look wsX9_look) := goodIn_app (goodIn_of _ (by decide +kernel)) ggL_law_X9_look
set_option maxRecDepth 20000 in
theorem ggL_law_X9_nothing : GoodIn wsL_law wsX9_nothing := goodIn_r _ [844, 179, 181, 138, 478, 679, 680, 681, 5, 682, 135, 187, 188, 189, 688, 689, 690, 691, 817, 818, 819, 820, 816, 139, 821, 822, 823, 824, 140, 141, 575, 576, 577, 578, 579, 580, 581, 582, 583, 584, 585, 586, 587, 591, 592, 593, 594, 574, 573, 595, 596, 597, 598, 599, 600, 601, 602, 603, 604, 605, 606, 607, 608, 696, 697, 698, 699, 613, 614, 615, 616, 609, 610, 611, 612, 825, 826, 827, 828, 829, 830, 831, 832, 1114, 1115, 1116, 1117, 1118, 1119, 1120, 1121, 1122, 1123, 1124, 1125, 1126, 1127, 1128, 1129, 1130, 1131, 1132, 1133, 1134, 1135, 1136, 1137, 1138, 1139, 1140, 1141, 1142] (by decide +kernel) (by decide +kernel)
set_option maxRecDepth 20000 in
theorem gL_law_X9_nothing : GoodIn wsL_law (wsV RL 85 RX9 yX9_nothing wsX9_nothing) := goodIn_app (goodIn_of _ (by decide +kernel)) ggL_law_X9_nothing
set_option maxRecDepth 20000 in
theorem ggL_law_X9_person : GoodIn wsL_law wsX9_person := goodIn_r _ [721, 179, 181, 722, 687, 723, 724, 135, 725, 679, 680, 681, 5, 682, 187, 188, 189, 688, 689, 690, 691, 1114, 1115, 1116, 1117, 1118, 1119, 1120, 1121, 1122, 1123, 1124, 1125, 1126, 1127, 1128, 1129, 1130, 1131, 1132, 1133, 1134, 1135, 1136, 1137, 1138, 1139, 1140, 1141, 1142] (by decide +kernel) (by decide +kernel)
set_option maxRecDepth 20000 in
theorem gL_law_X9_person : GoodIn wsL_law (wsV RL 69 RX9 yX9_person wsX9_person) := goodIn_app (goodIn_of _ (by decide +kernel)) ggL_law_X9_person
set_option maxRecDepth 20000 in
theorem ggL_law_X9_price : GoodIn wsL_law wsX9_price := goodIn_r _ [637, 179, 466, 638, 639, 181, 135, 640, 641, 5, 642, 643, 187, 188, 189, 1114, 1115, 1116, 1117, 1118, 1119, 1120, 1121, 1122, 1123, 1124, 1125, 1126, 1127, 1128, 1129, 1130, 1131, 1132, 1133, 1134, 1135, 1136, 1137, 1138, 1139, 1140, 1141, 1142] (by decide +kernel) (by decide +kernel)
set_option maxRecDepth 20000 in
theorem gL_law_X9_price : GoodIn wsL_law (wsV RL 56 RX9 yX9_price wsX9_price) := goodIn_app (goodIn_of _ (by decide +kernel)) ggL_law_X9_price
set_option maxRecDepth 20000 in
theorem ggL_law_X9_restore : GoodIn wsL_law wsX9_restore := goodIn_r _ [968, 179, 181, 144, 638, 135, 145, 187, 188, 5, 189, 1114, 1115, 1116, 1117, 1118, 1119, 1120, 1121, 1122, 1123, 1124, 1125, 1126, 1127, 1128, 1129, 1130, 1131, 1132, 1133, 1134, 1135, 1136, 1137, 1138, 1139, 1140, 1141, 1142] (by decide +kernel) (by decide +kernel)
set_option maxRecDepth 20000 in
theorem gL_law_X9_restore : GoodIn wsL_law (wsV RL 109 RX9 yX9_restore wsX9_restore) := goodIn_app (goodIn_of _ (by decide +kernel)) ggL_law_X9_restore
set_option maxRecDepth 20000 in
theorem ggL_law_X9_rivals : GoodIn wsL_law wsX9_rivals := goodIn_r _ [930, 179, 466, 638, 931, 643, 181, 142, 135, 478, 187, 188, 5, 189, 932, 933, 934, 935, 936, 937, 938, 939, 579, 580, 581, 582, 583, 584, 585, 586, 587, 908, 909, 910, 911, 900, 901, 902, 903, 904, 905, 906, 907, 139, 816, 140, 141, 817, 818, 819, 820, 138, 821, 822, 823, 824, 575, 576, 577, 578, 591, 592, 593, 594, 574, 573, 595, 596, 597, 598, 599, 600, 601, 602, 603, 604, 605, 606, 607, 608, 696, 697, 698, 699, 613, 614, 615, 616, 688, 689, 690, 691, 609, 610, 611, 612, 825, 826, 827, 828, 829, 830, 831, 832, 833, 834, 835, 836, 1114, 1115, 1116, 1117, 1118, 1119, 1120, 1121, 1122, 1123, 1124, 1125, 1126, 1127, 1128, 1129, 1130, 1131, 1132, 1133, 1134, 1135, 1136, 1137, 1138, 1139, 1140, 1141, 1142] (by decide +kernel) (by decide +kernel)
set_option maxRecDepth 20000 in
theorem gL_law_X9_rivals : GoodIn wsL_law (wsV RL 97 RX9 yX9_rivals wsX9_rivals) := goodIn_app (goodIn_of _ (by decide +kernel)) ggL_law_X9_rivals
set_option maxRecDepth 20000 in
theorem ggL_law_X9_set : GoodIn wsL_law wsX9_set := goodIn_r _ [211, 179, 181, 182, 132, 133, 134, 183, 184, 5, 185, 186, 187, 188, 189, 190, 191, 192, 193, 194, 1114, 1115, 1116, 1117, 1118, 1119, 1120, 1121, 1122, 1123, 1124, 1125, 1126, 1127, 1128, 1129, 1130, 1131, 1132, 1133, 1134, 1135, 1136, 1137, 1138, 1139, 1140, 1141, 1142] (by decide +kernel) (by decide +kernel)
set_option maxRecDepth 20000 in
theorem gL_law_X9_set : GoodIn wsL_law (wsV RL 21 RX9 yX9_set wsX9_set) := goodIn_app (goodIn_of _ (by decide +kernel)) ggL_law_X9_set
set_option maxRecDepth 20000 in
theorem ggL_law_X9_sheet : GoodIn wsL_law wsX9_sheet := goodIn_r _ [178, 179, 180, 181, 182, 132, 133, 134, 183, 184, 5, 185, 186, 187, 188, 189, 190, 191, 192, 193, 194, 1114, 1115, 1116, 1117, 1118, 1119, 1120, 1121, 1122, 1123, 1124, 1125, 1126, 1127, 1128, 1129, 1130, 1131, 1132, 1133, 1134, 1135, 1136, 1137, 1138, 1139, 1140, 1141, 1142] (by decide +kernel) (by decide +kernel)
set_option maxRecDepth 20000 in
theorem gL_law_X9_sheet : GoodIn wsL_law (wsV RL 17 RX9 yX9_sheet wsX9_sheet) := goodIn_app (goodIn_of _ (by decide +kernel)) ggL_law_X9_sheet
set_option maxRecDepth 20000 in
theorem ggL_law_X9_status : GoodIn wsL_law wsX9_status := goodIn_r _ [1100, 179, 182, 1114, 1115, 1116, 1117, 1118, 1119, 1120, 1121, 1122, 1123, 1124, 1125, 1126, 1127, 1128, 1129, 1130, 1131, 1132, 1133, 1134, 1135, 1136, 1137, 1138, 1139, 1140, 1141, 1142] (by decide +kernel) (by decide +kernel)
set_option maxRecDepth 20000 in
theorem gL_law_X9_status : GoodIn wsL_law (wsV RL 133 RX9 yX9_status wsX9_status) := goodIn_app (goodIn_of _ (by decide +kernel)) ggL_law_X9_status
set_option maxRecDepth 20000 in
theorem ggL_law_X9_step : GoodIn wsL_law wsX9_step := goodIn_r _ [678, 179, 181, 679, 680, 681, 5, 682, 135, 187, 188, 189, 683, 684, 685, 686, 687, 186, 688, 689, 690, 691, 692, 693, 694, 695, 591, 592, 593, 594, 574, 573, 595, 596, 597, 598, 599, 600, 601, 602, 603, 604, 605, 606, 607, 608, 584, 585, 586, 587, 613, 614, 615, 616, 696, 697, 698, 699, 609, 610, 611, 612, 1114, 1115, 1116, 1117, 1118, 1119, 1120, 1121, 1122, 1123, 1124, 1125, 1126, 1127, 1128, 1129, 1130, 1131, 1132, 1133, 1134, 1135, 1136, 1137, 1138, 1139, 1140, 1141, 1142] (by decide +kernel) (by decide +kernel)
set_option maxRecDepth 20000 in
theorem gL_law_X9_step : GoodIn wsL_law (wsV RL 60 RX9 yX9_step wsX9_step) := goodIn_app (goodIn_of _ (by decide +kernel)) ggL_law_X9_step
set_option maxRecDepth 20000 in
theorem ggL_law_X9_trace : GoodIn wsL_law wsX9_trace := goodIn_r _ [1065, 179, 1035, 146, 478, 187, 188, 5, 189, 1114, 1115, 1116, 1117, 1118, 1119, 1120, 1121, 1122, 1123, 1124, 1125, 1126, 1127, 1128, 1129, 1130, 1131, 1132, 1133, 1134, 1135, 1136, 1137, 1138, 1139, 1140, 1141, 1142] (by decide +kernel) (by decide +kernel)
set_option maxRecDepth 20000 in
theorem gL_law_X9_trace : GoodIn wsL_law (wsV RL 125 RX9 yX9_trace wsX9_trace) := goodIn_app (goodIn_of _ (by decide +kernel)) ggL_law_X9_trace
set_option maxRecDepth 20000 in
theorem ggL_law_X9_walk : GoodIn wsL_law wsX9_walk := goodIn_r _ [707, 179, 708, 181, 132, 133, 134, 182, 679, 680, 681, 5, 682, 135, 187, 188, 189, 183, 184, 185, 186, 190, 191, 192, 193, 194, 683, 684, 685, 686, 687, 688, 689, 690, 691, 692, 693, 694, 695, 591, 592, 593, 594, 574, 573, 595, 596, 597, 598, 599, 600, 601, 602, 603, 604, 605, 606, 607, 608, 584, 585, 586, 587, 613, 614, 615, 616, 696, 697, 698, 699, 609, 610, 611, 612, 1114, 1115, 1116, 1117, 1118, 1119, 1120, 1121, 1122, 1123, 1124, 1125, 1126, 1127, 1128, 1129, 1130, 1131, 1132, 1133, 1134, 1135, 1136, 1137, 1138, 1139, 1140, 1141, 1142] (by decide +kernel) (by decide +kernel)
set_option maxRecDepth 20000 in
theorem gL_law_X9_walk : GoodIn wsL_law (wsV RL 65 RX9 yX9_walk wsX9_walk) := goodIn_app (goodIn_of _ (by decide +kernel)) ggL_law_X9_walk
set_option maxRecDepth 20000 in
theorem ggL_law_X9_wall : GoodIn wsL_law wsX9_wall := goodIn_r _ [952, 179, 181, 135, 575, 576, 577, 5, 578, 579, 580, 581, 582, 583, 187, 188, 189, 584, 585, 586, 587, 640, 641, 642, 643, 688, 689, 690, 691, 900, 901, 902, 903, 904, 905, 906, 907, 139, 816, 140, 141, 817, 818, 819, 820, 138, 821, 822, 823, 824, 591, 592, 593, 594, 574, 573, 595, 596, 597, 598, 599, 600, 601, 602, 603, 604, 605, 606, 607, 608, 696, 697, 698, 699, 613, 614, 615, 616, 609, 610, 611, 612, 825, 826, 827, 828, 829, 830, 831, 832, 833, 834, 835, 836, 478, 1114, 1115, 1116, 1117, 1118, 1119, 1120, 1121, 1122, 1123, 1124, 1125, 1126, 1127, 1128, 1129, 1130, 1131, 1132, 1133, 1134, 1135, 1136, 1137, 1138, 1139, 1140, 1141, 1142] (by decide +kernel) (by decide +kernel)
set_option maxRecDepth 20000 in
theorem gL_law_X9_wall : GoodIn wsL_law (wsV RL 101 RX9 yX9_wall wsX9_wall) := goodIn_app (goodIn_of _ (by decide +kernel)) ggL_law_X9_wall
set_option maxRecDepth 20000 in
theorem ggL_law_X9_witnesses : GoodIn wsL_law wsX9_witnesses := goodIn_r _ [749, 179, 466, 638, 135, 181, 640, 641, 5, 642, 643, 187, 188, 189, 1114, 1115, 1116, 1117, 1118, 1119, 1120, 1121, 1122, 1123, 1124, 1125, 1126, 1127, 1128, 1129, 1130, 1131, 1132, 1133, 1134, 1135, 1136, 1137, 1138, 1139, 1140, 1141, 1142] (by decide +kernel) (by decide +kernel)
set_option maxRecDepth 20000 in
theorem gL_law_X9_witnesses : GoodIn wsL_law (wsV RL 77 RX9 yX9_witnesses wsX9_witnesses) := goodIn_app (goodIn_of _ (by decide +kernel)) ggL_law_X9_witnesses
theorem dL_law_1000 : decode cL_law 1000 = .ok (.iload_n 3, 1) := by decide +kernel
theorem dL_law_1001 : decode cL_law 1001 = .ok (.iconst 1, 1) := by decide +kernel
theorem dL_law_1002 : decode cL_law 1002 = .ok (.iadd, 1) := by decide +kernel
theorem dL_law_1003 : decode cL_law 1003 = .ok (.iaload, 1) := by decide +kernel
theorem dL_law_1004 : decode cL_law 1004 = .ok (.invokevirtual 126, 3) := by decide +kernel
theorem dL_law_1007 : decode cL_law 1007 = .ok (.aload_n 2, 1) := by decide +kernel
theorem dL_law_1008 : decode cL_law 1008 = .ok (.aload_n 0, 1) := by decide +kernel
theorem dL_law_1009 : decode cL_law 1009 = .ok (.iload_n 3, 1) := by decide +kernel
theorem dL_law_1010 : decode cL_law 1010 = .ok (.iconst 1, 1) := by decide +kernel
theorem dL_law_1011 : decode cL_law 1011 = .ok (.iadd, 1) := by decide +kernel
theorem dL_law_1012 : decode cL_law 1012 = .ok (.iaload, 1) := by decide +kernel
theorem dL_law_1013 : decode cL_law 1013 = .ok (.invokevirtual 129, 3) := by decide +kernel
theorem dL_law_1016 : decode cL_law 1016 = .ok (.if_icmp .eq 18, 3) := by decide +kernel
theorem dL_law_1021 : decode cL_law 1021 = .ok (.aload_n 1, 1) := by decide +kernel
theorem dL_law_1022 : decode cL_law 1022 = .ok (.invokevirtual 130, 3) := by decide +kernel
theorem dL_law_1025 : decode cL_law 1025 = .ok (.aload_n 2, 1) := by decide +kernel
theorem dL_law_1026 : decode cL_law 1026 = .ok (.invokevirtual 133, 3) := by decide +kernel
theorem dL_law_1029 : decode cL_law 1029 = .ok (.if_icmp .eq 5, 3) := by decide +kernel
theorem dL_law_160 : decode cL_law 160 = .ok (.aload_n 1, 1) := by decide +kernel
theorem dL_law_161 : decode cL_law 161 = .ok (.aload_n 0, 1) := by decide +kernel
theorem dL_law_162 : decode cL_law 162 = .ok (.iload_n 3, 1) := by decide +kernel
theorem dL_law_163 : decode cL_law 163 = .ok (.iconst 1, 1) := by decide +kernel
theorem dL_law_164 : decode cL_law 164 = .ok (.iadd, 1) := by decide +kernel
theorem dL_law_165 : decode cL_law 165 = .ok (.iaload, 1) := by decide +kernel
theorem dL_law_166 : decode cL_law 166 = .ok (.aload_n 0, 1) := by decide +kernel
theorem dL_law_167 : decode cL_law 167 = .ok (.iload_n 3, 1) := by decide +kernel
theorem dL_law_168 : decode cL_law 168 = .ok (.iconst 2, 1) := by decide +kernel
theorem dL_law_169 : decode cL_law 169 = .ok (.iadd, 1) := by decide +kernel
theorem dL_law_170 : decode cL_law 170 = .ok (.iaload, 1) := by decide +kernel
theorem dL_law_171 : decode cL_law 171 = .ok (.aload_n 0, 1) := by decide +kernel
theorem dL_law_172 : decode cL_law 172 = .ok (.iload_n 3, 1) := by decide +kernel
theorem dL_law_173 : decode cL_law 173 = .ok (.iconst 3, 1) := by decide +kernel
theorem dL_law_174 : decode cL_law 174 = .ok (.iadd, 1) := by decide +kernel
theorem dL_law_175 : decode cL_law 175 = .ok (.iaload, 1) := by decide +kernel
theorem dL_law_176 : decode cL_law 176 = .ok (.invokevirtual 13, 3) := by decide +kernel
theorem dL_law_179 : decode cL_law 179 = .ok (.aload_n 2, 1) := by decide +kernel
theorem dL_law_180 : decode cL_law 180 = .ok (.aload_n 0, 1) := by decide +kernel
theorem dL_law_181 : decode cL_law 181 = .ok (.iload_n 3, 1) := by decide +kernel
theorem dL_law_182 : decode cL_law 182 = .ok (.iconst 1, 1) := by decide +kernel
theorem dL_law_183 : decode cL_law 183 = .ok (.iadd, 1) := by decide +kernel
theorem dL_law_184 : decode cL_law 184 = .ok (.iaload, 1) := by decide +kernel
theorem dL_law_185 : decode cL_law 185 = .ok (.aload_n 0, 1) := by decide +kernel
theorem dL_law_186 : decode cL_law 186 = .ok (.iload_n 3, 1) := by decide +kernel
theorem dL_law_187 : decode cL_law 187 = .ok (.iconst 2, 1) := by decide +kernel
theorem dL_law_188 : decode cL_law 188 = .ok (.iadd, 1) := by decide +kernel
theorem dL_law_189 : decode cL_law 189 = .ok (.iaload, 1) := by decide +kernel
theorem dL_law_190 : decode cL_law 190 = .ok (.aload_n 0, 1) := by decide +kernel
theorem dL_law_191 : decode cL_law 191 = .ok (.iload_n 3, 1) := by decide +kernel
theorem dL_law_192 : decode cL_law 192 = .ok (.iconst 3, 1) := by decide +kernel
theorem dL_law_193 : decode cL_law 193 = .ok (.iadd, 1) := by decide +kernel
theorem dL_law_194 : decode cL_law 194 = .ok (.iaload, 1) := by decide +kernel
theorem dL_law_195 : decode cL_law 195 = .ok (.invokevirtual 17, 3) := by decide +kernel
theorem dL_law_198 : decode cL_law 198 = .ok (.if_icmp .eq 836, 3) := by decide +kernel
theorem dL_law_203 : decode cL_law 203 = .ok (.aload_n 1, 1) := by decide +kernel
theorem dL_law_204 : decode cL_law 204 = .ok (.aload_n 0, 1) := by decide +kernel
theorem dL_law_205 : decode cL_law 205 = .ok (.iload_n 3, 1) := by decide +kernel
theorem dL_law_206 : decode cL_law 206 = .ok (.iconst 1, 1) := by decide +kernel
theorem dL_law_207 : decode cL_law 207 = .ok (.iadd, 1) := by decide +kernel
theorem dL_law_208 : decode cL_law 208 = .ok (.iaload, 1) := by decide +kernel
theorem dL_law_209 : decode cL_law 209 = .ok (.aload_n 0, 1) := by decide +kernel
theorem dL_law_210 : decode cL_law 210 = .ok (.iload_n 3, 1) := by decide +kernel
theorem dL_law_211 : decode cL_law 211 = .ok (.iconst 2, 1) := by decide +kernel
theorem dL_law_212 : decode cL_law 212 = .ok (.iadd, 1) := by decide +kernel
theorem dL_law_213 : decode cL_law 213 = .ok (.iaload, 1) := by decide +kernel
theorem dL_law_214 : decode cL_law 214 = .ok (.aload_n 0, 1) := by decide +kernel
theorem dL_law_215 : decode cL_law 215 = .ok (.iload_n 3, 1) := by decide +kernel
theorem dL_law_216 : decode cL_law 216 = .ok (.iconst 3, 1) := by decide +kernel
theorem dL_law_217 : decode cL_law 217 = .ok (.iadd, 1) := by decide +kernel
theorem dL_law_218 : decode cL_law 218 = .ok (.iaload, 1) := by decide +kernel
theorem dL_law_219 : decode cL_law 219 = .ok (.invokevirtual 18, 3) := by decide +kernel
theorem dL_law_222 : decode cL_law 222 = .ok (.aload_n 2, 1) := by decide +kernel
theorem dL_law_223 : decode cL_law 223 = .ok (.aload_n 0, 1) := by decide +kernel
theorem dL_law_224 : decode cL_law 224 = .ok (.iload_n 3, 1) := by decide +kernel
theorem dL_law_225 : decode cL_law 225 = .ok (.iconst 1, 1) := by decide +kernel
theorem dL_law_226 : decode cL_law 226 = .ok (.iadd, 1) := by decide +kernel
theorem dL_law_227 : decode cL_law 227 = .ok (.iaload, 1) := by decide +kernel
theorem dL_law_228 : decode cL_law 228 = .ok (.aload_n 0, 1) := by decide +kernel
theorem dL_law_229 : decode cL_law 229 = .ok (.iload_n 3, 1) := by decide +kernel
theorem dL_law_230 : decode cL_law 230 = .ok (.iconst 2, 1) := by decide +kernel
theorem dL_law_231 : decode cL_law 231 = .ok (.iadd, 1) := by decide +kernel
theorem dL_law_232 : decode cL_law 232 = .ok (.iaload, 1) := by decide +kernel
theorem dL_law_233 : decode cL_law 233 = .ok (.aload_n 0, 1) := by decide +kernel
theorem dL_law_234 : decode cL_law 234 = .ok (.iload_n 3, 1) := by decide +kernel
theorem dL_law_235 : decode cL_law 235 = .ok (.iconst 3, 1) := by decide +kernel
theorem dL_law_236 : decode cL_law 236 = .ok (.iadd, 1) := by decide +kernel
theorem dL_law_237 : decode cL_law 237 = .ok (.iaload, 1) := by decide +kernel
theorem dL_law_238 : decode cL_law 238 = .ok (.invokevirtual 21, 3) := by decide +kernel
theorem dL_law_241 : decode cL_law 241 = .ok (.if_icmp .eq 793, 3) := by decide +kernel
theorem dL_law_246 : decode cL_law 246 = .ok (.aload_n 1, 1) := by decide +kernel
theorem dL_law_247 : decode cL_law 247 = .ok (.aload_n 0, 1) := by decide +kernel
theorem dL_law_248 : decode cL_law 248 = .ok (.iload_n 3, 1) := by decide +kernel
theorem dL_law_249 : decode cL_law 249 = .ok (.iconst 1, 1) := by decide +kernel
theorem dL_law_250 : decode cL_law 250 = .ok (.iadd, 1) := by decide +kernel
theorem dL_law_251 : decode cL_law 251 = .ok (.iaload, 1) := by decide +kernel
theorem dL_law_252 : decode cL_law 252 = .ok (.aload_n 0, 1) := by decide +kernel
theorem dL_law_253 : decode cL_law 253 = .ok (.iload_n 3, 1) := by decide +kernel
theorem dL_law_254 : decode cL_law 254 = .ok (.iconst 2, 1) := by decide +kernel
theorem dL_law_255 : decode cL_law 255 = .ok (.iadd, 1) := by decide +kernel
theorem dL_law_256 : decode cL_law 256 = .ok (.iaload, 1) := by decide +kernel
theorem dL_law_257 : decode cL_law 257 = .ok (.aload_n 0, 1) := by decide +kernel
theorem dL_law_258 : decode cL_law 258 = .ok (.iload_n 3, 1) := by decide +kernel
theorem dL_law_259 : decode cL_law 259 = .ok (.iconst 3, 1) := by decide +kernel
theorem dL_law_260 : decode cL_law 260 = .ok (.iadd, 1) := by decide +kernel
theorem dL_law_261 : decode cL_law 261 = .ok (.iaload, 1) := by decide +kernel
theorem dL_law_262 : decode cL_law 262 = .ok (.aload_n 0, 1) := by decide +kernel
theorem dL_law_263 : decode cL_law 263 = .ok (.iload_n 3, 1) := by decide +kernel
theorem dL_law_264 : decode cL_law 264 = .ok (.iconst 4, 1) := by decide +kernel
theorem dL_law_265 : decode cL_law 265 = .ok (.iadd, 1) := by decide +kernel
theorem dL_law_266 : decode cL_law 266 = .ok (.iaload, 1) := by decide +kernel
theorem dL_law_267 : decode cL_law 267 = .ok (.aload_n 0, 1) := by decide +kernel
theorem dL_law_268 : decode cL_law 268 = .ok (.iload_n 3, 1) := by decide +kernel
theorem dL_law_269 : decode cL_law 269 = .ok (.iconst 5, 1) := by decide +kernel
theorem dL_law_270 : decode cL_law 270 = .ok (.iadd, 1) := by decide +kernel
theorem dL_law_271 : decode cL_law 271 = .ok (.iaload, 1) := by decide +kernel
theorem dL_law_272 : decode cL_law 272 = .ok (.invokevirtual 22, 3) := by decide +kernel
theorem dL_law_275 : decode cL_law 275 = .ok (.aload_n 2, 1) := by decide +kernel
theorem dL_law_276 : decode cL_law 276 = .ok (.aload_n 0, 1) := by decide +kernel
theorem dL_law_277 : decode cL_law 277 = .ok (.iload_n 3, 1) := by decide +kernel
theorem dL_law_278 : decode cL_law 278 = .ok (.iconst 1, 1) := by decide +kernel
theorem dL_law_279 : decode cL_law 279 = .ok (.iadd, 1) := by decide +kernel
theorem dL_law_280 : decode cL_law 280 = .ok (.iaload, 1) := by decide +kernel
theorem dL_law_281 : decode cL_law 281 = .ok (.aload_n 0, 1) := by decide +kernel
theorem dL_law_282 : decode cL_law 282 = .ok (.iload_n 3, 1) := by decide +kernel
theorem dL_law_283 : decode cL_law 283 = .ok (.iconst 2, 1) := by decide +kernel
theorem dL_law_284 : decode cL_law 284 = .ok (.iadd, 1) := by decide +kernel
theorem dL_law_285 : decode cL_law 285 = .ok (.iaload, 1) := by decide +kernel
theorem dL_law_286 : decode cL_law 286 = .ok (.aload_n 0, 1) := by decide +kernel
theorem dL_law_287 : decode cL_law 287 = .ok (.iload_n 3, 1) := by decide +kernel
theorem dL_law_288 : decode cL_law 288 = .ok (.iconst 3, 1) := by decide +kernel
theorem dL_law_289 : decode cL_law 289 = .ok (.iadd, 1) := by decide +kernel
theorem dL_law_290 : decode cL_law 290 = .ok (.iaload, 1) := by decide +kernel
theorem dL_law_291 : decode cL_law 291 = .ok (.aload_n 0, 1) := by decide +kernel
theorem dL_law_292 : decode cL_law 292 = .ok (.iload_n 3, 1) := by decide +kernel
theorem dL_law_293 : decode cL_law 293 = .ok (.iconst 4, 1) := by decide +kernel
theorem dL_law_294 : decode cL_law 294 = .ok (.iadd, 1) := by decide +kernel
theorem dL_law_295 : decode cL_law 295 = .ok (.iaload, 1) := by decide +kernel
theorem dL_law_296 : decode cL_law 296 = .ok (.aload_n 0, 1) := by decide +kernel
theorem dL_law_297 : decode cL_law 297 = .ok (.iload_n 3, 1) := by decide +kernel
theorem dL_law_298 : decode cL_law 298 = .ok (.iconst 5, 1) := by decide +kernel
theorem dL_law_299 : decode cL_law 299 = .ok (.iadd, 1) := by decide +kernel
theorem dL_law_300 : decode cL_law 300 = .ok (.iaload, 1) := by decide +kernel
theorem dL_law_301 : decode cL_law 301 = .ok (.invokevirtual 26, 3) := by decide +kernel
theorem dL_law_304 : decode cL_law 304 = .ok (.if_icmp .eq 730, 3) := by decide +kernel
theorem dL_law_309 : decode cL_law 309 = .ok (.aload_n 1, 1) := by decide +kernel
theorem dL_law_310 : decode cL_law 310 = .ok (.aload_n 0, 1) := by decide +kernel
theorem dL_law_311 : decode cL_law 311 = .ok (.iload_n 3, 1) := by decide +kernel
theorem dL_law_312 : decode cL_law 312 = .ok (.iconst 1, 1) := by decide +kernel
theorem dL_law_313 : decode cL_law 313 = .ok (.iadd, 1) := by decide +kernel
theorem dL_law_314 : decode cL_law 314 = .ok (.iaload, 1) := by decide +kernel
theorem dL_law_315 : decode cL_law 315 = .ok (.invokevirtual 27, 3) := by decide +kernel
theorem dL_law_318 : decode cL_law 318 = .ok (.aload_n 2, 1) := by decide +kernel
theorem dL_law_319 : decode cL_law 319 = .ok (.aload_n 0, 1) := by decide +kernel
theorem dL_law_320 : decode cL_law 320 = .ok (.iload_n 3, 1) := by decide +kernel
theorem dL_law_321 : decode cL_law 321 = .ok (.iconst 1, 1) := by decide +kernel
theorem dL_law_322 : decode cL_law 322 = .ok (.iadd, 1) := by decide +kernel
theorem dL_law_323 : decode cL_law 323 = .ok (.iaload, 1) := by decide +kernel
theorem dL_law_324 : decode cL_law 324 = .ok (.invokevirtual 31, 3) := by decide +kernel
theorem dL_law_327 : decode cL_law 327 = .ok (.if_icmp .eq 707, 3) := by decide +kernel
theorem dL_law_332 : decode cL_law 332 = .ok (.aload_n 1, 1) := by decide +kernel
theorem dL_law_333 : decode cL_law 333 = .ok (.aload_n 0, 1) := by decide +kernel
theorem dL_law_334 : decode cL_law 334 = .ok (.iload_n 3, 1) := by decide +kernel
theorem dL_law_335 : decode cL_law 335 = .ok (.iconst 1, 1) := by decide +kernel
theorem dL_law_336 : decode cL_law 336 = .ok (.iadd, 1) := by decide +kernel
theorem dL_law_337 : decode cL_law 337 = .ok (.iaload, 1) := by decide +kernel
theorem dL_law_338 : decode cL_law 338 = .ok (.i2l, 1) := by decide +kernel
theorem dL_law_339 : decode cL_law 339 = .ok (.bipush 32, 2) := by decide +kernel
theorem dL_law_341 : decode cL_law 341 = .ok (.lshl, 1) := by decide +kernel
theorem dL_law_342 : decode cL_law 342 = .ok (.aload_n 0, 1) := by decide +kernel
theorem dL_law_343 : decode cL_law 343 = .ok (.iload_n 3, 1) := by decide +kernel
theorem dL_law_344 : decode cL_law 344 = .ok (.iconst 2, 1) := by decide +kernel
theorem dL_law_345 : decode cL_law 345 = .ok (.iadd, 1) := by decide +kernel
theorem dL_law_346 : decode cL_law 346 = .ok (.iaload, 1) := by decide +kernel
theorem dL_law_347 : decode cL_law 347 = .ok (.i2l, 1) := by decide +kernel
theorem dL_law_348 : decode cL_law 348 = .ok (.ldc2_w 32, 3) := by decide +kernel
theorem dL_law_351 : decode cL_law 351 = .ok (.land, 1) := by decide +kernel
theorem dL_law_352 : decode cL_law 352 = .ok (.lor, 1) := by decide +kernel
theorem dL_law_353 : decode cL_law 353 = .ok (.aload_n 0, 1) := by decide +kernel
theorem dL_law_354 : decode cL_law 354 = .ok (.iload_n 3, 1) := by decide +kernel
theorem dL_law_355 : decode cL_law 355 = .ok (.iconst 3, 1) := by decide +kernel
theorem dL_law_356 : decode cL_law 356 = .ok (.iadd, 1) := by decide +kernel
theorem dL_law_357 : decode cL_law 357 = .ok (.iaload, 1) := by decide +kernel
theorem dL_law_358 : decode cL_law 358 = .ok (.invokevirtual 34, 3) := by decide +kernel
theorem dL_law_361 : decode cL_law 361 = .ok (.aload_n 2, 1) := by decide +kernel
theorem dL_law_362 : decode cL_law 362 = .ok (.aload_n 0, 1) := by decide +kernel
theorem dL_law_363 : decode cL_law 363 = .ok (.iload_n 3, 1) := by decide +kernel
theorem dL_law_364 : decode cL_law 364 = .ok (.iconst 1, 1) := by decide +kernel
theorem dL_law_365 : decode cL_law 365 = .ok (.iadd, 1) := by decide +kernel
theorem dL_law_366 : decode cL_law 366 = .ok (.iaload, 1) := by decide +kernel
theorem dL_law_367 : decode cL_law 367 = .ok (.i2l, 1) := by decide +kernel
theorem dL_law_368 : decode cL_law 368 = .ok (.bipush 32, 2) := by decide +kernel
theorem dL_law_370 : decode cL_law 370 = .ok (.lshl, 1) := by decide +kernel
theorem dL_law_371 : decode cL_law 371 = .ok (.aload_n 0, 1) := by decide +kernel
theorem dL_law_372 : decode cL_law 372 = .ok (.iload_n 3, 1) := by decide +kernel
theorem dL_law_373 : decode cL_law 373 = .ok (.iconst 2, 1) := by decide +kernel
theorem dL_law_374 : decode cL_law 374 = .ok (.iadd, 1) := by decide +kernel
theorem dL_law_375 : decode cL_law 375 = .ok (.iaload, 1) := by decide +kernel
theorem dL_law_376 : decode cL_law 376 = .ok (.i2l, 1) := by decide +kernel
theorem dL_law_377 : decode cL_law 377 = .ok (.ldc2_w 32, 3) := by decide +kernel
theorem dL_law_380 : decode cL_law 380 = .ok (.land, 1) := by decide +kernel
theorem dL_law_381 : decode cL_law 381 = .ok (.lor, 1) := by decide +kernel
theorem dL_law_382 : decode cL_law 382 = .ok (.aload_n 0, 1) := by decide +kernel
theorem dL_law_383 : decode cL_law 383 = .ok (.iload_n 3, 1) := by decide +kernel
theorem dL_law_384 : decode cL_law 384 = .ok (.iconst 3, 1) := by decide +kernel
theorem dL_law_385 : decode cL_law 385 = .ok (.iadd, 1) := by decide +kernel
theorem dL_law_386 : decode cL_law 386 = .ok (.iaload, 1) := by decide +kernel
theorem dL_law_387 : decode cL_law 387 = .ok (.invokevirtual 38, 3) := by decide +kernel
theorem dL_law_390 : decode cL_law 390 = .ok (.if_icmp .eq 644, 3) := by decide +kernel
theorem dL_law_395 : decode cL_law 395 = .ok (.aload_n 1, 1) := by decide +kernel
theorem dL_law_396 : decode cL_law 396 = .ok (.invokevirtual 39, 3) := by decide +kernel
theorem dL_law_399 : decode cL_law 399 = .ok (.aload_n 2, 1) := by decide +kernel
theorem dL_law_400 : decode cL_law 400 = .ok (.invokevirtual 43, 3) := by decide +kernel
theorem dL_law_403 : decode cL_law 403 = .ok (.if_icmp .eq 631, 3) := by decide +kernel
theorem dL_law_408 : decode cL_law 408 = .ok (.aload_n 1, 1) := by decide +kernel
theorem dL_law_409 : decode cL_law 409 = .ok (.invokevirtual 44, 3) := by decide +kernel
theorem dL_law_412 : decode cL_law 412 = .ok (.aload_n 2, 1) := by decide +kernel
theorem dL_law_413 : decode cL_law 413 = .ok (.invokevirtual 47, 3) := by decide +kernel
theorem dL_law_416 : decode cL_law 416 = .ok (.if_icmp .eq 618, 3) := by decide +kernel
theorem dL_law_421 : decode cL_law 421 = .ok (.aload_n 1, 1) := by decide +kernel
theorem dL_law_422 : decode cL_law 422 = .ok (.aload_n 0, 1) := by decide +kernel
theorem dL_law_423 : decode cL_law 423 = .ok (.iload_n 3, 1) := by decide +kernel
theorem dL_law_424 : decode cL_law 424 = .ok (.iconst 1, 1) := by decide +kernel
theorem dL_law_425 : decode cL_law 425 = .ok (.iadd, 1) := by decide +kernel
theorem dL_law_426 : decode cL_law 426 = .ok (.iaload, 1) := by decide +kernel
theorem dL_law_427 : decode cL_law 427 = .ok (.aload_n 0, 1) := by decide +kernel
theorem dL_law_428 : decode cL_law 428 = .ok (.iload_n 3, 1) := by decide +kernel
theorem dL_law_429 : decode cL_law 429 = .ok (.iconst 2, 1) := by decide +kernel
theorem dL_law_430 : decode cL_law 430 = .ok (.iadd, 1) := by decide +kernel
theorem dL_law_431 : decode cL_law 431 = .ok (.iaload, 1) := by decide +kernel
theorem dL_law_432 : decode cL_law 432 = .ok (.aload_n 0, 1) := by decide +kernel
theorem dL_law_433 : decode cL_law 433 = .ok (.iload_n 3, 1) := by decide +kernel
theorem dL_law_434 : decode cL_law 434 = .ok (.iconst 3, 1) := by decide +kernel
theorem dL_law_435 : decode cL_law 435 = .ok (.iadd, 1) := by decide +kernel
theorem dL_law_436 : decode cL_law 436 = .ok (.iaload, 1) := by decide +kernel
theorem dL_law_437 : decode cL_law 437 = .ok (.invokevirtual 48, 3) := by decide +kernel
theorem dL_law_440 : decode cL_law 440 = .ok (.aload_n 2, 1) := by decide +kernel
theorem dL_law_441 : decode cL_law 441 = .ok (.aload_n 0, 1) := by decide +kernel
theorem dL_law_442 : decode cL_law 442 = .ok (.iload_n 3, 1) := by decide +kernel
theorem dL_law_443 : decode cL_law 443 = .ok (.iconst 1, 1) := by decide +kernel
theorem dL_law_444 : decode cL_law 444 = .ok (.iadd, 1) := by decide +kernel
theorem dL_law_445 : decode cL_law 445 = .ok (.iaload, 1) := by decide +kernel
theorem dL_law_446 : decode cL_law 446 = .ok (.aload_n 0, 1) := by decide +kernel
theorem dL_law_447 : decode cL_law 447 = .ok (.iload_n 3, 1) := by decide +kernel
theorem dL_law_448 : decode cL_law 448 = .ok (.iconst 2, 1) := by decide +kernel
theorem dL_law_449 : decode cL_law 449 = .ok (.iadd, 1) := by decide +kernel
theorem dL_law_450 : decode cL_law 450 = .ok (.iaload, 1) := by decide +kernel
theorem dL_law_451 : decode cL_law 451 = .ok (.aload_n 0, 1) := by decide +kernel
theorem dL_law_452 : decode cL_law 452 = .ok (.iload_n 3, 1) := by decide +kernel
theorem dL_law_453 : decode cL_law 453 = .ok (.iconst 3, 1) := by decide +kernel
theorem dL_law_454 : decode cL_law 454 = .ok (.iadd, 1) := by decide +kernel
theorem dL_law_455 : decode cL_law 455 = .ok (.iaload, 1) := by decide +kernel
theorem dL_law_456 : decode cL_law 456 = .ok (.invokevirtual 51, 3) := by decide +kernel
theorem dL_law_459 : decode cL_law 459 = .ok (.if_icmp .eq 575, 3) := by decide +kernel
theorem dL_law_464 : decode cL_law 464 = .ok (.aload_n 1, 1) := by decide +kernel
theorem dL_law_465 : decode cL_law 465 = .ok (.aload_n 0, 1) := by decide +kernel
theorem dL_law_466 : decode cL_law 466 = .ok (.iload_n 3, 1) := by decide +kernel
theorem dL_law_467 : decode cL_law 467 = .ok (.iconst 1, 1) := by decide +kernel
theorem dL_law_468 : decode cL_law 468 = .ok (.iadd, 1) := by decide +kernel
theorem dL_law_469 : decode cL_law 469 = .ok (.iaload, 1) := by decide +kernel
theorem dL_law_470 : decode cL_law 470 = .ok (.aload_n 0, 1) := by decide +kernel
theorem dL_law_471 : decode cL_law 471 = .ok (.iload_n 3, 1) := by decide +kernel
theorem dL_law_472 : decode cL_law 472 = .ok (.iconst 2, 1) := by decide +kernel
theorem dL_law_473 : decode cL_law 473 = .ok (.iadd, 1) := by decide +kernel
theorem dL_law_474 : decode cL_law 474 = .ok (.iaload, 1) := by decide +kernel
theorem dL_law_475 : decode cL_law 475 = .ok (.invokevirtual 52, 3) := by decide +kernel
theorem dL_law_478 : decode cL_law 478 = .ok (.aload_n 2, 1) := by decide +kernel
theorem dL_law_479 : decode cL_law 479 = .ok (.aload_n 0, 1) := by decide +kernel
theorem dL_law_480 : decode cL_law 480 = .ok (.iload_n 3, 1) := by decide +kernel
theorem dL_law_481 : decode cL_law 481 = .ok (.iconst 1, 1) := by decide +kernel
theorem dL_law_482 : decode cL_law 482 = .ok (.iadd, 1) := by decide +kernel
theorem dL_law_483 : decode cL_law 483 = .ok (.iaload, 1) := by decide +kernel
theorem dL_law_484 : decode cL_law 484 = .ok (.aload_n 0, 1) := by decide +kernel
theorem dL_law_485 : decode cL_law 485 = .ok (.iload_n 3, 1) := by decide +kernel
theorem dL_law_486 : decode cL_law 486 = .ok (.iconst 2, 1) := by decide +kernel
theorem dL_law_487 : decode cL_law 487 = .ok (.iadd, 1) := by decide +kernel
theorem dL_law_488 : decode cL_law 488 = .ok (.iaload, 1) := by decide +kernel
theorem dL_law_489 : decode cL_law 489 = .ok (.invokevirtual 56, 3) := by decide +kernel
theorem dL_law_492 : decode cL_law 492 = .ok (.if_icmp .eq 542, 3) := by decide +kernel
theorem dL_law_497 : decode cL_law 497 = .ok (.aload_n 1, 1) := by decide +kernel
theorem dL_law_498 : decode cL_law 498 = .ok (.aload_n 0, 1) := by decide +kernel
theorem dL_law_499 : decode cL_law 499 = .ok (.iload_n 3, 1) := by decide +kernel
theorem dL_law_500 : decode cL_law 500 = .ok (.iconst 1, 1) := by decide +kernel
theorem dL_law_501 : decode cL_law 501 = .ok (.iadd, 1) := by decide +kernel
theorem dL_law_502 : decode cL_law 502 = .ok (.iaload, 1) := by decide +kernel
theorem dL_law_503 : decode cL_law 503 = .ok (.aload_n 0, 1) := by decide +kernel
theorem dL_law_504 : decode cL_law 504 = .ok (.iload_n 3, 1) := by decide +kernel
theorem dL_law_505 : decode cL_law 505 = .ok (.iconst 2, 1) := by decide +kernel
theorem dL_law_506 : decode cL_law 506 = .ok (.iadd, 1) := by decide +kernel
theorem dL_law_507 : decode cL_law 507 = .ok (.iaload, 1) := by decide +kernel
theorem dL_law_508 : decode cL_law 508 = .ok (.invokevirtual 57, 3) := by decide +kernel
theorem dL_law_511 : decode cL_law 511 = .ok (.aload_n 2, 1) := by decide +kernel
theorem dL_law_512 : decode cL_law 512 = .ok (.aload_n 0, 1) := by decide +kernel
theorem dL_law_513 : decode cL_law 513 = .ok (.iload_n 3, 1) := by decide +kernel
theorem dL_law_514 : decode cL_law 514 = .ok (.iconst 1, 1) := by decide +kernel
theorem dL_law_515 : decode cL_law 515 = .ok (.iadd, 1) := by decide +kernel
theorem dL_law_516 : decode cL_law 516 = .ok (.iaload, 1) := by decide +kernel
theorem dL_law_517 : decode cL_law 517 = .ok (.aload_n 0, 1) := by decide +kernel
theorem dL_law_518 : decode cL_law 518 = .ok (.iload_n 3, 1) := by decide +kernel
theorem dL_law_519 : decode cL_law 519 = .ok (.iconst 2, 1) := by decide +kernel
theorem dL_law_520 : decode cL_law 520 = .ok (.iadd, 1) := by decide +kernel
theorem dL_law_521 : decode cL_law 521 = .ok (.iaload, 1) := by decide +kernel
theorem dL_law_522 : decode cL_law 522 = .ok (.invokevirtual 60, 3) := by decide +kernel
theorem dL_law_525 : decode cL_law 525 = .ok (.if_icmp .eq 509, 3) := by decide +kernel
theorem dL_law_530 : decode cL_law 530 = .ok (.aload_n 1, 1) := by decide +kernel
theorem dL_law_531 : decode cL_law 531 = .ok (.aload_n 0, 1) := by decide +kernel
theorem dL_law_532 : decode cL_law 532 = .ok (.iload_n 3, 1) := by decide +kernel
theorem dL_law_533 : decode cL_law 533 = .ok (.iconst 1, 1) := by decide +kernel
theorem dL_law_534 : decode cL_law 534 = .ok (.iadd, 1) := by decide +kernel
theorem dL_law_535 : decode cL_law 535 = .ok (.iaload, 1) := by decide +kernel
theorem dL_law_536 : decode cL_law 536 = .ok (.aload_n 0, 1) := by decide +kernel
theorem dL_law_537 : decode cL_law 537 = .ok (.iload_n 3, 1) := by decide +kernel
theorem dL_law_538 : decode cL_law 538 = .ok (.iconst 2, 1) := by decide +kernel
theorem dL_law_539 : decode cL_law 539 = .ok (.iadd, 1) := by decide +kernel
theorem dL_law_540 : decode cL_law 540 = .ok (.iaload, 1) := by decide +kernel
theorem dL_law_541 : decode cL_law 541 = .ok (.aload_n 0, 1) := by decide +kernel
theorem dL_law_542 : decode cL_law 542 = .ok (.iload_n 3, 1) := by decide +kernel
theorem dL_law_543 : decode cL_law 543 = .ok (.iconst 3, 1) := by decide +kernel
theorem dL_law_544 : decode cL_law 544 = .ok (.iadd, 1) := by decide +kernel
theorem dL_law_545 : decode cL_law 545 = .ok (.iaload, 1) := by decide +kernel
theorem dL_law_546 : decode cL_law 546 = .ok (.aload_n 0, 1) := by decide +kernel
theorem dL_law_547 : decode cL_law 547 = .ok (.iload_n 3, 1) := by decide +kernel
theorem dL_law_548 : decode cL_law 548 = .ok (.iconst 4, 1) := by decide +kernel
theorem dL_law_549 : decode cL_law 549 = .ok (.iadd, 1) := by decide +kernel
theorem dL_law_550 : decode cL_law 550 = .ok (.iaload, 1) := by decide +kernel
theorem dL_law_551 : decode cL_law 551 = .ok (.invokevirtual 61, 3) := by decide +kernel
theorem dL_law_554 : decode cL_law 554 = .ok (.aload_n 2, 1) := by decide +kernel
theorem dL_law_555 : decode cL_law 555 = .ok (.aload_n 0, 1) := by decide +kernel
theorem dL_law_556 : decode cL_law 556 = .ok (.iload_n 3, 1) := by decide +kernel
theorem dL_law_557 : decode cL_law 557 = .ok (.iconst 1, 1) := by decide +kernel
theorem dL_law_558 : decode cL_law 558 = .ok (.iadd, 1) := by decide +kernel
theorem dL_law_559 : decode cL_law 559 = .ok (.iaload, 1) := by decide +kernel
theorem dL_law_560 : decode cL_law 560 = .ok (.aload_n 0, 1) := by decide +kernel
theorem dL_law_561 : decode cL_law 561 = .ok (.iload_n 3, 1) := by decide +kernel
theorem dL_law_562 : decode cL_law 562 = .ok (.iconst 2, 1) := by decide +kernel
theorem dL_law_563 : decode cL_law 563 = .ok (.iadd, 1) := by decide +kernel
theorem dL_law_564 : decode cL_law 564 = .ok (.iaload, 1) := by decide +kernel
theorem dL_law_565 : decode cL_law 565 = .ok (.aload_n 0, 1) := by decide +kernel
theorem dL_law_566 : decode cL_law 566 = .ok (.iload_n 3, 1) := by decide +kernel
theorem dL_law_567 : decode cL_law 567 = .ok (.iconst 3, 1) := by decide +kernel
theorem dL_law_568 : decode cL_law 568 = .ok (.iadd, 1) := by decide +kernel
theorem dL_law_569 : decode cL_law 569 = .ok (.iaload, 1) := by decide +kernel
theorem dL_law_570 : decode cL_law 570 = .ok (.aload_n 0, 1) := by decide +kernel
theorem dL_law_571 : decode cL_law 571 = .ok (.iload_n 3, 1) := by decide +kernel
theorem dL_law_572 : decode cL_law 572 = .ok (.iconst 4, 1) := by decide +kernel
theorem dL_law_573 : decode cL_law 573 = .ok (.iadd, 1) := by decide +kernel
theorem dL_law_574 : decode cL_law 574 = .ok (.iaload, 1) := by decide +kernel
theorem dL_law_575 : decode cL_law 575 = .ok (.invokevirtual 65, 3) := by decide +kernel
theorem dL_law_578 : decode cL_law 578 = .ok (.if_icmp .eq 456, 3) := by decide +kernel
theorem dL_law_583 : decode cL_law 583 = .ok (.aload_n 1, 1) := by decide +kernel
theorem dL_law_584 : decode cL_law 584 = .ok (.aload_n 0, 1) := by decide +kernel
theorem dL_law_585 : decode cL_law 585 = .ok (.iload_n 3, 1) := by decide +kernel
theorem dL_law_586 : decode cL_law 586 = .ok (.iconst 1, 1) := by decide +kernel
theorem dL_law_587 : decode cL_law 587 = .ok (.iadd, 1) := by decide +kernel
theorem dL_law_588 : decode cL_law 588 = .ok (.iaload, 1) := by decide +kernel
theorem dL_law_589 : decode cL_law 589 = .ok (.aload_n 0, 1) := by decide +kernel
theorem dL_law_590 : decode cL_law 590 = .ok (.iload_n 3, 1) := by decide +kernel
theorem dL_law_591 : decode cL_law 591 = .ok (.iconst 2, 1) := by decide +kernel
theorem dL_law_592 : decode cL_law 592 = .ok (.iadd, 1) := by decide +kernel
theorem dL_law_593 : decode cL_law 593 = .ok (.iaload, 1) := by decide +kernel
theorem dL_law_594 : decode cL_law 594 = .ok (.invokevirtual 66, 3) := by decide +kernel
theorem dL_law_597 : decode cL_law 597 = .ok (.aload_n 2, 1) := by decide +kernel
theorem dL_law_598 : decode cL_law 598 = .ok (.aload_n 0, 1) := by decide +kernel
theorem dL_law_599 : decode cL_law 599 = .ok (.iload_n 3, 1) := by decide +kernel
theorem dL_law_600 : decode cL_law 600 = .ok (.iconst 1, 1) := by decide +kernel
theorem dL_law_601 : decode cL_law 601 = .ok (.iadd, 1) := by decide +kernel
theorem dL_law_602 : decode cL_law 602 = .ok (.iaload, 1) := by decide +kernel
theorem dL_law_603 : decode cL_law 603 = .ok (.aload_n 0, 1) := by decide +kernel
theorem dL_law_604 : decode cL_law 604 = .ok (.iload_n 3, 1) := by decide +kernel
theorem dL_law_605 : decode cL_law 605 = .ok (.iconst 2, 1) := by decide +kernel
theorem dL_law_606 : decode cL_law 606 = .ok (.iadd, 1) := by decide +kernel
theorem dL_law_607 : decode cL_law 607 = .ok (.iaload, 1) := by decide +kernel
theorem dL_law_608 : decode cL_law 608 = .ok (.invokevirtual 69, 3) := by decide +kernel
theorem dL_law_611 : decode cL_law 611 = .ok (.if_icmp .eq 423, 3) := by decide +kernel
theorem dL_law_616 : decode cL_law 616 = .ok (.aload_n 1, 1) := by decide +kernel
theorem dL_law_617 : decode cL_law 617 = .ok (.aload_n 0, 1) := by decide +kernel
theorem dL_law_618 : decode cL_law 618 = .ok (.iload_n 3, 1) := by decide +kernel
theorem dL_law_619 : decode cL_law 619 = .ok (.iconst 1, 1) := by decide +kernel
theorem dL_law_620 : decode cL_law 620 = .ok (.iadd, 1) := by decide +kernel
theorem dL_law_621 : decode cL_law 621 = .ok (.iaload, 1) := by decide +kernel
theorem dL_law_622 : decode cL_law 622 = .ok (.invokevirtual 70, 3) := by decide +kernel
theorem dL_law_625 : decode cL_law 625 = .ok (.aload_n 2, 1) := by decide +kernel
theorem dL_law_626 : decode cL_law 626 = .ok (.aload_n 0, 1) := by decide +kernel
theorem dL_law_627 : decode cL_law 627 = .ok (.iload_n 3, 1) := by decide +kernel
theorem dL_law_628 : decode cL_law 628 = .ok (.iconst 1, 1) := by decide +kernel
theorem dL_law_629 : decode cL_law 629 = .ok (.iadd, 1) := by decide +kernel
theorem dL_law_630 : decode cL_law 630 = .ok (.iaload, 1) := by decide +kernel
theorem dL_law_631 : decode cL_law 631 = .ok (.invokevirtual 73, 3) := by decide +kernel
theorem dL_law_634 : decode cL_law 634 = .ok (.if_icmp .eq 400, 3) := by decide +kernel
theorem dL_law_639 : decode cL_law 639 = .ok (.aload_n 1, 1) := by decide +kernel
theorem dL_law_640 : decode cL_law 640 = .ok (.aload_n 0, 1) := by decide +kernel
theorem dL_law_641 : decode cL_law 641 = .ok (.iload_n 3, 1) := by decide +kernel
theorem dL_law_642 : decode cL_law 642 = .ok (.iconst 1, 1) := by decide +kernel
theorem dL_law_643 : decode cL_law 643 = .ok (.iadd, 1) := by decide +kernel
theorem dL_law_644 : decode cL_law 644 = .ok (.iaload, 1) := by decide +kernel
theorem dL_law_645 : decode cL_law 645 = .ok (.invokevirtual 74, 3) := by decide +kernel
theorem dL_law_648 : decode cL_law 648 = .ok (.aload_n 2, 1) := by decide +kernel
theorem dL_law_649 : decode cL_law 649 = .ok (.aload_n 0, 1) := by decide +kernel
theorem dL_law_650 : decode cL_law 650 = .ok (.iload_n 3, 1) := by decide +kernel
theorem dL_law_651 : decode cL_law 651 = .ok (.iconst 1, 1) := by decide +kernel
theorem dL_law_652 : decode cL_law 652 = .ok (.iadd, 1) := by decide +kernel
theorem dL_law_653 : decode cL_law 653 = .ok (.iaload, 1) := by decide +kernel
theorem dL_law_654 : decode cL_law 654 = .ok (.invokevirtual 77, 3) := by decide +kernel
theorem dL_law_657 : decode cL_law 657 = .ok (.if_icmp .eq 377, 3) := by decide +kernel
theorem dL_law_662 : decode cL_law 662 = .ok (.aload_n 1, 1) := by decide +kernel
theorem dL_law_663 : decode cL_law 663 = .ok (.aload_n 0, 1) := by decide +kernel
theorem dL_law_664 : decode cL_law 664 = .ok (.iload_n 3, 1) := by decide +kernel
theorem dL_law_665 : decode cL_law 665 = .ok (.iconst 1, 1) := by decide +kernel
theorem dL_law_666 : decode cL_law 666 = .ok (.iadd, 1) := by decide +kernel
theorem dL_law_667 : decode cL_law 667 = .ok (.iaload, 1) := by decide +kernel
theorem dL_law_668 : decode cL_law 668 = .ok (.aload_n 0, 1) := by decide +kernel
theorem dL_law_669 : decode cL_law 669 = .ok (.iload_n 3, 1) := by decide +kernel
theorem dL_law_670 : decode cL_law 670 = .ok (.iconst 2, 1) := by decide +kernel
theorem dL_law_671 : decode cL_law 671 = .ok (.iadd, 1) := by decide +kernel
theorem dL_law_672 : decode cL_law 672 = .ok (.iaload, 1) := by decide +kernel
theorem dL_law_673 : decode cL_law 673 = .ok (.aload_n 0, 1) := by decide +kernel
theorem dL_law_674 : decode cL_law 674 = .ok (.iload_n 3, 1) := by decide +kernel
theorem dL_law_675 : decode cL_law 675 = .ok (.iconst 3, 1) := by decide +kernel
theorem dL_law_676 : decode cL_law 676 = .ok (.iadd, 1) := by decide +kernel
theorem dL_law_677 : decode cL_law 677 = .ok (.iaload, 1) := by decide +kernel
theorem dL_law_678 : decode cL_law 678 = .ok (.invokevirtual 78, 3) := by decide +kernel
theorem dL_law_681 : decode cL_law 681 = .ok (.aload_n 2, 1) := by decide +kernel
theorem dL_law_682 : decode cL_law 682 = .ok (.aload_n 0, 1) := by decide +kernel
theorem dL_law_683 : decode cL_law 683 = .ok (.iload_n 3, 1) := by decide +kernel
theorem dL_law_684 : decode cL_law 684 = .ok (.iconst 1, 1) := by decide +kernel
theorem dL_law_685 : decode cL_law 685 = .ok (.iadd, 1) := by decide +kernel
theorem dL_law_686 : decode cL_law 686 = .ok (.iaload, 1) := by decide +kernel
theorem dL_law_687 : decode cL_law 687 = .ok (.aload_n 0, 1) := by decide +kernel
theorem dL_law_688 : decode cL_law 688 = .ok (.iload_n 3, 1) := by decide +kernel
theorem dL_law_689 : decode cL_law 689 = .ok (.iconst 2, 1) := by decide +kernel
theorem dL_law_690 : decode cL_law 690 = .ok (.iadd, 1) := by decide +kernel
theorem dL_law_691 : decode cL_law 691 = .ok (.iaload, 1) := by decide +kernel
theorem dL_law_692 : decode cL_law 692 = .ok (.aload_n 0, 1) := by decide +kernel
theorem dL_law_693 : decode cL_law 693 = .ok (.iload_n 3, 1) := by decide +kernel
theorem dL_law_694 : decode cL_law 694 = .ok (.iconst 3, 1) := by decide +kernel
theorem dL_law_695 : decode cL_law 695 = .ok (.iadd, 1) := by decide +kernel
theorem dL_law_696 : decode cL_law 696 = .ok (.iaload, 1) := by decide +kernel
theorem dL_law_697 : decode cL_law 697 = .ok (.invokevirtual 81, 3) := by decide +kernel
theorem dL_law_700 : decode cL_law 700 = .ok (.if_icmp .eq 334, 3) := by decide +kernel
theorem dL_law_705 : decode cL_law 705 = .ok (.aload_n 1, 1) := by decide +kernel
theorem dL_law_706 : decode cL_law 706 = .ok (.aload_n 0, 1) := by decide +kernel
theorem dL_law_707 : decode cL_law 707 = .ok (.iload_n 3, 1) := by decide +kernel
theorem dL_law_708 : decode cL_law 708 = .ok (.iconst 1, 1) := by decide +kernel
theorem dL_law_709 : decode cL_law 709 = .ok (.iadd, 1) := by decide +kernel
theorem dL_law_710 : decode cL_law 710 = .ok (.iaload, 1) := by decide +kernel
theorem dL_law_711 : decode cL_law 711 = .ok (.invokevirtual 82, 3) := by decide +kernel
theorem dL_law_714 : decode cL_law 714 = .ok (.aload_n 2, 1) := by decide +kernel
theorem dL_law_715 : decode cL_law 715 = .ok (.aload_n 0, 1) := by decide +kernel
theorem dL_law_716 : decode cL_law 716 = .ok (.iload_n 3, 1) := by decide +kernel
theorem dL_law_717 : decode cL_law 717 = .ok (.iconst 1, 1) := by decide +kernel
theorem dL_law_718 : decode cL_law 718 = .ok (.iadd, 1) := by decide +kernel
theorem dL_law_719 : decode cL_law 719 = .ok (.iaload, 1) := by decide +kernel
theorem dL_law_720 : decode cL_law 720 = .ok (.invokevirtual 85, 3) := by decide +kernel
theorem dL_law_723 : decode cL_law 723 = .ok (.if_icmp .eq 311, 3) := by decide +kernel
theorem dL_law_728 : decode cL_law 728 = .ok (.aload_n 1, 1) := by decide +kernel
theorem dL_law_729 : decode cL_law 729 = .ok (.aload_n 0, 1) := by decide +kernel
theorem dL_law_730 : decode cL_law 730 = .ok (.iload_n 3, 1) := by decide +kernel
theorem dL_law_731 : decode cL_law 731 = .ok (.iconst 1, 1) := by decide +kernel
theorem dL_law_732 : decode cL_law 732 = .ok (.iadd, 1) := by decide +kernel
theorem dL_law_733 : decode cL_law 733 = .ok (.iaload, 1) := by decide +kernel
theorem dL_law_734 : decode cL_law 734 = .ok (.invokevirtual 86, 3) := by decide +kernel
theorem dL_law_737 : decode cL_law 737 = .ok (.aload_n 2, 1) := by decide +kernel
theorem dL_law_738 : decode cL_law 738 = .ok (.aload_n 0, 1) := by decide +kernel
theorem dL_law_739 : decode cL_law 739 = .ok (.iload_n 3, 1) := by decide +kernel
theorem dL_law_740 : decode cL_law 740 = .ok (.iconst 1, 1) := by decide +kernel
theorem dL_law_741 : decode cL_law 741 = .ok (.iadd, 1) := by decide +kernel
theorem dL_law_742 : decode cL_law 742 = .ok (.iaload, 1) := by decide +kernel
theorem dL_law_743 : decode cL_law 743 = .ok (.invokevirtual 89, 3) := by decide +kernel
theorem dL_law_746 : decode cL_law 746 = .ok (.if_icmp .eq 288, 3) := by decide +kernel
theorem dL_law_751 : decode cL_law 751 = .ok (.aload_n 1, 1) := by decide +kernel
theorem dL_law_752 : decode cL_law 752 = .ok (.aload_n 0, 1) := by decide +kernel
theorem dL_law_753 : decode cL_law 753 = .ok (.iload_n 3, 1) := by decide +kernel
theorem dL_law_754 : decode cL_law 754 = .ok (.iconst 1, 1) := by decide +kernel
theorem dL_law_755 : decode cL_law 755 = .ok (.iadd, 1) := by decide +kernel
theorem dL_law_756 : decode cL_law 756 = .ok (.iaload, 1) := by decide +kernel
theorem dL_law_757 : decode cL_law 757 = .ok (.aload_n 0, 1) := by decide +kernel
theorem dL_law_758 : decode cL_law 758 = .ok (.iload_n 3, 1) := by decide +kernel
theorem dL_law_759 : decode cL_law 759 = .ok (.iconst 2, 1) := by decide +kernel
theorem dL_law_760 : decode cL_law 760 = .ok (.iadd, 1) := by decide +kernel
theorem dL_law_761 : decode cL_law 761 = .ok (.iaload, 1) := by decide +kernel
theorem dL_law_762 : decode cL_law 762 = .ok (.invokevirtual 90, 3) := by decide +kernel
theorem dL_law_765 : decode cL_law 765 = .ok (.aload_n 2, 1) := by decide +kernel
theorem dL_law_766 : decode cL_law 766 = .ok (.aload_n 0, 1) := by decide +kernel
theorem dL_law_767 : decode cL_law 767 = .ok (.iload_n 3, 1) := by decide +kernel
theorem dL_law_768 : decode cL_law 768 = .ok (.iconst 1, 1) := by decide +kernel
theorem dL_law_769 : decode cL_law 769 = .ok (.iadd, 1) := by decide +kernel
theorem dL_law_770 : decode cL_law 770 = .ok (.iaload, 1) := by decide +kernel
theorem dL_law_771 : decode cL_law 771 = .ok (.aload_n 0, 1) := by decide +kernel
theorem dL_law_772 : decode cL_law 772 = .ok (.iload_n 3, 1) := by decide +kernel
theorem dL_law_773 : decode cL_law 773 = .ok (.iconst 2, 1) := by decide +kernel
theorem dL_law_774 : decode cL_law 774 = .ok (.iadd, 1) := by decide +kernel
theorem dL_law_775 : decode cL_law 775 = .ok (.iaload, 1) := by decide +kernel
theorem dL_law_776 : decode cL_law 776 = .ok (.invokevirtual 93, 3) := by decide +kernel
theorem dL_law_779 : decode cL_law 779 = .ok (.if_icmp .eq 255, 3) := by decide +kernel
theorem dL_law_784 : decode cL_law 784 = .ok (.aload_n 1, 1) := by decide +kernel
theorem dL_law_785 : decode cL_law 785 = .ok (.aload_n 0, 1) := by decide +kernel
theorem dL_law_786 : decode cL_law 786 = .ok (.iload_n 3, 1) := by decide +kernel
theorem dL_law_787 : decode cL_law 787 = .ok (.iconst 1, 1) := by decide +kernel
theorem dL_law_788 : decode cL_law 788 = .ok (.iadd, 1) := by decide +kernel
theorem dL_law_789 : decode cL_law 789 = .ok (.iaload, 1) := by decide +kernel
theorem dL_law_790 : decode cL_law 790 = .ok (.invokevirtual 94, 3) := by decide +kernel
theorem dL_law_793 : decode cL_law 793 = .ok (.aload_n 2, 1) := by decide +kernel
theorem dL_law_794 : decode cL_law 794 = .ok (.aload_n 0, 1) := by decide +kernel
theorem dL_law_795 : decode cL_law 795 = .ok (.iload_n 3, 1) := by decide +kernel
theorem dL_law_796 : decode cL_law 796 = .ok (.iconst 1, 1) := by decide +kernel
theorem dL_law_797 : decode cL_law 797 = .ok (.iadd, 1) := by decide +kernel
theorem dL_law_798 : decode cL_law 798 = .ok (.iaload, 1) := by decide +kernel
theorem dL_law_799 : decode cL_law 799 = .ok (.invokevirtual 97, 3) := by decide +kernel
theorem dL_law_802 : decode cL_law 802 = .ok (.if_icmp .eq 232, 3) := by decide +kernel
theorem dL_law_807 : decode cL_law 807 = .ok (.aload_n 1, 1) := by decide +kernel
theorem dL_law_808 : decode cL_law 808 = .ok (.aload_n 0, 1) := by decide +kernel
theorem dL_law_809 : decode cL_law 809 = .ok (.iload_n 3, 1) := by decide +kernel
theorem dL_law_810 : decode cL_law 810 = .ok (.iconst 1, 1) := by decide +kernel
theorem dL_law_811 : decode cL_law 811 = .ok (.iadd, 1) := by decide +kernel
theorem dL_law_812 : decode cL_law 812 = .ok (.iaload, 1) := by decide +kernel
theorem dL_law_813 : decode cL_law 813 = .ok (.aload_n 0, 1) := by decide +kernel
theorem dL_law_814 : decode cL_law 814 = .ok (.iload_n 3, 1) := by decide +kernel
theorem dL_law_815 : decode cL_law 815 = .ok (.iconst 2, 1) := by decide +kernel
theorem dL_law_816 : decode cL_law 816 = .ok (.iadd, 1) := by decide +kernel
theorem dL_law_817 : decode cL_law 817 = .ok (.iaload, 1) := by decide +kernel
theorem dL_law_818 : decode cL_law 818 = .ok (.invokevirtual 98, 3) := by decide +kernel
theorem dL_law_821 : decode cL_law 821 = .ok (.aload_n 2, 1) := by decide +kernel
theorem dL_law_822 : decode cL_law 822 = .ok (.aload_n 0, 1) := by decide +kernel
theorem dL_law_823 : decode cL_law 823 = .ok (.iload_n 3, 1) := by decide +kernel
theorem dL_law_824 : decode cL_law 824 = .ok (.iconst 1, 1) := by decide +kernel
theorem dL_law_825 : decode cL_law 825 = .ok (.iadd, 1) := by decide +kernel
theorem dL_law_826 : decode cL_law 826 = .ok (.iaload, 1) := by decide +kernel
theorem dL_law_827 : decode cL_law 827 = .ok (.aload_n 0, 1) := by decide +kernel
theorem dL_law_828 : decode cL_law 828 = .ok (.iload_n 3, 1) := by decide +kernel
theorem dL_law_829 : decode cL_law 829 = .ok (.iconst 2, 1) := by decide +kernel
theorem dL_law_830 : decode cL_law 830 = .ok (.iadd, 1) := by decide +kernel
theorem dL_law_831 : decode cL_law 831 = .ok (.iaload, 1) := by decide +kernel
theorem dL_law_832 : decode cL_law 832 = .ok (.invokevirtual 101, 3) := by decide +kernel
theorem dL_law_835 : decode cL_law 835 = .ok (.if_icmp .eq 199, 3) := by decide +kernel
theorem dL_law_840 : decode cL_law 840 = .ok (.aload_n 1, 1) := by decide +kernel
theorem dL_law_841 : decode cL_law 841 = .ok (.aload_n 0, 1) := by decide +kernel
theorem dL_law_842 : decode cL_law 842 = .ok (.iload_n 3, 1) := by decide +kernel
theorem dL_law_843 : decode cL_law 843 = .ok (.iconst 1, 1) := by decide +kernel
theorem dL_law_844 : decode cL_law 844 = .ok (.iadd, 1) := by decide +kernel
theorem dL_law_845 : decode cL_law 845 = .ok (.iaload, 1) := by decide +kernel
theorem dL_law_846 : decode cL_law 846 = .ok (.invokevirtual 102, 3) := by decide +kernel
theorem dL_law_849 : decode cL_law 849 = .ok (.aload_n 2, 1) := by decide +kernel
theorem dL_law_850 : decode cL_law 850 = .ok (.aload_n 0, 1) := by decide +kernel
theorem dL_law_851 : decode cL_law 851 = .ok (.iload_n 3, 1) := by decide +kernel
theorem dL_law_852 : decode cL_law 852 = .ok (.iconst 1, 1) := by decide +kernel
theorem dL_law_853 : decode cL_law 853 = .ok (.iadd, 1) := by decide +kernel
theorem dL_law_854 : decode cL_law 854 = .ok (.iaload, 1) := by decide +kernel
theorem dL_law_855 : decode cL_law 855 = .ok (.invokevirtual 105, 3) := by decide +kernel
theorem dL_law_858 : decode cL_law 858 = .ok (.if_icmp .eq 176, 3) := by decide +kernel
theorem dL_law_863 : decode cL_law 863 = .ok (.aload_n 1, 1) := by decide +kernel
theorem dL_law_864 : decode cL_law 864 = .ok (.aload_n 0, 1) := by decide +kernel
theorem dL_law_865 : decode cL_law 865 = .ok (.iload_n 3, 1) := by decide +kernel
theorem dL_law_866 : decode cL_law 866 = .ok (.iconst 1, 1) := by decide +kernel
theorem dL_law_867 : decode cL_law 867 = .ok (.iadd, 1) := by decide +kernel
theorem dL_law_868 : decode cL_law 868 = .ok (.iaload, 1) := by decide +kernel
theorem dL_law_869 : decode cL_law 869 = .ok (.invokevirtual 106, 3) := by decide +kernel
theorem dL_law_872 : decode cL_law 872 = .ok (.aload_n 2, 1) := by decide +kernel
theorem dL_law_873 : decode cL_law 873 = .ok (.aload_n 0, 1) := by decide +kernel
theorem dL_law_874 : decode cL_law 874 = .ok (.iload_n 3, 1) := by decide +kernel
theorem dL_law_875 : decode cL_law 875 = .ok (.iconst 1, 1) := by decide +kernel
theorem dL_law_876 : decode cL_law 876 = .ok (.iadd, 1) := by decide +kernel
theorem dL_law_877 : decode cL_law 877 = .ok (.iaload, 1) := by decide +kernel
theorem dL_law_878 : decode cL_law 878 = .ok (.invokevirtual 109, 3) := by decide +kernel
theorem dL_law_881 : decode cL_law 881 = .ok (.if_icmp .eq 153, 3) := by decide +kernel
theorem dL_law_886 : decode cL_law 886 = .ok (.aload_n 1, 1) := by decide +kernel
theorem dL_law_887 : decode cL_law 887 = .ok (.aload_n 0, 1) := by decide +kernel
theorem dL_law_888 : decode cL_law 888 = .ok (.iload_n 3, 1) := by decide +kernel
theorem dL_law_889 : decode cL_law 889 = .ok (.iconst 1, 1) := by decide +kernel
theorem dL_law_890 : decode cL_law 890 = .ok (.iadd, 1) := by decide +kernel
theorem dL_law_891 : decode cL_law 891 = .ok (.iaload, 1) := by decide +kernel
theorem dL_law_892 : decode cL_law 892 = .ok (.invokevirtual 110, 3) := by decide +kernel
theorem dL_law_895 : decode cL_law 895 = .ok (.aload_n 2, 1) := by decide +kernel
theorem dL_law_896 : decode cL_law 896 = .ok (.aload_n 0, 1) := by decide +kernel
theorem dL_law_897 : decode cL_law 897 = .ok (.iload_n 3, 1) := by decide +kernel
theorem dL_law_898 : decode cL_law 898 = .ok (.iconst 1, 1) := by decide +kernel
theorem dL_law_899 : decode cL_law 899 = .ok (.iadd, 1) := by decide +kernel
theorem dL_law_900 : decode cL_law 900 = .ok (.iaload, 1) := by decide +kernel
theorem dL_law_901 : decode cL_law 901 = .ok (.invokevirtual 113, 3) := by decide +kernel
theorem dL_law_904 : decode cL_law 904 = .ok (.if_icmp .eq 130, 3) := by decide +kernel
theorem dL_law_909 : decode cL_law 909 = .ok (.aload_n 1, 1) := by decide +kernel
theorem dL_law_910 : decode cL_law 910 = .ok (.aload_n 0, 1) := by decide +kernel
theorem dL_law_911 : decode cL_law 911 = .ok (.iload_n 3, 1) := by decide +kernel
theorem dL_law_912 : decode cL_law 912 = .ok (.iconst 1, 1) := by decide +kernel
theorem dL_law_913 : decode cL_law 913 = .ok (.iadd, 1) := by decide +kernel
theorem dL_law_914 : decode cL_law 914 = .ok (.iaload, 1) := by decide +kernel
theorem dL_law_915 : decode cL_law 915 = .ok (.aload_n 0, 1) := by decide +kernel
theorem dL_law_916 : decode cL_law 916 = .ok (.iload_n 3, 1) := by decide +kernel
theorem dL_law_917 : decode cL_law 917 = .ok (.iconst 2, 1) := by decide +kernel
theorem dL_law_918 : decode cL_law 918 = .ok (.iadd, 1) := by decide +kernel
theorem dL_law_919 : decode cL_law 919 = .ok (.iaload, 1) := by decide +kernel
theorem dL_law_920 : decode cL_law 920 = .ok (.invokevirtual 114, 3) := by decide +kernel
theorem dL_law_923 : decode cL_law 923 = .ok (.aload_n 2, 1) := by decide +kernel
theorem dL_law_924 : decode cL_law 924 = .ok (.aload_n 0, 1) := by decide +kernel
theorem dL_law_925 : decode cL_law 925 = .ok (.iload_n 3, 1) := by decide +kernel
theorem dL_law_926 : decode cL_law 926 = .ok (.iconst 1, 1) := by decide +kernel
theorem dL_law_927 : decode cL_law 927 = .ok (.iadd, 1) := by decide +kernel
theorem dL_law_928 : decode cL_law 928 = .ok (.iaload, 1) := by decide +kernel
theorem dL_law_929 : decode cL_law 929 = .ok (.aload_n 0, 1) := by decide +kernel
theorem dL_law_930 : decode cL_law 930 = .ok (.iload_n 3, 1) := by decide +kernel
theorem dL_law_931 : decode cL_law 931 = .ok (.iconst 2, 1) := by decide +kernel
theorem dL_law_932 : decode cL_law 932 = .ok (.iadd, 1) := by decide +kernel
theorem dL_law_933 : decode cL_law 933 = .ok (.iaload, 1) := by decide +kernel
theorem dL_law_934 : decode cL_law 934 = .ok (.invokevirtual 117, 3) := by decide +kernel
theorem dL_law_937 : decode cL_law 937 = .ok (.if_icmp .eq 97, 3) := by decide +kernel
theorem dL_law_942 : decode cL_law 942 = .ok (.aload_n 1, 1) := by decide +kernel
theorem dL_law_943 : decode cL_law 943 = .ok (.aload_n 0, 1) := by decide +kernel
theorem dL_law_944 : decode cL_law 944 = .ok (.iload_n 3, 1) := by decide +kernel
theorem dL_law_945 : decode cL_law 945 = .ok (.iconst 1, 1) := by decide +kernel
theorem dL_law_946 : decode cL_law 946 = .ok (.iadd, 1) := by decide +kernel
theorem dL_law_947 : decode cL_law 947 = .ok (.iaload, 1) := by decide +kernel
theorem dL_law_948 : decode cL_law 948 = .ok (.aload_n 0, 1) := by decide +kernel
theorem dL_law_949 : decode cL_law 949 = .ok (.iload_n 3, 1) := by decide +kernel
theorem dL_law_950 : decode cL_law 950 = .ok (.iconst 2, 1) := by decide +kernel
theorem dL_law_951 : decode cL_law 951 = .ok (.iadd, 1) := by decide +kernel
theorem dL_law_952 : decode cL_law 952 = .ok (.iaload, 1) := by decide +kernel
theorem dL_law_953 : decode cL_law 953 = .ok (.invokevirtual 118, 3) := by decide +kernel
theorem dL_law_956 : decode cL_law 956 = .ok (.aload_n 2, 1) := by decide +kernel
theorem dL_law_957 : decode cL_law 957 = .ok (.aload_n 0, 1) := by decide +kernel
theorem dL_law_958 : decode cL_law 958 = .ok (.iload_n 3, 1) := by decide +kernel
theorem dL_law_959 : decode cL_law 959 = .ok (.iconst 1, 1) := by decide +kernel
theorem dL_law_960 : decode cL_law 960 = .ok (.iadd, 1) := by decide +kernel
theorem dL_law_961 : decode cL_law 961 = .ok (.iaload, 1) := by decide +kernel
theorem dL_law_962 : decode cL_law 962 = .ok (.aload_n 0, 1) := by decide +kernel
theorem dL_law_963 : decode cL_law 963 = .ok (.iload_n 3, 1) := by decide +kernel
theorem dL_law_964 : decode cL_law 964 = .ok (.iconst 2, 1) := by decide +kernel
theorem dL_law_965 : decode cL_law 965 = .ok (.iadd, 1) := by decide +kernel
theorem dL_law_966 : decode cL_law 966 = .ok (.iaload, 1) := by decide +kernel
theorem dL_law_967 : decode cL_law 967 = .ok (.invokevirtual 121, 3) := by decide +kernel
theorem dL_law_970 : decode cL_law 970 = .ok (.if_icmp .eq 64, 3) := by decide +kernel
theorem dL_law_975 : decode cL_law 975 = .ok (.aload_n 1, 1) := by decide +kernel
theorem dL_law_976 : decode cL_law 976 = .ok (.aload_n 0, 1) := by decide +kernel
theorem dL_law_977 : decode cL_law 977 = .ok (.iload_n 3, 1) := by decide +kernel
theorem dL_law_978 : decode cL_law 978 = .ok (.iconst 1, 1) := by decide +kernel
theorem dL_law_979 : decode cL_law 979 = .ok (.iadd, 1) := by decide +kernel
theorem dL_law_980 : decode cL_law 980 = .ok (.iaload, 1) := by decide +kernel
theorem dL_law_981 : decode cL_law 981 = .ok (.invokevirtual 122, 3) := by decide +kernel
theorem dL_law_984 : decode cL_law 984 = .ok (.aload_n 2, 1) := by decide +kernel
theorem dL_law_985 : decode cL_law 985 = .ok (.aload_n 0, 1) := by decide +kernel
theorem dL_law_986 : decode cL_law 986 = .ok (.iload_n 3, 1) := by decide +kernel
theorem dL_law_987 : decode cL_law 987 = .ok (.iconst 1, 1) := by decide +kernel
theorem dL_law_988 : decode cL_law 988 = .ok (.iadd, 1) := by decide +kernel
theorem dL_law_989 : decode cL_law 989 = .ok (.iaload, 1) := by decide +kernel
theorem dL_law_990 : decode cL_law 990 = .ok (.invokevirtual 125, 3) := by decide +kernel
theorem dL_law_993 : decode cL_law 993 = .ok (.if_icmp .eq 41, 3) := by decide +kernel
theorem dL_law_998 : decode cL_law 998 = .ok (.aload_n 1, 1) := by decide +kernel
theorem dL_law_999 : decode cL_law 999 = .ok (.aload_n 0, 1) := by decide +kernel
theorem hdV_X8_as : yX8_as.cls = RX8 ∧ yX8_as.cls ≠ "java/lang/invoke/MethodHandle" ∧ yX8_as.cls ≠ "java/lang/invoke/VarHandle" ∧ (parseMethodDescriptor yX8_as.desc).map (fun d => d.parameters.length) = some 2 := by decide +kernel
theorem hdV_X8_ask : yX8_ask.cls = RX8 ∧ yX8_ask.cls ≠ "java/lang/invoke/MethodHandle" ∧ yX8_ask.cls ≠ "java/lang/invoke/VarHandle" ∧ (parseMethodDescriptor yX8_ask.desc).map (fun d => d.parameters.length) = some 2 := by decide +kernel
theorem hdV_X8_beauty : yX8_beauty.cls = RX8 ∧ yX8_beauty.cls ≠ "java/lang/invoke/MethodHandle" ∧ yX8_beauty.cls ≠ "java/lang/invoke/VarHandle" ∧ (parseMethodDescriptor yX8_beauty.desc).map (fun d => d.parameters.length) = some 1 := by decide +kernel
theorem hdV_X8_city : yX8_city.cls = RX8 ∧ yX8_city.cls ≠ "java/lang/invoke/MethodHandle" ∧ yX8_city.cls ≠ "java/lang/invoke/VarHandle" ∧ (parseMethodDescriptor yX8_city.desc).map (fun d => d.parameters.length) = some 0 := by decide +kernel
theorem hdV_X8_copy : yX8_copy.cls = RX8 ∧ yX8_copy.cls ≠ "java/lang/invoke/MethodHandle" ∧ yX8_copy.cls ≠ "java/lang/invoke/VarHandle" ∧ (parseMethodDescriptor yX8_copy.desc).map (fun d => d.parameters.length) = some 5 := by decide +kernel
theorem hdV_X8_count : yX8_count.cls = RX8 ∧ yX8_count.cls ≠ "java/lang/invoke/MethodHandle" ∧ yX8_count.cls ≠ "java/lang/invoke/VarHandle" ∧ (parseMethodDescriptor yX8_count.desc).map (fun d => d.parameters.length) = some 1 := by decide +kernel
theorem hdV_X8_drop : yX8_drop.cls = RX8 ∧ yX8_drop.cls ≠ "java/lang/invoke/MethodHandle" ∧ yX8_drop.cls ≠ "java/lang/invoke/VarHandle" ∧ (parseMethodDescriptor yX8_drop.desc).map (fun d => d.parameters.length) = some 1 := by decide +kernel
theorem hdV_X8_earns : yX8_earns.cls = RX8 ∧ yX8_earns.cls ≠ "java/lang/invoke/MethodHandle" ∧ yX8_earns.cls ≠ "java/lang/invoke/VarHandle" ∧ (parseMethodDescriptor yX8_earns.desc).map (fun d => d.parameters.length) = some 2 := by decide +kernel
theorem hdV_X8_fault : yX8_fault.cls = RX8 ∧ yX8_fault.cls ≠ "java/lang/invoke/MethodHandle" ∧ yX8_fault.cls ≠ "java/lang/invoke/VarHandle" ∧ (parseMethodDescriptor yX8_fault.desc).map (fun d => d.parameters.length) = some 0 := by decide +kernel
theorem hdV_X8_feed : yX8_feed.cls = RX8 ∧ yX8_feed.cls ≠ "java/lang/invoke/MethodHandle" ∧ yX8_feed.cls ≠ "java/lang/invoke/VarHandle" ∧ (parseMethodDescriptor yX8_feed.desc).map (fun d => d.parameters.length) = some 2 := by decide +kernel
theorem hdV_X8_got : yX8_got.cls = RX8 ∧ yX8_got.cls ≠ "java/lang/invoke/MethodHandle" ∧ yX8_got.cls ≠ "java/lang/invoke/VarHandle" ∧ (parseMethodDescriptor yX8_got.desc).map (fun d => d.parameters.length) = some 1 := by decide +kernel
theorem hdV_X8_home : yX8_home.cls = RX8 ∧ yX8_home.cls ≠ "java/lang/invoke/MethodHandle" ∧ yX8_home.cls ≠ "java/lang/invoke/VarHandle" ∧ (parseMethodDescriptor yX8_home.desc).map (fun d => d.parameters.length) = some 3 := by decide +kernel
theorem hdV_X8_image : yX8_image.cls = RX8 ∧ yX8_image.cls ≠ "java/lang/invoke/MethodHandle" ∧ yX8_image.cls ≠ "java/lang/invoke/VarHandle" ∧ (parseMethodDescriptor yX8_image.desc).map (fun d => d.parameters.length) = some 1 := by decide +kernel
theorem hdV_X8_kind : yX8_kind.cls = RX8 ∧ yX8_kind.cls ≠ "java/lang/invoke/MethodHandle" ∧ yX8_kind.cls ≠ "java/lang/invoke/VarHandle" ∧ (parseMethodDescriptor yX8_kind.desc).map (fun d => d.parameters.length) = some 1 := by decide +kernel
theorem hdV_X8_look : yX8_look.cls = RX8 ∧ yX8_look.cls ≠ "java/lang/invoke/MethodHandle" ∧ yX8_look.cls ≠ "java/lang/invoke/VarHandle" ∧ (parseMethodDescriptor yX8_look.desc).map (fun d => d.parameters.length) = some 3 := by decide +kernel
theorem hdV_X8_nothing : yX8_nothing.cls = RX8 ∧ yX8_nothing.cls ≠ "java/lang/invoke/MethodHandle" ∧ yX8_nothing.cls ≠ "java/lang/invoke/VarHandle" ∧ (parseMethodDescriptor yX8_nothing.desc).map (fun d => d.parameters.length) = some 1 := by decide +kernel
theorem hdV_X8_person : yX8_person.cls = RX8 ∧ yX8_person.cls ≠ "java/lang/invoke/MethodHandle" ∧ yX8_person.cls ≠ "java/lang/invoke/VarHandle" ∧ (parseMethodDescriptor yX8_person.desc).map (fun d => d.parameters.length) = some 2 := by decide +kernel
theorem hdV_X8_price : yX8_price.cls = RX8 ∧ yX8_price.cls ≠ "java/lang/invoke/MethodHandle" ∧ yX8_price.cls ≠ "java/lang/invoke/VarHandle" ∧ (parseMethodDescriptor yX8_price.desc).map (fun d => d.parameters.length) = some 2 := by decide +kernel
theorem hdV_X8_restore : yX8_restore.cls = RX8 ∧ yX8_restore.cls ≠ "java/lang/invoke/MethodHandle" ∧ yX8_restore.cls ≠ "java/lang/invoke/VarHandle" ∧ (parseMethodDescriptor yX8_restore.desc).map (fun d => d.parameters.length) = some 1 := by decide +kernel
theorem hdV_X8_rivals : yX8_rivals.cls = RX8 ∧ yX8_rivals.cls ≠ "java/lang/invoke/MethodHandle" ∧ yX8_rivals.cls ≠ "java/lang/invoke/VarHandle" ∧ (parseMethodDescriptor yX8_rivals.desc).map (fun d => d.parameters.length) = some 1 := by decide +kernel
theorem hdV_X8_set : yX8_set.cls = RX8 ∧ yX8_set.cls ≠ "java/lang/invoke/MethodHandle" ∧ yX8_set.cls ≠ "java/lang/invoke/VarHandle" ∧ (parseMethodDescriptor yX8_set.desc).map (fun d => d.parameters.length) = some 3 := by decide +kernel
theorem hdV_X8_sheet : yX8_sheet.cls = RX8 ∧ yX8_sheet.cls ≠ "java/lang/invoke/MethodHandle" ∧ yX8_sheet.cls ≠ "java/lang/invoke/VarHandle" ∧ (parseMethodDescriptor yX8_sheet.desc).map (fun d => d.parameters.length) = some 3 := by decide +kernel
theorem hdV_X8_status : yX8_status.cls = RX8 ∧ yX8_status.cls ≠ "java/lang/invoke/MethodHandle" ∧ yX8_status.cls ≠ "java/lang/invoke/VarHandle" ∧ (parseMethodDescriptor yX8_status.desc).map (fun d => d.parameters.length) = some 0 := by decide +kernel
theorem hdV_X8_step : yX8_step.cls = RX8 ∧ yX8_step.cls ≠ "java/lang/invoke/MethodHandle" ∧ yX8_step.cls ≠ "java/lang/invoke/VarHandle" ∧ (parseMethodDescriptor yX8_step.desc).map (fun d => d.parameters.length) = some 2 := by decide +kernel
theorem hdV_X8_trace : yX8_trace.cls = RX8 ∧ yX8_trace.cls ≠ "java/lang/invoke/MethodHandle" ∧ yX8_trace.cls ≠ "java/lang/invoke/VarHandle" ∧ (parseMethodDescriptor yX8_trace.desc).map (fun d => d.parameters.length) = some 1 := by decide +kernel
theorem hdV_X8_walk : yX8_walk.cls = RX8 ∧ yX8_walk.cls ≠ "java/lang/invoke/MethodHandle" ∧ yX8_walk.cls ≠ "java/lang/invoke/VarHandle" ∧ (parseMethodDescriptor yX8_walk.desc).map (fun d => d.parameters.length) = some 4 := by decide +kernel
theorem hdV_X8_wall : yX8_wall.cls = RX8 ∧ yX8_wall.cls ≠ "java/lang/invoke/MethodHandle" ∧ yX8_wall.cls ≠ "java/lang/invoke/VarHandle" ∧ (parseMethodDescriptor yX8_wall.desc).map (fun d => d.parameters.length) = some 2 := by decide +kernel
theorem hdV_X8_witnesses : yX8_witnesses.cls = RX8 ∧ yX8_witnesses.cls ≠ "java/lang/invoke/MethodHandle" ∧ yX8_witnesses.cls ≠ "java/lang/invoke/VarHandle" ∧ (parseMethodDescriptor yX8_witnesses.desc).map (fun d => d.parameters.length) = some 1 := by decide +kernel
theorem hdV_X9_as : yX9_as.cls = RX9 ∧ yX9_as.cls ≠ "java/lang/invoke/MethodHandle" ∧ yX9_as.cls ≠ "java/lang/invoke/VarHandle" ∧ (parseMethodDescriptor yX9_as.desc).map (fun d => d.parameters.length) = some 2 := by decide +kernel
theorem hdV_X9_ask : yX9_ask.cls = RX9 ∧ yX9_ask.cls ≠ "java/lang/invoke/MethodHandle" ∧ yX9_ask.cls ≠ "java/lang/invoke/VarHandle" ∧ (parseMethodDescriptor yX9_ask.desc).map (fun d => d.parameters.length) = some 2 := by decide +kernel
theorem hdV_X9_beauty : yX9_beauty.cls = RX9 ∧ yX9_beauty.cls ≠ "java/lang/invoke/MethodHandle" ∧ yX9_beauty.cls ≠ "java/lang/invoke/VarHandle" ∧ (parseMethodDescriptor yX9_beauty.desc).map (fun d => d.parameters.length) = some 1 := by decide +kernel
theorem hdV_X9_city : yX9_city.cls = RX9 ∧ yX9_city.cls ≠ "java/lang/invoke/MethodHandle" ∧ yX9_city.cls ≠ "java/lang/invoke/VarHandle" ∧ (parseMethodDescriptor yX9_city.desc).map (fun d => d.parameters.length) = some 0 := by decide +kernel
theorem hdV_X9_copy : yX9_copy.cls = RX9 ∧ yX9_copy.cls ≠ "java/lang/invoke/MethodHandle" ∧ yX9_copy.cls ≠ "java/lang/invoke/VarHandle" ∧ (parseMethodDescriptor yX9_copy.desc).map (fun d => d.parameters.length) = some 5 := by decide +kernel
theorem hdV_X9_count : yX9_count.cls = RX9 ∧ yX9_count.cls ≠ "java/lang/invoke/MethodHandle" ∧ yX9_count.cls ≠ "java/lang/invoke/VarHandle" ∧ (parseMethodDescriptor yX9_count.desc).map (fun d => d.parameters.length) = some 1 := by decide +kernel
theorem hdV_X9_drop : yX9_drop.cls = RX9 ∧ yX9_drop.cls ≠ "java/lang/invoke/MethodHandle" ∧ yX9_drop.cls ≠ "java/lang/invoke/VarHandle" ∧ (parseMethodDescriptor yX9_drop.desc).map (fun d => d.parameters.length) = some 1 := by decide +kernel
theorem hdV_X9_earns : yX9_earns.cls = RX9 ∧ yX9_earns.cls ≠ "java/lang/invoke/MethodHandle" ∧ yX9_earns.cls ≠ "java/lang/invoke/VarHandle" ∧ (parseMethodDescriptor yX9_earns.desc).map (fun d => d.parameters.length) = some 2 := by decide +kernel
theorem hdV_X9_fault : yX9_fault.cls = RX9 ∧ yX9_fault.cls ≠ "java/lang/invoke/MethodHandle" ∧ yX9_fault.cls ≠ "java/lang/invoke/VarHandle" ∧ (parseMethodDescriptor yX9_fault.desc).map (fun d => d.parameters.length) = some 0 := by decide +kernel
theorem hdV_X9_feed : yX9_feed.cls = RX9 ∧ yX9_feed.cls ≠ "java/lang/invoke/MethodHandle" ∧ yX9_feed.cls ≠ "java/lang/invoke/VarHandle" ∧ (parseMethodDescriptor yX9_feed.desc).map (fun d => d.parameters.length) = some 2 := by decide +kernel
theorem hdV_X9_got : yX9_got.cls = RX9 ∧ yX9_got.cls ≠ "java/lang/invoke/MethodHandle" ∧ yX9_got.cls ≠ "java/lang/invoke/VarHandle" ∧ (parseMethodDescriptor yX9_got.desc).map (fun d => d.parameters.length) = some 1 := by decide +kernel
theorem hdV_X9_home : yX9_home.cls = RX9 ∧ yX9_home.cls ≠ "java/lang/invoke/MethodHandle" ∧ yX9_home.cls ≠ "java/lang/invoke/VarHandle" ∧ (parseMethodDescriptor yX9_home.desc).map (fun d => d.parameters.length) = some 3 := by decide +kernel
theorem hdV_X9_image : yX9_image.cls = RX9 ∧ yX9_image.cls ≠ "java/lang/invoke/MethodHandle" ∧ yX9_image.cls ≠ "java/lang/invoke/VarHandle" ∧ (parseMethodDescriptor yX9_image.desc).map (fun d => d.parameters.length) = some 1 := by decide +kernel
theorem hdV_X9_kind : yX9_kind.cls = RX9 ∧ yX9_kind.cls ≠ "java/lang/invoke/MethodHandle" ∧ yX9_kind.cls ≠ "java/lang/invoke/VarHandle" ∧ (parseMethodDescriptor yX9_kind.desc).map (fun d => d.parameters.length) = some 1 := by decide +kernel
theorem hdV_X9_look : yX9_look.cls = RX9 ∧ yX9_look.cls ≠ "java/lang/invoke/MethodHandle" ∧ yX9_look.cls ≠ "java/lang/invoke/VarHandle" ∧ (parseMethodDescriptor yX9_look.desc).map (fun d => d.parameters.length) = some 3 := by decide +kernel
theorem hdV_X9_nothing : yX9_nothing.cls = RX9 ∧ yX9_nothing.cls ≠ "java/lang/invoke/MethodHandle" ∧ yX9_nothing.cls ≠ "java/lang/invoke/VarHandle" ∧ (parseMethodDescriptor yX9_nothing.desc).map (fun d => d.parameters.length) = some 1 := by decide +kernel
theorem hdV_X9_person : yX9_person.cls = RX9 ∧ yX9_person.cls ≠ "java/lang/invoke/MethodHandle" ∧ yX9_person.cls ≠ "java/lang/invoke/VarHandle" ∧ (parseMethodDescriptor yX9_person.desc).map (fun d => d.parameters.length) = some 2 := by decide +kernel
theorem hdV_X9_price : yX9_price.cls = RX9 ∧ yX9_price.cls ≠ "java/lang/invoke/MethodHandle" ∧ yX9_price.cls ≠ "java/lang/invoke/VarHandle" ∧ (parseMethodDescriptor yX9_price.desc).map (fun d => d.parameters.length) = some 2 := by decide +kernel
theorem hdV_X9_restore : yX9_restore.cls = RX9 ∧ yX9_restore.cls ≠ "java/lang/invoke/MethodHandle" ∧ yX9_restore.cls ≠ "java/lang/invoke/VarHandle" ∧ (parseMethodDescriptor yX9_restore.desc).map (fun d => d.parameters.length) = some 1 := by decide +kernel
theorem hdV_X9_rivals : yX9_rivals.cls = RX9 ∧ yX9_rivals.cls ≠ "java/lang/invoke/MethodHandle" ∧ yX9_rivals.cls ≠ "java/lang/invoke/VarHandle" ∧ (parseMethodDescriptor yX9_rivals.desc).map (fun d => d.parameters.length) = some 1 := by decide +kernel
theorem hdV_X9_set : yX9_set.cls = RX9 ∧ yX9_set.cls ≠ "java/lang/invoke/MethodHandle" ∧ yX9_set.cls ≠ "java/lang/invoke/VarHandle" ∧ (parseMethodDescriptor yX9_set.desc).map (fun d => d.parameters.length) = some 3 := by decide +kernel
theorem hdV_X9_sheet : yX9_sheet.cls = RX9 ∧ yX9_sheet.cls ≠ "java/lang/invoke/MethodHandle" ∧ yX9_sheet.cls ≠ "java/lang/invoke/VarHandle" ∧ (parseMethodDescriptor yX9_sheet.desc).map (fun d => d.parameters.length) = some 3 := by decide +kernel
theorem hdV_X9_status : yX9_status.cls = RX9 ∧ yX9_status.cls ≠ "java/lang/invoke/MethodHandle" ∧ yX9_status.cls ≠ "java/lang/invoke/VarHandle" ∧ (parseMethodDescriptor yX9_status.desc).map (fun d => d.parameters.length) = some 0 := by decide +kernel
theorem hdV_X9_step : yX9_step.cls = RX9 ∧ yX9_step.cls ≠ "java/lang/invoke/MethodHandle" ∧ yX9_step.cls ≠ "java/lang/invoke/VarHandle" ∧ (parseMethodDescriptor yX9_step.desc).map (fun d => d.parameters.length) = some 2 := by decide +kernel
theorem hdV_X9_trace : yX9_trace.cls = RX9 ∧ yX9_trace.cls ≠ "java/lang/invoke/MethodHandle" ∧ yX9_trace.cls ≠ "java/lang/invoke/VarHandle" ∧ (parseMethodDescriptor yX9_trace.desc).map (fun d => d.parameters.length) = some 1 := by decide +kernel
theorem hdV_X9_walk : yX9_walk.cls = RX9 ∧ yX9_walk.cls ≠ "java/lang/invoke/MethodHandle" ∧ yX9_walk.cls ≠ "java/lang/invoke/VarHandle" ∧ (parseMethodDescriptor yX9_walk.desc).map (fun d => d.parameters.length) = some 4 := by decide +kernel
theorem hdV_X9_wall : yX9_wall.cls = RX9 ∧ yX9_wall.cls ≠ "java/lang/invoke/MethodHandle" ∧ yX9_wall.cls ≠ "java/lang/invoke/VarHandle" ∧ (parseMethodDescriptor yX9_wall.desc).map (fun d => d.parameters.length) = some 2 := by decide +kernel
theorem hdV_X9_witnesses : yX9_witnesses.cls = RX9 ∧ yX9_witnesses.cls ≠ "java/lang/invoke/MethodHandle" ∧ yX9_witnesses.cls ≠ "java/lang/invoke/VarHandle" ∧ (parseMethodDescriptor yX9_witnesses.desc).map (fun d => d.parameters.length) = some 1 := by decide +kernel
set_option maxHeartbeats 4000000 in
set_option maxRecDepth 100000 in
theorem law_fault {p : Program} (l : Launch) {e : Env} {s : State} {m : MethodId} {below : List Frame} {meth : Method} {c : Code} (D : va_G) (cI cZ cC cS : ClassId) (sq : Nat) {b : Nat} {sc : Nat → Int32} {A : Nat → Prop} (C : lC p s m meth c b sc A) (hK : kW D (tyW cI cZ cC cS) sq s) (x : Nat) (xs : Nat) (xt : Nat) (xc : Nat) (xd : Nat) (xr : Nat) (xi : Nat) (xv : Nat) (xw : Nat) (xh : Nat) (xm : Nat) (xa : Nat) (y : Nat) (y_lane : Nat) (y_many : Nat) (y_item : Nat) (y_city : Nat) (y_fresh : Nat) (y_tape : Nat) (y_cost : Nat) (y_away : Nat) (y_fee : Nat) (y_goesTo : Nat) (y_priceWas : Nat) (y_isKept : Nat) (y_kept : Nat) (y_trace : Nat) {H : Heap} {locs : List Loc} {ls : Array Slot} (hP : va_P D vwCl [(x, .inr (8, [.ref xs, .ref xt, .ref xc, .ref xd, .ref xr, .ref xi, .ref xv, .ref xw, .ref xh, .ref xm, .ref xa, .int 0, .int 0])), (y, .inr (9, [.int 0, .int 0, .ref y_lane, .ref y_many, .ref y_item, .ref y_city, .ref y_fresh, .int 0, .ref y_tape, .int 0, .int 0, .int 0, .int 0, .int 0, .int 0, .int 0, .int 0, .int 0, .int 0, .int 0, .ref y_cost, .ref y_away, .ref y_fee, .ref y_goesTo, .ref y_priceWas, .ref y_isKept, .ref y_kept, .ref y_trace, .int 0]))] H) (hD : va_D A [(x, .inr (8, [.ref xs, .ref xt, .ref xc, .ref xd, .ref xr, .ref xi, .ref xv, .ref xw, .ref xh, .ref xm, .ref xa, .int 0, .int 0])), (y, .inr (9, [.int 0, .int 0, .ref y_lane, .ref y_many, .ref y_item, .ref y_city, .ref y_fresh, .int 0, .ref y_tape, .int 0, .int 0, .int 0, .int 0, .int 0, .int 0, .int 0, .int 0, .int 0, .int 0, .int 0, .ref y_cost, .ref y_away, .ref y_fee, .ref y_goesTo, .ref y_priceWas, .ref y_isKept, .ref y_kept, .ref y_trace, .int 0]))]) (hS : va_S A s.heap H locs) (hl : lv_has ls 4 [(3, .int 0), (2, .ref y), (1, .ref x), (0, .ref b)]) : W p l e room_1 s m #[Value.ref b] below meth c H locs 98 12032 (lw_Z below #[Value.ref b] s) (F0 m 408 ls []) := by
  obtain ⟨S, hr_, hk_, hX, hbl, hA, hAf⟩ := id C
  have hbA : ¬ A b := fun z => absurd (hAf b z) (Nat.not_le.mpr hbl)
  refine lv_aload_n S.1 S.2.1 dL_law_408 rfl (lv_at hl 2 rfl) ?_
  refine b_ai (wr := [(y, .inr (9, [.int 0, .int 0, .ref y_lane, .ref y_many, .ref y_item, .ref y_city, .ref y_fresh, .int 0, .ref y_tape, .int 0, .int 0, .int 0, .int 0, .int 0, .int 0, .int 0, .int 0, .int 0, .int 0, .int 0, .ref y_cost, .ref y_away, .ref y_fee, .ref y_goesTo, .ref y_priceWas, .ref y_isKept, .ref y_kept, .ref y_trace, .int 0]))]) (b_runV (q0 := 0) (ci := 8) (As := []) (c_X8_fault l D cI cZ cC cS sq H.size x xs xt xc xd xr xi xv xw xh xm xa) S gL_law_X8_fault rfl hdV_X8_fault ⟨Nat.le_of_ble_eq_true rfl, Nat.le_of_ble_eq_true rfl⟩ ⟨Nat.le_of_ble_eq_true rfl, Nat.le_of_ble_eq_true rfl⟩ hK hP hD rfl rfl [0] rfl (by decide) rfl hl.1 rfl (Nat.le_of_ble_eq_true rfl) dL_law_409) hP hD hS hA [0] [1] rfl rfl (by decide) (by decide) (fun r_1 w_2 H locs hw_3 hP hD hS => ?_)
  obtain ⟨rfl, rfl⟩ := hw_3
  have hP : va_P D vwCl [(y, .inr (9, [.int 0, .int 0, .ref y_lane, .ref y_many, .ref y_item, .ref y_city, .ref y_fresh, .int 0, .ref y_tape, .int 0, .int 0, .int 0, .int 0, .int 0, .int 0, .int 0, .int 0, .int 0, .int 0, .int 0, .ref y_cost, .ref y_away, .ref y_fee, .ref y_goesTo, .ref y_priceWas, .ref y_isKept, .ref y_kept, .ref y_trace, .int 0])), (x, .inr (8, [.ref xs, .ref xt, .ref xc, .ref xd, .ref xr, .ref xi, .ref xv, .ref xw, .ref xh, .ref xm, .ref xa, .int 0, .int 0]))] H := hP
  have hD : va_D A [(y, .inr (9, [.int 0, .int 0, .ref y_lane, .ref y_many, .ref y_item, .ref y_city, .ref y_fresh, .int 0, .ref y_tape, .int 0, .int 0, .int 0, .int 0, .int 0, .int 0, .int 0, .int 0, .int 0, .int 0, .int 0, .ref y_cost, .ref y_away, .ref y_fee, .ref y_goesTo, .ref y_priceWas, .ref y_isKept, .ref y_kept, .ref y_trace, .int 0])), (x, .inr (8, [.ref xs, .ref xt, .ref xc, .ref xd, .ref xr, .ref xi, .ref xv, .ref xw, .ref xh, .ref xm, .ref xa, .int 0, .int 0]))] := hD
  refine lv_aload_n S.1 S.2.1 dL_law_412 rfl (lv_at hl 1 rfl) ?_
  refine b_ai (wr := [(x, .inr (8, [.ref xs, .ref xt, .ref xc, .ref xd, .ref xr, .ref xi, .ref xv, .ref xw, .ref xh, .ref xm, .ref xa, .int 0, .int 0]))]) (b_runV (q0 := 0) (ci := 9) (As := []) (c_X9_fault l D cI cZ cC cS sq H.size y y_lane y_many y_item y_city y_fresh y_tape y_cost y_away y_fee y_goesTo y_priceWas y_isKept y_kept y_trace) S gL_law_X9_fault rfl hdV_X9_fault ⟨Nat.le_of_ble_eq_true rfl, Nat.le_of_ble_eq_true rfl⟩ ⟨Nat.le_of_ble_eq_true rfl, Nat.le_of_ble_eq_true rfl⟩ hK hP hD rfl rfl [0] rfl (by decide) rfl hl.1 rfl (Nat.le_of_ble_eq_true rfl) dL_law_413) hP hD hS hA [0] [1] rfl rfl (by decide) (by decide) (fun r_4 w_5 H locs hw_6 hP hD hS => ?_)
  obtain ⟨rfl, rfl⟩ := hw_6
  have hP : va_P D vwCl [(x, .inr (8, [.ref xs, .ref xt, .ref xc, .ref xd, .ref xr, .ref xi, .ref xv, .ref xw, .ref xh, .ref xm, .ref xa, .int 0, .int 0]))] H := hP
  have hD : va_D A [(x, .inr (8, [.ref xs, .ref xt, .ref xc, .ref xd, .ref xr, .ref xi, .ref xv, .ref xw, .ref xh, .ref xm, .ref xa, .int 0, .int 0]))] := hD
  refine lv_icmp_eq (tgt := 1034) S.1 S.2.1 dL_law_416 (by decide) (fun c_7 => ?_) (fun c_7 => absurd c_7 (by decide))
  exact law_tail C hS (lv_sub hl [0, 3] rfl) (by decide) (by decide)
set_option maxHeartbeats 4000000 in
set_option maxRecDepth 100000 in
theorem law_status {p : Program} (l : Launch) {e : Env} {s : State} {m : MethodId} {below : List Frame} {meth : Method} {c : Code} (D : va_G) (cI cZ cC cS : ClassId) (sq : Nat) {b : Nat} {sc : Nat → Int32} {A : Nat → Prop} (C : lC p s m meth c b sc A) (hK : kW D (tyW cI cZ cC cS) sq s) (x : Nat) (xs : Nat) (xt : Nat) (xc : Nat) (xd : Nat) (xr : Nat) (xi : Nat) (xv : Nat) (xw : Nat) (xh : Nat) (xm : Nat) (xa : Nat) (y : Nat) (y_lane : Nat) (y_many : Nat) (y_item : Nat) (y_city : Nat) (y_fresh : Nat) (y_tape : Nat) (y_cost : Nat) (y_away : Nat) (y_fee : Nat) (y_goesTo : Nat) (y_priceWas : Nat) (y_isKept : Nat) (y_kept : Nat) (y_trace : Nat) {H : Heap} {locs : List Loc} {ls : Array Slot} (hP : va_P D vwCl [(x, .inr (8, [.ref xs, .ref xt, .ref xc, .ref xd, .ref xr, .ref xi, .ref xv, .ref xw, .ref xh, .ref xm, .ref xa, .int 0, .int 0])), (y, .inr (9, [.int 0, .int 0, .ref y_lane, .ref y_many, .ref y_item, .ref y_city, .ref y_fresh, .int 0, .ref y_tape, .int 0, .int 0, .int 0, .int 0, .int 0, .int 0, .int 0, .int 0, .int 0, .int 0, .int 0, .ref y_cost, .ref y_away, .ref y_fee, .ref y_goesTo, .ref y_priceWas, .ref y_isKept, .ref y_kept, .ref y_trace, .int 0]))] H) (hD : va_D A [(x, .inr (8, [.ref xs, .ref xt, .ref xc, .ref xd, .ref xr, .ref xi, .ref xv, .ref xw, .ref xh, .ref xm, .ref xa, .int 0, .int 0])), (y, .inr (9, [.int 0, .int 0, .ref y_lane, .ref y_many, .ref y_item, .ref y_city, .ref y_fresh, .int 0, .ref y_tape, .int 0, .int 0, .int 0, .int 0, .int 0, .int 0, .int 0, .int 0, .int 0, .int 0, .int 0, .ref y_cost, .ref y_away, .ref y_fee, .ref y_goesTo, .ref y_priceWas, .ref y_isKept, .ref y_kept, .ref y_trace, .int 0]))]) (hS : va_S A s.heap H locs) (hl : lv_has ls 4 [(3, .int 0), (2, .ref y), (1, .ref x), (0, .ref b)]) : W p l e room_1 s m #[Value.ref b] below meth c H locs 98 12032 (lw_Z below #[Value.ref b] s) (F0 m 1021 ls []) := by
  obtain ⟨S, hr_, hk_, hX, hbl, hA, hAf⟩ := id C
  have hbA : ¬ A b := fun z => absurd (hAf b z) (Nat.not_le.mpr hbl)
  refine lv_aload_n S.1 S.2.1 dL_law_1021 rfl (lv_at hl 2 rfl) ?_
  refine b_ai (wr := [(y, .inr (9, [.int 0, .int 0, .ref y_lane, .ref y_many, .ref y_item, .ref y_city, .ref y_fresh, .int 0, .ref y_tape, .int 0, .int 0, .int 0, .int 0, .int 0, .int 0, .int 0, .int 0, .int 0, .int 0, .int 0, .ref y_cost, .ref y_away, .ref y_fee, .ref y_goesTo, .ref y_priceWas, .ref y_isKept, .ref y_kept, .ref y_trace, .int 0]))]) (b_runV (q0 := 0) (ci := 8) (As := []) (c_X8_status l D cI cZ cC cS sq H.size x xs xt xc xd xr xi xv xw xh xm xa) S gL_law_X8_status rfl hdV_X8_status ⟨Nat.le_of_ble_eq_true rfl, Nat.le_of_ble_eq_true rfl⟩ ⟨Nat.le_of_ble_eq_true rfl, Nat.le_of_ble_eq_true rfl⟩ hK hP hD rfl rfl [0] rfl (by decide) rfl hl.1 rfl (Nat.le_of_ble_eq_true rfl) dL_law_1022) hP hD hS hA [0] [1] rfl rfl (by decide) (by decide) (fun r_1 w_2 H locs hw_3 hP hD hS => ?_)
  obtain ⟨rfl, rfl⟩ := hw_3
  have hP : va_P D vwCl [(y, .inr (9, [.int 0, .int 0, .ref y_lane, .ref y_many, .ref y_item, .ref y_city, .ref y_fresh, .int 0, .ref y_tape, .int 0, .int 0, .int 0, .int 0, .int 0, .int 0, .int 0, .int 0, .int 0, .int 0, .int 0, .ref y_cost, .ref y_away, .ref y_fee, .ref y_goesTo, .ref y_priceWas, .ref y_isKept, .ref y_kept, .ref y_trace, .int 0])), (x, .inr (8, [.ref xs, .ref xt, .ref xc, .ref xd, .ref xr, .ref xi, .ref xv, .ref xw, .ref xh, .ref xm, .ref xa, .int 0, .int 0]))] H := hP
  have hD : va_D A [(y, .inr (9, [.int 0, .int 0, .ref y_lane, .ref y_many, .ref y_item, .ref y_city, .ref y_fresh, .int 0, .ref y_tape, .int 0, .int 0, .int 0, .int 0, .int 0, .int 0, .int 0, .int 0, .int 0, .int 0, .int 0, .ref y_cost, .ref y_away, .ref y_fee, .ref y_goesTo, .ref y_priceWas, .ref y_isKept, .ref y_kept, .ref y_trace, .int 0])), (x, .inr (8, [.ref xs, .ref xt, .ref xc, .ref xd, .ref xr, .ref xi, .ref xv, .ref xw, .ref xh, .ref xm, .ref xa, .int 0, .int 0]))] := hD
  refine lv_aload_n S.1 S.2.1 dL_law_1025 rfl (lv_at hl 1 rfl) ?_
  refine b_ai (wr := [(x, .inr (8, [.ref xs, .ref xt, .ref xc, .ref xd, .ref xr, .ref xi, .ref xv, .ref xw, .ref xh, .ref xm, .ref xa, .int 0, .int 0]))]) (b_runV (q0 := 0) (ci := 9) (As := []) (c_X9_status l D cI cZ cC cS sq H.size y y_lane y_many y_item y_city y_fresh y_tape y_cost y_away y_fee y_goesTo y_priceWas y_isKept y_kept y_trace) S gL_law_X9_status rfl hdV_X9_status ⟨Nat.le_of_ble_eq_true rfl, Nat.le_of_ble_eq_true rfl⟩ ⟨Nat.le_of_ble_eq_true rfl, Nat.le_of_ble_eq_true rfl⟩ hK hP hD rfl rfl [0] rfl (by decide) rfl hl.1 rfl (Nat.le_of_ble_eq_true rfl) dL_law_1026) hP hD hS hA [0] [1] rfl rfl (by decide) (by decide) (fun r_4 w_5 H locs hw_6 hP hD hS => ?_)
  obtain ⟨rfl, rfl⟩ := hw_6
  have hP : va_P D vwCl [(x, .inr (8, [.ref xs, .ref xt, .ref xc, .ref xd, .ref xr, .ref xi, .ref xv, .ref xw, .ref xh, .ref xm, .ref xa, .int 0, .int 0]))] H := hP
  have hD : va_D A [(x, .inr (8, [.ref xs, .ref xt, .ref xc, .ref xd, .ref xr, .ref xi, .ref xv, .ref xw, .ref xh, .ref xm, .ref xa, .int 0, .int 0]))] := hD
  refine lv_icmp_eq (tgt := 1034) S.1 S.2.1 dL_law_1029 (by decide) (fun c_7 => ?_) (fun c_7 => absurd c_7 (by decide))
  exact law_tail C hS (lv_sub hl [0, 3] rfl) (by decide) (by decide)
set_option maxHeartbeats 4000000 in
set_option maxRecDepth 100000 in
theorem law_price {p : Program} (l : Launch) {e : Env} {s : State} {m : MethodId} {below : List Frame} {meth : Method} {c : Code} (D : va_G) (cI cZ cC cS : ClassId) (sq : Nat) {b : Nat} {sc : Nat → Int32} {A : Nat → Prop} (C : lC p s m meth c b sc A) (hK : kW D (tyW cI cZ cC cS) sq s) (x : Nat) (xs : Nat) (xt : Nat) (xc : Nat) (xd : Nat) (xr : Nat) (xi : Nat) (xv : Nat) (xw : Nat) (xh : Nat) (xm : Nat) (xa : Nat) (y : Nat) (y_lane : Nat) (y_many : Nat) (y_item : Nat) (y_city : Nat) (y_fresh : Nat) (y_tape : Nat) (y_cost : Nat) (y_away : Nat) (y_fee : Nat) (y_goesTo : Nat) (y_priceWas : Nat) (y_isKept : Nat) (y_kept : Nat) (y_trace : Nat) (aCells : Nat) (aPrices : Nat) (aFree : Nat) (aPlaces : Nat) (aHomes : Nat) (aManners : Nat) (aGone : Nat) (aPaid : Nat) (aBlinks : Nat) {H : Heap} {locs : List Loc} {ls : Array Slot} (hP : va_P D vwCl [(x, .inr (8, [.ref xs, .ref xt, .ref xc, .ref xd, .ref xr, .ref xi, .ref xv, .ref xw, .ref xh, .ref xm, .ref xa, .int 0, .int 0])), (xc, .inr (1, [.int 0, .int 0, .int 0, .ref aCells, .ref aPrices, .ref aFree, .ref aPlaces, .ref aHomes, .ref aManners, .ref aGone, .ref aPaid, .ref aBlinks])), (y, .inr (9, [.int 0, .int 0, .ref y_lane, .ref y_many, .ref y_item, .ref y_city, .ref y_fresh, .int 0, .ref y_tape, .int 0, .int 0, .int 0, .int 0, .int 0, .int 0, .int 0, .int 0, .int 0, .int 0, .int 0, .ref y_cost, .ref y_away, .ref y_fee, .ref y_goesTo, .ref y_priceWas, .ref y_isKept, .ref y_kept, .ref y_trace, .int 0])), (y_city, .inl (cI, 192, .inl (fun _ => 0)))] H) (hD : va_D A [(x, .inr (8, [.ref xs, .ref xt, .ref xc, .ref xd, .ref xr, .ref xi, .ref xv, .ref xw, .ref xh, .ref xm, .ref xa, .int 0, .int 0])), (xc, .inr (1, [.int 0, .int 0, .int 0, .ref aCells, .ref aPrices, .ref aFree, .ref aPlaces, .ref aHomes, .ref aManners, .ref aGone, .ref aPaid, .ref aBlinks])), (y, .inr (9, [.int 0, .int 0, .ref y_lane, .ref y_many, .ref y_item, .ref y_city, .ref y_fresh, .int 0, .ref y_tape, .int 0, .int 0, .int 0, .int 0, .int 0, .int 0, .int 0, .int 0, .int 0, .int 0, .int 0, .ref y_cost, .ref y_away, .ref y_fee, .ref y_goesTo, .ref y_priceWas, .ref y_isKept, .ref y_kept, .ref y_trace, .int 0])), (y_city, .inl (cI, 192, .inl (fun _ => 0)))]) (hS : va_S A s.heap H locs) (hl : lv_has ls 4 [(3, .int 0), (2, .ref y), (1, .ref x), (0, .ref b)]) : W p l e room_1 s m #[Value.ref b] below meth c H locs 98 12032 (lw_Z below #[Value.ref b] s) (F0 m 464 ls []) := by
  obtain ⟨S, hr_, hk_, hX, hbl, hA, hAf⟩ := id C
  have hbA : ¬ A b := fun z => absurd (hAf b z) (Nat.not_le.mpr hbl)
  refine lv_aload_n S.1 S.2.1 dL_law_464 rfl (lv_at hl 2 rfl) ?_
  refine lv_aload_n S.1 S.2.1 dL_law_465 rfl (lv_at hl 3 rfl) ?_
  refine lv_iload_n S.1 S.2.1 dL_law_466 rfl (lv_at hl 0 rfl) ?_
  refine lv_iconst (v := 1) S.1 S.2.1 dL_law_467 (by decide) ?_
  refine lv_iadd S.1 S.2.1 dL_law_468 ?_
  refine lv_topi (fun x_1 ex_1 => ?_)
  have ex_1 : x_1 = 1 := by rw [ex_1]; decide
  subst ex_1
  refine va_sld S.1 S.2.1 hX hbl hbA hS (by unfold vp_in; decide) dL_law_469 ?_
  refine W.eq (g2 := F0 m 470 ls [.int (sc 1), .ref x]) rfl ?_
  refine lv_aload_n S.1 S.2.1 dL_law_470 rfl (lv_at hl 3 rfl) ?_
  refine lv_iload_n S.1 S.2.1 dL_law_471 rfl (lv_at hl 0 rfl) ?_
  refine lv_iconst (v := 2) S.1 S.2.1 dL_law_472 (by decide) ?_
  refine lv_iadd S.1 S.2.1 dL_law_473 ?_
  refine lv_topi (fun x_2 ex_2 => ?_)
  have ex_2 : x_2 = 2 := by rw [ex_2]; decide
  subst ex_2
  refine va_sld S.1 S.2.1 hX hbl hbA hS (by unfold vp_in; decide) dL_law_474 ?_
  refine W.eq (g2 := F0 m 475 ls [.int (sc 2), .int (sc 1), .ref x]) rfl ?_
  refine b_ai (wr := [(y, .inr (9, [.int 0, .int 0, .ref y_lane, .ref y_many, .ref y_item, .ref y_city, .ref y_fresh, .int 0, .ref y_tape, .int 0, .int 0, .int 0, .int 0, .int 0, .int 0, .int 0, .int 0, .int 0, .int 0, .int 0, .ref y_cost, .ref y_away, .ref y_fee, .ref y_goesTo, .ref y_priceWas, .ref y_isKept, .ref y_kept, .ref y_trace, .int 0])), (y_city, .inl (cI, 192, .inl (fun _ => 0)))]) (b_runV (q0 := 0) (ci := 8) (As := [.int (sc 1), .int (sc 2)]) (c_X8_price l D cI cZ cC cS sq H.size x xs xt xc xd xr xi xv xw xh xm xa aCells aPrices aFree aPlaces aHomes aManners aGone aPaid aBlinks (sc 1) (sc 2)) S gL_law_X8_price rfl hdV_X8_price ⟨Nat.le_of_ble_eq_true rfl, Nat.le_of_ble_eq_true rfl⟩ ⟨Nat.le_of_ble_eq_true rfl, Nat.le_of_ble_eq_true rfl⟩ hK hP hD rfl rfl [0, 1] rfl (by decide) rfl hl.1 rfl (Nat.le_of_ble_eq_true rfl) dL_law_475) hP hD hS hA [0, 1] [2, 3] rfl rfl (by decide) (by decide) (fun r_3 w_4 H locs hw_5 hP hD hS => ?_)
  obtain ⟨rfl, rfl⟩ := hw_5
  have hP : va_P D vwCl [(y, .inr (9, [.int 0, .int 0, .ref y_lane, .ref y_many, .ref y_item, .ref y_city, .ref y_fresh, .int 0, .ref y_tape, .int 0, .int 0, .int 0, .int 0, .int 0, .int 0, .int 0, .int 0, .int 0, .int 0, .int 0, .ref y_cost, .ref y_away, .ref y_fee, .ref y_goesTo, .ref y_priceWas, .ref y_isKept, .ref y_kept, .ref y_trace, .int 0])), (y_city, .inl (cI, 192, .inl (fun _ => 0))), (x, .inr (8, [.ref xs, .ref xt, .ref xc, .ref xd, .ref xr, .ref xi, .ref xv, .ref xw, .ref xh, .ref xm, .ref xa, .int 0, .int 0])), (xc, .inr (1, [.int 0, .int 0, .int 0, .ref aCells, .ref aPrices, .ref aFree, .ref aPlaces, .ref aHomes, .ref aManners, .ref aGone, .ref aPaid, .ref aBlinks]))] H := hP
  have hD : va_D A [(y, .inr (9, [.int 0, .int 0, .ref y_lane, .ref y_many, .ref y_item, .ref y_city, .ref y_fresh, .int 0, .ref y_tape, .int 0, .int 0, .int 0, .int 0, .int 0, .int 0, .int 0, .int 0, .int 0, .int 0, .int 0, .ref y_cost, .ref y_away, .ref y_fee, .ref y_goesTo, .ref y_priceWas, .ref y_isKept, .ref y_kept, .ref y_trace, .int 0])), (y_city, .inl (cI, 192, .inl (fun _ => 0))), (x, .inr (8, [.ref xs, .ref xt, .ref xc, .ref xd, .ref xr, .ref xi, .ref xv, .ref xw, .ref xh, .ref xm, .ref xa, .int 0, .int 0])), (xc, .inr (1, [.int 0, .int 0, .int 0, .ref aCells, .ref aPrices, .ref aFree, .ref aPlaces, .ref aHomes, .ref aManners, .ref aGone, .ref aPaid, .ref aBlinks]))] := hD
  refine lv_aload_n S.1 S.2.1 dL_law_478 rfl (lv_at hl 1 rfl) ?_
  refine lv_aload_n S.1 S.2.1 dL_law_479 rfl (lv_at hl 3 rfl) ?_
  refine lv_iload_n S.1 S.2.1 dL_law_480 rfl (lv_at hl 0 rfl) ?_
  refine lv_iconst (v := 1) S.1 S.2.1 dL_law_481 (by decide) ?_
  refine lv_iadd S.1 S.2.1 dL_law_482 ?_
  refine lv_topi (fun x_6 ex_6 => ?_)
  have ex_6 : x_6 = 1 := by rw [ex_6]; decide
  subst ex_6
  refine va_sld S.1 S.2.1 hX hbl hbA hS (by unfold vp_in; decide) dL_law_483 ?_
  refine W.eq (g2 := F0 m 484 ls [.int (sc 1), .ref y, .int (-1000002)]) rfl ?_
  refine lv_aload_n S.1 S.2.1 dL_law_484 rfl (lv_at hl 3 rfl) ?_
  refine lv_iload_n S.1 S.2.1 dL_law_485 rfl (lv_at hl 0 rfl) ?_
  refine lv_iconst (v := 2) S.1 S.2.1 dL_law_486 (by decide) ?_
  refine lv_iadd S.1 S.2.1 dL_law_487 ?_
  refine lv_topi (fun x_7 ex_7 => ?_)
  have ex_7 : x_7 = 2 := by rw [ex_7]; decide
  subst ex_7
  refine va_sld S.1 S.2.1 hX hbl hbA hS (by unfold vp_in; decide) dL_law_488 ?_
  refine W.eq (g2 := F0 m 489 ls [.int (sc 2), .int (sc 1), .ref y, .int (-1000002)]) rfl ?_
  refine b_ai (wr := [(y_city, .inl (cI, 192, .inl (fun _ => 0))), (x, .inr (8, [.ref xs, .ref xt, .ref xc, .ref xd, .ref xr, .ref xi, .ref xv, .ref xw, .ref xh, .ref xm, .ref xa, .int 0, .int 0])), (xc, .inr (1, [.int 0, .int 0, .int 0, .ref aCells, .ref aPrices, .ref aFree, .ref aPlaces, .ref aHomes, .ref aManners, .ref aGone, .ref aPaid, .ref aBlinks]))]) (b_runV (q0 := 0) (ci := 9) (As := [.int (sc 1), .int (sc 2)]) (c_X9_price l D cI cZ cC cS sq H.size y y_lane y_many y_item y_city y_fresh y_tape y_cost y_away y_fee y_goesTo y_priceWas y_isKept y_kept y_trace (sc 1) (sc 2)) S gL_law_X9_price rfl hdV_X9_price ⟨Nat.le_of_ble_eq_true rfl, Nat.le_of_ble_eq_true rfl⟩ ⟨Nat.le_of_ble_eq_true rfl, Nat.le_of_ble_eq_true rfl⟩ hK hP hD rfl rfl [0] rfl (by decide) rfl hl.1 rfl (Nat.le_of_ble_eq_true rfl) dL_law_489) hP hD hS hA [0] [1, 2, 3] rfl rfl (by decide) (by decide) (fun r_8 w_9 H locs hw_10 hP hD hS => ?_)
  obtain ⟨rfl, rfl⟩ := hw_10
  have hP : va_P D vwCl [(y_city, .inl (cI, 192, .inl (fun _ => 0))), (x, .inr (8, [.ref xs, .ref xt, .ref xc, .ref xd, .ref xr, .ref xi, .ref xv, .ref xw, .ref xh, .ref xm, .ref xa, .int 0, .int 0])), (xc, .inr (1, [.int 0, .int 0, .int 0, .ref aCells, .ref aPrices, .ref aFree, .ref aPlaces, .ref aHomes, .ref aManners, .ref aGone, .ref aPaid, .ref aBlinks]))] H := hP
  have hD : va_D A [(y_city, .inl (cI, 192, .inl (fun _ => 0))), (x, .inr (8, [.ref xs, .ref xt, .ref xc, .ref xd, .ref xr, .ref xi, .ref xv, .ref xw, .ref xh, .ref xm, .ref xa, .int 0, .int 0])), (xc, .inr (1, [.int 0, .int 0, .int 0, .ref aCells, .ref aPrices, .ref aFree, .ref aPlaces, .ref aHomes, .ref aManners, .ref aGone, .ref aPaid, .ref aBlinks]))] := hD
  refine lv_icmp_eq (tgt := 1034) S.1 S.2.1 dL_law_492 (by decide) (fun c_11 => ?_) (fun c_11 => absurd c_11 (by decide))
  exact law_tail C hS (lv_sub hl [0, 3] rfl) (by decide) (by decide)
set_option maxHeartbeats 4000000 in
set_option maxRecDepth 100000 in
theorem law_got {p : Program} (l : Launch) {e : Env} {s : State} {m : MethodId} {below : List Frame} {meth : Method} {c : Code} (D : va_G) (cI cZ cC cS : ClassId) (sq : Nat) {b : Nat} {sc : Nat → Int32} {A : Nat → Prop} (C : lC p s m meth c b sc A) (hK : kW D (tyW cI cZ cC cS) sq s) (x : Nat) (xs : Nat) (xt : Nat) (xc : Nat) (xd : Nat) (xr : Nat) (xi : Nat) (xv : Nat) (xw : Nat) (xh : Nat) (xm : Nat) (xa : Nat) (y : Nat) (y_lane : Nat) (y_many : Nat) (y_item : Nat) (y_city : Nat) (y_fresh : Nat) (y_tape : Nat) (y_cost : Nat) (y_away : Nat) (y_fee : Nat) (y_goesTo : Nat) (y_priceWas : Nat) (y_isKept : Nat) (y_kept : Nat) (y_trace : Nat) (aCells : Nat) (aPrices : Nat) (aFree : Nat) (aPlaces : Nat) (aHomes : Nat) (aManners : Nat) (aGone : Nat) (aPaid : Nat) (aBlinks : Nat) {H : Heap} {locs : List Loc} {ls : Array Slot} (hP : va_P D vwCl [(x, .inr (8, [.ref xs, .ref xt, .ref xc, .ref xd, .ref xr, .ref xi, .ref xv, .ref xw, .ref xh, .ref xm, .ref xa, .int 0, .int 0])), (xc, .inr (1, [.int 0, .int 0, .int 0, .ref aCells, .ref aPrices, .ref aFree, .ref aPlaces, .ref aHomes, .ref aManners, .ref aGone, .ref aPaid, .ref aBlinks])), (y, .inr (9, [.int 0, .int 0, .ref y_lane, .ref y_many, .ref y_item, .ref y_city, .ref y_fresh, .int 0, .ref y_tape, .int 0, .int 0, .int 0, .int 0, .int 0, .int 0, .int 0, .int 0, .int 0, .int 0, .int 0, .ref y_cost, .ref y_away, .ref y_fee, .ref y_goesTo, .ref y_priceWas, .ref y_isKept, .ref y_kept, .ref y_trace, .int 0])), (y_city, .inl (cI, 192, .inl (fun _ => 0)))] H) (hD : va_D A [(x, .inr (8, [.ref xs, .ref xt, .ref xc, .ref xd, .ref xr, .ref xi, .ref xv, .ref xw, .ref xh, .ref xm, .ref xa, .int 0, .int 0])), (xc, .inr (1, [.int 0, .int 0, .int 0, .ref aCells, .ref aPrices, .ref aFree, .ref aPlaces, .ref aHomes, .ref aManners, .ref aGone, .ref aPaid, .ref aBlinks])), (y, .inr (9, [.int 0, .int 0, .ref y_lane, .ref y_many, .ref y_item, .ref y_city, .ref y_fresh, .int 0, .ref y_tape, .int 0, .int 0, .int 0, .int 0, .int 0, .int 0, .int 0, .int 0, .int 0, .int 0, .int 0, .ref y_cost, .ref y_away, .ref y_fee, .ref y_goesTo, .ref y_priceWas, .ref y_isKept, .ref y_kept, .ref y_trace, .int 0])), (y_city, .inl (cI, 192, .inl (fun _ => 0)))]) (hS : va_S A s.heap H locs) (hl : lv_has ls 4 [(3, .int 0), (2, .ref y), (1, .ref x), (0, .ref b)]) : W p l e room_1 s m #[Value.ref b] below meth c H locs 98 12032 (lw_Z below #[Value.ref b] s) (F0 m 616 ls []) := by
  obtain ⟨S, hr_, hk_, hX, hbl, hA, hAf⟩ := id C
  have hbA : ¬ A b := fun z => absurd (hAf b z) (Nat.not_le.mpr hbl)
  refine lv_aload_n S.1 S.2.1 dL_law_616 rfl (lv_at hl 2 rfl) ?_
  refine lv_aload_n S.1 S.2.1 dL_law_617 rfl (lv_at hl 3 rfl) ?_
  refine lv_iload_n S.1 S.2.1 dL_law_618 rfl (lv_at hl 0 rfl) ?_
  refine lv_iconst (v := 1) S.1 S.2.1 dL_law_619 (by decide) ?_
  refine lv_iadd S.1 S.2.1 dL_law_620 ?_
  refine lv_topi (fun x_1 ex_1 => ?_)
  have ex_1 : x_1 = 1 := by rw [ex_1]; decide
  subst ex_1
  refine va_sld S.1 S.2.1 hX hbl hbA hS (by unfold vp_in; decide) dL_law_621 ?_
  refine W.eq (g2 := F0 m 622 ls [.int (sc 1), .ref x]) rfl ?_
  refine b_ai (wr := [(y, .inr (9, [.int 0, .int 0, .ref y_lane, .ref y_many, .ref y_item, .ref y_city, .ref y_fresh, .int 0, .ref y_tape, .int 0, .int 0, .int 0, .int 0, .int 0, .int 0, .int 0, .int 0, .int 0, .int 0, .int 0, .ref y_cost, .ref y_away, .ref y_fee, .ref y_goesTo, .ref y_priceWas, .ref y_isKept, .ref y_kept, .ref y_trace, .int 0])), (y_city, .inl (cI, 192, .inl (fun _ => 0)))]) (b_runV (q0 := 0) (ci := 8) (As := [.int (sc 1)]) (c_X8_got l D cI cZ cC cS sq H.size x xs xt xc xd xr xi xv xw xh xm xa aCells aPrices aFree aPlaces aHomes aManners aGone aPaid aBlinks (sc 1)) S gL_law_X8_got rfl hdV_X8_got ⟨Nat.le_of_ble_eq_true rfl, Nat.le_of_ble_eq_true rfl⟩ ⟨Nat.le_of_ble_eq_true rfl, Nat.le_of_ble_eq_true rfl⟩ hK hP hD rfl rfl [0, 1] rfl (by decide) rfl hl.1 rfl (Nat.le_of_ble_eq_true rfl) dL_law_622) hP hD hS hA [0, 1] [2, 3] rfl rfl (by decide) (by decide) (fun r_2 w_3 H locs hw_4 hP hD hS => ?_)
  obtain ⟨rfl, rfl⟩ := hw_4
  have hP : va_P D vwCl [(y, .inr (9, [.int 0, .int 0, .ref y_lane, .ref y_many, .ref y_item, .ref y_city, .ref y_fresh, .int 0, .ref y_tape, .int 0, .int 0, .int 0, .int 0, .int 0, .int 0, .int 0, .int 0, .int 0, .int 0, .int 0, .ref y_cost, .ref y_away, .ref y_fee, .ref y_goesTo, .ref y_priceWas, .ref y_isKept, .ref y_kept, .ref y_trace, .int 0])), (y_city, .inl (cI, 192, .inl (fun _ => 0))), (x, .inr (8, [.ref xs, .ref xt, .ref xc, .ref xd, .ref xr, .ref xi, .ref xv, .ref xw, .ref xh, .ref xm, .ref xa, .int 0, .int 0])), (xc, .inr (1, [.int 0, .int 0, .int 0, .ref aCells, .ref aPrices, .ref aFree, .ref aPlaces, .ref aHomes, .ref aManners, .ref aGone, .ref aPaid, .ref aBlinks]))] H := hP
  have hD : va_D A [(y, .inr (9, [.int 0, .int 0, .ref y_lane, .ref y_many, .ref y_item, .ref y_city, .ref y_fresh, .int 0, .ref y_tape, .int 0, .int 0, .int 0, .int 0, .int 0, .int 0, .int 0, .int 0, .int 0, .int 0, .int 0, .ref y_cost, .ref y_away, .ref y_fee, .ref y_goesTo, .ref y_priceWas, .ref y_isKept, .ref y_kept, .ref y_trace, .int 0])), (y_city, .inl (cI, 192, .inl (fun _ => 0))), (x, .inr (8, [.ref xs, .ref xt, .ref xc, .ref xd, .ref xr, .ref xi, .ref xv, .ref xw, .ref xh, .ref xm, .ref xa, .int 0, .int 0])), (xc, .inr (1, [.int 0, .int 0, .int 0, .ref aCells, .ref aPrices, .ref aFree, .ref aPlaces, .ref aHomes, .ref aManners, .ref aGone, .ref aPaid, .ref aBlinks]))] := hD
  refine lv_aload_n S.1 S.2.1 dL_law_625 rfl (lv_at hl 1 rfl) ?_
  refine lv_aload_n S.1 S.2.1 dL_law_626 rfl (lv_at hl 3 rfl) ?_
  refine lv_iload_n S.1 S.2.1 dL_law_627 rfl (lv_at hl 0 rfl) ?_
  refine lv_iconst (v := 1) S.1 S.2.1 dL_law_628 (by decide) ?_
  refine lv_iadd S.1 S.2.1 dL_law_629 ?_
  refine lv_topi (fun x_5 ex_5 => ?_)
  have ex_5 : x_5 = 1 := by rw [ex_5]; decide
  subst ex_5
  refine va_sld S.1 S.2.1 hX hbl hbA hS (by unfold vp_in; decide) dL_law_630 ?_
  refine W.eq (g2 := F0 m 631 ls [.int (sc 1), .ref y, .int (-1000002)]) rfl ?_
  refine b_ai (wr := [(y_city, .inl (cI, 192, .inl (fun _ => 0))), (x, .inr (8, [.ref xs, .ref xt, .ref xc, .ref xd, .ref xr, .ref xi, .ref xv, .ref xw, .ref xh, .ref xm, .ref xa, .int 0, .int 0])), (xc, .inr (1, [.int 0, .int 0, .int 0, .ref aCells, .ref aPrices, .ref aFree, .ref aPlaces, .ref aHomes, .ref aManners, .ref aGone, .ref aPaid, .ref aBlinks]))]) (b_runV (q0 := 0) (ci := 9) (As := [.int (sc 1)]) (c_X9_got l D cI cZ cC cS sq H.size y y_lane y_many y_item y_city y_fresh y_tape y_cost y_away y_fee y_goesTo y_priceWas y_isKept y_kept y_trace (sc 1)) S gL_law_X9_got rfl hdV_X9_got ⟨Nat.le_of_ble_eq_true rfl, Nat.le_of_ble_eq_true rfl⟩ ⟨Nat.le_of_ble_eq_true rfl, Nat.le_of_ble_eq_true rfl⟩ hK hP hD rfl rfl [0] rfl (by decide) rfl hl.1 rfl (Nat.le_of_ble_eq_true rfl) dL_law_631) hP hD hS hA [0] [1, 2, 3] rfl rfl (by decide) (by decide) (fun r_6 w_7 H locs hw_8 hP hD hS => ?_)
  obtain ⟨rfl, rfl⟩ := hw_8
  have hP : va_P D vwCl [(y_city, .inl (cI, 192, .inl (fun _ => 0))), (x, .inr (8, [.ref xs, .ref xt, .ref xc, .ref xd, .ref xr, .ref xi, .ref xv, .ref xw, .ref xh, .ref xm, .ref xa, .int 0, .int 0])), (xc, .inr (1, [.int 0, .int 0, .int 0, .ref aCells, .ref aPrices, .ref aFree, .ref aPlaces, .ref aHomes, .ref aManners, .ref aGone, .ref aPaid, .ref aBlinks]))] H := hP
  have hD : va_D A [(y_city, .inl (cI, 192, .inl (fun _ => 0))), (x, .inr (8, [.ref xs, .ref xt, .ref xc, .ref xd, .ref xr, .ref xi, .ref xv, .ref xw, .ref xh, .ref xm, .ref xa, .int 0, .int 0])), (xc, .inr (1, [.int 0, .int 0, .int 0, .ref aCells, .ref aPrices, .ref aFree, .ref aPlaces, .ref aHomes, .ref aManners, .ref aGone, .ref aPaid, .ref aBlinks]))] := hD
  refine lv_icmp_eq (tgt := 1034) S.1 S.2.1 dL_law_634 (by decide) (fun c_9 => ?_) (fun c_9 => absurd c_9 (by decide))
  exact law_tail C hS (lv_sub hl [0, 3] rfl) (by decide) (by decide)
set_option maxHeartbeats 4000000 in
set_option maxRecDepth 100000 in
theorem law_witnesses {p : Program} (l : Launch) {e : Env} {s : State} {m : MethodId} {below : List Frame} {meth : Method} {c : Code} (D : va_G) (cI cZ cC cS : ClassId) (sq : Nat) {b : Nat} {sc : Nat → Int32} {A : Nat → Prop} (C : lC p s m meth c b sc A) (hK : kW D (tyW cI cZ cC cS) sq s) (x : Nat) (xs : Nat) (xt : Nat) (xc : Nat) (xd : Nat) (xr : Nat) (xi : Nat) (xv : Nat) (xw : Nat) (xh : Nat) (xm : Nat) (xa : Nat) (y : Nat) (y_lane : Nat) (y_many : Nat) (y_item : Nat) (y_city : Nat) (y_fresh : Nat) (y_tape : Nat) (y_cost : Nat) (y_away : Nat) (y_fee : Nat) (y_goesTo : Nat) (y_priceWas : Nat) (y_isKept : Nat) (y_kept : Nat) (y_trace : Nat) (aCells : Nat) (aPrices : Nat) (aFree : Nat) (aPlaces : Nat) (aHomes : Nat) (aManners : Nat) (aGone : Nat) (aPaid : Nat) (aBlinks : Nat) {H : Heap} {locs : List Loc} {ls : Array Slot} (hP : va_P D vwCl [(x, .inr (8, [.ref xs, .ref xt, .ref xc, .ref xd, .ref xr, .ref xi, .ref xv, .ref xw, .ref xh, .ref xm, .ref xa, .int 0, .int 0])), (xc, .inr (1, [.int 0, .int 0, .int 0, .ref aCells, .ref aPrices, .ref aFree, .ref aPlaces, .ref aHomes, .ref aManners, .ref aGone, .ref aPaid, .ref aBlinks])), (y, .inr (9, [.int 0, .int 0, .ref y_lane, .ref y_many, .ref y_item, .ref y_city, .ref y_fresh, .int 0, .ref y_tape, .int 0, .int 0, .int 0, .int 0, .int 0, .int 0, .int 0, .int 0, .int 0, .int 0, .int 0, .ref y_cost, .ref y_away, .ref y_fee, .ref y_goesTo, .ref y_priceWas, .ref y_isKept, .ref y_kept, .ref y_trace, .int 0])), (y_city, .inl (cI, 192, .inl (fun _ => 0)))] H) (hD : va_D A [(x, .inr (8, [.ref xs, .ref xt, .ref xc, .ref xd, .ref xr, .ref xi, .ref xv, .ref xw, .ref xh, .ref xm, .ref xa, .int 0, .int 0])), (xc, .inr (1, [.int 0, .int 0, .int 0, .ref aCells, .ref aPrices, .ref aFree, .ref aPlaces, .ref aHomes, .ref aManners, .ref aGone, .ref aPaid, .ref aBlinks])), (y, .inr (9, [.int 0, .int 0, .ref y_lane, .ref y_many, .ref y_item, .ref y_city, .ref y_fresh, .int 0, .ref y_tape, .int 0, .int 0, .int 0, .int 0, .int 0, .int 0, .int 0, .int 0, .int 0, .int 0, .int 0, .ref y_cost, .ref y_away, .ref y_fee, .ref y_goesTo, .ref y_priceWas, .ref y_isKept, .ref y_kept, .ref y_trace, .int 0])), (y_city, .inl (cI, 192, .inl (fun _ => 0)))]) (hS : va_S A s.heap H locs) (hl : lv_has ls 4 [(3, .int 0), (2, .ref y), (1, .ref x), (0, .ref b)]) : W p l e room_1 s m #[Value.ref b] below meth c H locs 98 12032 (lw_Z below #[Value.ref b] s) (F0 m 639 ls []) := by
  obtain ⟨S, hr_, hk_, hX, hbl, hA, hAf⟩ := id C
  have hbA : ¬ A b := fun z => absurd (hAf b z) (Nat.not_le.mpr hbl)
  refine lv_aload_n S.1 S.2.1 dL_law_639 rfl (lv_at hl 2 rfl) ?_
  refine lv_aload_n S.1 S.2.1 dL_law_640 rfl (lv_at hl 3 rfl) ?_
  refine lv_iload_n S.1 S.2.1 dL_law_641 rfl (lv_at hl 0 rfl) ?_
  refine lv_iconst (v := 1) S.1 S.2.1 dL_law_642 (by decide) ?_
  refine lv_iadd S.1 S.2.1 dL_law_643 ?_
  refine lv_topi (fun x_1 ex_1 => ?_)
  have ex_1 : x_1 = 1 := by rw [ex_1]; decide
  subst ex_1
  refine va_sld S.1 S.2.1 hX hbl hbA hS (by unfold vp_in; decide) dL_law_644 ?_
  refine W.eq (g2 := F0 m 645 ls [.int (sc 1), .ref x]) rfl ?_
  refine b_ai (wr := [(y, .inr (9, [.int 0, .int 0, .ref y_lane, .ref y_many, .ref y_item, .ref y_city, .ref y_fresh, .int 0, .ref y_tape, .int 0, .int 0, .int 0, .int 0, .int 0, .int 0, .int 0, .int 0, .int 0, .int 0, .int 0, .ref y_cost, .ref y_away, .ref y_fee, .ref y_goesTo, .ref y_priceWas, .ref y_isKept, .ref y_kept, .ref y_trace, .int 0])), (y_city, .inl (cI, 192, .inl (fun _ => 0)))]) (b_runV (q0 := 0) (ci := 8) (As := [.int (sc 1)]) (c_X8_witnesses l D cI cZ cC cS sq H.size x xs xt xc xd xr xi xv xw xh xm xa aCells aPrices aFree aPlaces aHomes aManners aGone aPaid aBlinks (sc 1)) S gL_law_X8_witnesses rfl hdV_X8_witnesses ⟨Nat.le_of_ble_eq_true rfl, Nat.le_of_ble_eq_true rfl⟩ ⟨Nat.le_of_ble_eq_true rfl, Nat.le_of_ble_eq_true rfl⟩ hK hP hD rfl rfl [0, 1] rfl (by decide) rfl hl.1 rfl (Nat.le_of_ble_eq_true rfl) dL_law_645) hP hD hS hA [0, 1] [2, 3] rfl rfl (by decide) (by decide) (fun r_2 w_3 H locs hw_4 hP hD hS => ?_)
  obtain ⟨rfl, rfl⟩ := hw_4
  have hP : va_P D vwCl [(y, .inr (9, [.int 0, .int 0, .ref y_lane, .ref y_many, .ref y_item, .ref y_city, .ref y_fresh, .int 0, .ref y_tape, .int 0, .int 0, .int 0, .int 0, .int 0, .int 0, .int 0, .int 0, .int 0, .int 0, .int 0, .ref y_cost, .ref y_away, .ref y_fee, .ref y_goesTo, .ref y_priceWas, .ref y_isKept, .ref y_kept, .ref y_trace, .int 0])), (y_city, .inl (cI, 192, .inl (fun _ => 0))), (x, .inr (8, [.ref xs, .ref xt, .ref xc, .ref xd, .ref xr, .ref xi, .ref xv, .ref xw, .ref xh, .ref xm, .ref xa, .int 0, .int 0])), (xc, .inr (1, [.int 0, .int 0, .int 0, .ref aCells, .ref aPrices, .ref aFree, .ref aPlaces, .ref aHomes, .ref aManners, .ref aGone, .ref aPaid, .ref aBlinks]))] H := hP
  have hD : va_D A [(y, .inr (9, [.int 0, .int 0, .ref y_lane, .ref y_many, .ref y_item, .ref y_city, .ref y_fresh, .int 0, .ref y_tape, .int 0, .int 0, .int 0, .int 0, .int 0, .int 0, .int 0, .int 0, .int 0, .int 0, .int 0, .ref y_cost, .ref y_away, .ref y_fee, .ref y_goesTo, .ref y_priceWas, .ref y_isKept, .ref y_kept, .ref y_trace, .int 0])), (y_city, .inl (cI, 192, .inl (fun _ => 0))), (x, .inr (8, [.ref xs, .ref xt, .ref xc, .ref xd, .ref xr, .ref xi, .ref xv, .ref xw, .ref xh, .ref xm, .ref xa, .int 0, .int 0])), (xc, .inr (1, [.int 0, .int 0, .int 0, .ref aCells, .ref aPrices, .ref aFree, .ref aPlaces, .ref aHomes, .ref aManners, .ref aGone, .ref aPaid, .ref aBlinks]))] := hD
  refine lv_aload_n S.1 S.2.1 dL_law_648 rfl (lv_at hl 1 rfl) ?_
  refine lv_aload_n S.1 S.2.1 dL_law_649 rfl (lv_at hl 3 rfl) ?_
  refine lv_iload_n S.1 S.2.1 dL_law_650 rfl (lv_at hl 0 rfl) ?_
  refine lv_iconst (v := 1) S.1 S.2.1 dL_law_651 (by decide) ?_
  refine lv_iadd S.1 S.2.1 dL_law_652 ?_
  refine lv_topi (fun x_5 ex_5 => ?_)
  have ex_5 : x_5 = 1 := by rw [ex_5]; decide
  subst ex_5
  refine va_sld S.1 S.2.1 hX hbl hbA hS (by unfold vp_in; decide) dL_law_653 ?_
  refine W.eq (g2 := F0 m 654 ls [.int (sc 1), .ref y, .int (-1000002)]) rfl ?_
  refine b_ai (wr := [(y_city, .inl (cI, 192, .inl (fun _ => 0))), (x, .inr (8, [.ref xs, .ref xt, .ref xc, .ref xd, .ref xr, .ref xi, .ref xv, .ref xw, .ref xh, .ref xm, .ref xa, .int 0, .int 0])), (xc, .inr (1, [.int 0, .int 0, .int 0, .ref aCells, .ref aPrices, .ref aFree, .ref aPlaces, .ref aHomes, .ref aManners, .ref aGone, .ref aPaid, .ref aBlinks]))]) (b_runV (q0 := 0) (ci := 9) (As := [.int (sc 1)]) (c_X9_witnesses l D cI cZ cC cS sq H.size y y_lane y_many y_item y_city y_fresh y_tape y_cost y_away y_fee y_goesTo y_priceWas y_isKept y_kept y_trace (sc 1)) S gL_law_X9_witnesses rfl hdV_X9_witnesses ⟨Nat.le_of_ble_eq_true rfl, Nat.le_of_ble_eq_true rfl⟩ ⟨Nat.le_of_ble_eq_true rfl, Nat.le_of_ble_eq_true rfl⟩ hK hP hD rfl rfl [0] rfl (by decide) rfl hl.1 rfl (Nat.le_of_ble_eq_true rfl) dL_law_654) hP hD hS hA [0] [1, 2, 3] rfl rfl (by decide) (by decide) (fun r_6 w_7 H locs hw_8 hP hD hS => ?_)
  obtain ⟨rfl, rfl⟩ := hw_8
  have hP : va_P D vwCl [(y_city, .inl (cI, 192, .inl (fun _ => 0))), (x, .inr (8, [.ref xs, .ref xt, .ref xc, .ref xd, .ref xr, .ref xi, .ref xv, .ref xw, .ref xh, .ref xm, .ref xa, .int 0, .int 0])), (xc, .inr (1, [.int 0, .int 0, .int 0, .ref aCells, .ref aPrices, .ref aFree, .ref aPlaces, .ref aHomes, .ref aManners, .ref aGone, .ref aPaid, .ref aBlinks]))] H := hP
  have hD : va_D A [(y_city, .inl (cI, 192, .inl (fun _ => 0))), (x, .inr (8, [.ref xs, .ref xt, .ref xc, .ref xd, .ref xr, .ref xi, .ref xv, .ref xw, .ref xh, .ref xm, .ref xa, .int 0, .int 0])), (xc, .inr (1, [.int 0, .int 0, .int 0, .ref aCells, .ref aPrices, .ref aFree, .ref aPlaces, .ref aHomes, .ref aManners, .ref aGone, .ref aPaid, .ref aBlinks]))] := hD
  refine lv_icmp_eq (tgt := 1034) S.1 S.2.1 dL_law_657 (by decide) (fun c_9 => ?_) (fun c_9 => absurd c_9 (by decide))
  exact law_tail C hS (lv_sub hl [0, 3] rfl) (by decide) (by decide)
set_option maxHeartbeats 4000000 in
set_option maxRecDepth 100000 in
theorem law_beauty {p : Program} (l : Launch) {e : Env} {s : State} {m : MethodId} {below : List Frame} {meth : Method} {c : Code} (D : va_G) (cI cZ cC cS : ClassId) (sq : Nat) {b : Nat} {sc : Nat → Int32} {A : Nat → Prop} (C : lC p s m meth c b sc A) (hK : kW D (tyW cI cZ cC cS) sq s) (x : Nat) (xs : Nat) (xt : Nat) (xc : Nat) (xd : Nat) (xr : Nat) (xi : Nat) (xv : Nat) (xw : Nat) (xh : Nat) (xm : Nat) (xa : Nat) (y : Nat) (y_lane : Nat) (y_many : Nat) (y_item : Nat) (y_city : Nat) (y_fresh : Nat) (y_tape : Nat) (y_cost : Nat) (y_away : Nat) (y_fee : Nat) (y_goesTo : Nat) (y_priceWas : Nat) (y_isKept : Nat) (y_kept : Nat) (y_trace : Nat) (aCells : Nat) (aPrices : Nat) (aFree : Nat) (aPlaces : Nat) (aHomes : Nat) (aManners : Nat) (aGone : Nat) (aPaid : Nat) (aBlinks : Nat) {H : Heap} {locs : List Loc} {ls : Array Slot} (hP : va_P D vwCl [(x, .inr (8, [.ref xs, .ref xt, .ref xc, .ref xd, .ref xr, .ref xi, .ref xv, .ref xw, .ref xh, .ref xm, .ref xa, .int 0, .int 0])), (xc, .inr (1, [.int 0, .int 0, .int 0, .ref aCells, .ref aPrices, .ref aFree, .ref aPlaces, .ref aHomes, .ref aManners, .ref aGone, .ref aPaid, .ref aBlinks])), (y, .inr (9, [.int 0, .int 0, .ref y_lane, .ref y_many, .ref y_item, .ref y_city, .ref y_fresh, .int 0, .ref y_tape, .int 0, .int 0, .int 0, .int 0, .int 0, .int 0, .int 0, .int 0, .int 0, .int 0, .int 0, .ref y_cost, .ref y_away, .ref y_fee, .ref y_goesTo, .ref y_priceWas, .ref y_isKept, .ref y_kept, .ref y_trace, .int 0])), (y_city, .inl (cI, 192, .inl (fun _ => 0)))] H) (hD : va_D A [(x, .inr (8, [.ref xs, .ref xt, .ref xc, .ref xd, .ref xr, .ref xi, .ref xv, .ref xw, .ref xh, .ref xm, .ref xa, .int 0, .int 0])), (xc, .inr (1, [.int 0, .int 0, .int 0, .ref aCells, .ref aPrices, .ref aFree, .ref aPlaces, .ref aHomes, .ref aManners, .ref aGone, .ref aPaid, .ref aBlinks])), (y, .inr (9, [.int 0, .int 0, .ref y_lane, .ref y_many, .ref y_item, .ref y_city, .ref y_fresh, .int 0, .ref y_tape, .int 0, .int 0, .int 0, .int 0, .int 0, .int 0, .int 0, .int 0, .int 0, .int 0, .int 0, .ref y_cost, .ref y_away, .ref y_fee, .ref y_goesTo, .ref y_priceWas, .ref y_isKept, .ref y_kept, .ref y_trace, .int 0])), (y_city, .inl (cI, 192, .inl (fun _ => 0)))]) (hS : va_S A s.heap H locs) (hl : lv_has ls 4 [(3, .int 0), (2, .ref y), (1, .ref x), (0, .ref b)]) : W p l e room_1 s m #[Value.ref b] below meth c H locs 98 12032 (lw_Z below #[Value.ref b] s) (F0 m 728 ls []) := by
  obtain ⟨S, hr_, hk_, hX, hbl, hA, hAf⟩ := id C
  have hbA : ¬ A b := fun z => absurd (hAf b z) (Nat.not_le.mpr hbl)
  refine lv_aload_n S.1 S.2.1 dL_law_728 rfl (lv_at hl 2 rfl) ?_
  refine lv_aload_n S.1 S.2.1 dL_law_729 rfl (lv_at hl 3 rfl) ?_
  refine lv_iload_n S.1 S.2.1 dL_law_730 rfl (lv_at hl 0 rfl) ?_
  refine lv_iconst (v := 1) S.1 S.2.1 dL_law_731 (by decide) ?_
  refine lv_iadd S.1 S.2.1 dL_law_732 ?_
  refine lv_topi (fun x_1 ex_1 => ?_)
  have ex_1 : x_1 = 1 := by rw [ex_1]; decide
  subst ex_1
  refine va_sld S.1 S.2.1 hX hbl hbA hS (by unfold vp_in; decide) dL_law_733 ?_
  refine W.eq (g2 := F0 m 734 ls [.int (sc 1), .ref x]) rfl ?_
  refine b_ai (wr := [(y, .inr (9, [.int 0, .int 0, .ref y_lane, .ref y_many, .ref y_item, .ref y_city, .ref y_fresh, .int 0, .ref y_tape, .int 0, .int 0, .int 0, .int 0, .int 0, .int 0, .int 0, .int 0, .int 0, .int 0, .int 0, .ref y_cost, .ref y_away, .ref y_fee, .ref y_goesTo, .ref y_priceWas, .ref y_isKept, .ref y_kept, .ref y_trace, .int 0])), (y_city, .inl (cI, 192, .inl (fun _ => 0)))]) (b_runV (q0 := 0) (ci := 8) (As := [.int (sc 1)]) (c_X8_beauty l D cI cZ cC cS sq H.size x xs xt xc xd xr xi xv xw xh xm xa aCells aPrices aFree aPlaces aHomes aManners aGone aPaid aBlinks (sc 1)) S gL_law_X8_beauty rfl hdV_X8_beauty ⟨Nat.le_of_ble_eq_true rfl, Nat.le_of_ble_eq_true rfl⟩ ⟨Nat.le_of_ble_eq_true rfl, Nat.le_of_ble_eq_true rfl⟩ hK hP hD rfl rfl [0, 1] rfl (by decide) rfl hl.1 rfl (Nat.le_of_ble_eq_true rfl) dL_law_734) hP hD hS hA [0, 1] [2, 3] rfl rfl (by decide) (by decide) (fun r_2 w_3 H locs hw_4 hP hD hS => ?_)
  obtain ⟨rfl, rfl⟩ := hw_4
  have hP : va_P D vwCl [(y, .inr (9, [.int 0, .int 0, .ref y_lane, .ref y_many, .ref y_item, .ref y_city, .ref y_fresh, .int 0, .ref y_tape, .int 0, .int 0, .int 0, .int 0, .int 0, .int 0, .int 0, .int 0, .int 0, .int 0, .int 0, .ref y_cost, .ref y_away, .ref y_fee, .ref y_goesTo, .ref y_priceWas, .ref y_isKept, .ref y_kept, .ref y_trace, .int 0])), (y_city, .inl (cI, 192, .inl (fun _ => 0))), (x, .inr (8, [.ref xs, .ref xt, .ref xc, .ref xd, .ref xr, .ref xi, .ref xv, .ref xw, .ref xh, .ref xm, .ref xa, .int 0, .int 0])), (xc, .inr (1, [.int 0, .int 0, .int 0, .ref aCells, .ref aPrices, .ref aFree, .ref aPlaces, .ref aHomes, .ref aManners, .ref aGone, .ref aPaid, .ref aBlinks]))] H := hP
  have hD : va_D A [(y, .inr (9, [.int 0, .int 0, .ref y_lane, .ref y_many, .ref y_item, .ref y_city, .ref y_fresh, .int 0, .ref y_tape, .int 0, .int 0, .int 0, .int 0, .int 0, .int 0, .int 0, .int 0, .int 0, .int 0, .int 0, .ref y_cost, .ref y_away, .ref y_fee, .ref y_goesTo, .ref y_priceWas, .ref y_isKept, .ref y_kept, .ref y_trace, .int 0])), (y_city, .inl (cI, 192, .inl (fun _ => 0))), (x, .inr (8, [.ref xs, .ref xt, .ref xc, .ref xd, .ref xr, .ref xi, .ref xv, .ref xw, .ref xh, .ref xm, .ref xa, .int 0, .int 0])), (xc, .inr (1, [.int 0, .int 0, .int 0, .ref aCells, .ref aPrices, .ref aFree, .ref aPlaces, .ref aHomes, .ref aManners, .ref aGone, .ref aPaid, .ref aBlinks]))] := hD
  refine lv_aload_n S.1 S.2.1 dL_law_737 rfl (lv_at hl 1 rfl) ?_
  refine lv_aload_n S.1 S.2.1 dL_law_738 rfl (lv_at hl 3 rfl) ?_
  refine lv_iload_n S.1 S.2.1 dL_law_739 rfl (lv_at hl 0 rfl) ?_
  refine lv_iconst (v := 1) S.1 S.2.1 dL_law_740 (by decide) ?_
  refine lv_iadd S.1 S.2.1 dL_law_741 ?_
  refine lv_topi (fun x_5 ex_5 => ?_)
  have ex_5 : x_5 = 1 := by rw [ex_5]; decide
  subst ex_5
  refine va_sld S.1 S.2.1 hX hbl hbA hS (by unfold vp_in; decide) dL_law_742 ?_
  refine W.eq (g2 := F0 m 743 ls [.int (sc 1), .ref y, .int (-1000002)]) rfl ?_
  refine b_ai (wr := [(y_city, .inl (cI, 192, .inl (fun _ => 0))), (x, .inr (8, [.ref xs, .ref xt, .ref xc, .ref xd, .ref xr, .ref xi, .ref xv, .ref xw, .ref xh, .ref xm, .ref xa, .int 0, .int 0])), (xc, .inr (1, [.int 0, .int 0, .int 0, .ref aCells, .ref aPrices, .ref aFree, .ref aPlaces, .ref aHomes, .ref aManners, .ref aGone, .ref aPaid, .ref aBlinks]))]) (b_runV (q0 := 0) (ci := 9) (As := [.int (sc 1)]) (c_X9_beauty l D cI cZ cC cS sq H.size y y_lane y_many y_item y_city y_fresh y_tape y_cost y_away y_fee y_goesTo y_priceWas y_isKept y_kept y_trace (sc 1)) S gL_law_X9_beauty rfl hdV_X9_beauty ⟨Nat.le_of_ble_eq_true rfl, Nat.le_of_ble_eq_true rfl⟩ ⟨Nat.le_of_ble_eq_true rfl, Nat.le_of_ble_eq_true rfl⟩ hK hP hD rfl rfl [0] rfl (by decide) rfl hl.1 rfl (Nat.le_of_ble_eq_true rfl) dL_law_743) hP hD hS hA [0] [1, 2, 3] rfl rfl (by decide) (by decide) (fun r_6 w_7 H locs hw_8 hP hD hS => ?_)
  obtain ⟨rfl, rfl⟩ := hw_8
  have hP : va_P D vwCl [(y_city, .inl (cI, 192, .inl (fun _ => 0))), (x, .inr (8, [.ref xs, .ref xt, .ref xc, .ref xd, .ref xr, .ref xi, .ref xv, .ref xw, .ref xh, .ref xm, .ref xa, .int 0, .int 0])), (xc, .inr (1, [.int 0, .int 0, .int 0, .ref aCells, .ref aPrices, .ref aFree, .ref aPlaces, .ref aHomes, .ref aManners, .ref aGone, .ref aPaid, .ref aBlinks]))] H := hP
  have hD : va_D A [(y_city, .inl (cI, 192, .inl (fun _ => 0))), (x, .inr (8, [.ref xs, .ref xt, .ref xc, .ref xd, .ref xr, .ref xi, .ref xv, .ref xw, .ref xh, .ref xm, .ref xa, .int 0, .int 0])), (xc, .inr (1, [.int 0, .int 0, .int 0, .ref aCells, .ref aPrices, .ref aFree, .ref aPlaces, .ref aHomes, .ref aManners, .ref aGone, .ref aPaid, .ref aBlinks]))] := hD
  refine lv_icmp_eq (tgt := 1034) S.1 S.2.1 dL_law_746 (by decide) (fun c_9 => ?_) (fun c_9 => absurd c_9 (by decide))
  exact law_tail C hS (lv_sub hl [0, 3] rfl) (by decide) (by decide)
set_option maxHeartbeats 4000000 in
set_option maxRecDepth 100000 in
theorem law_earns {p : Program} (l : Launch) {e : Env} {s : State} {m : MethodId} {below : List Frame} {meth : Method} {c : Code} (D : va_G) (cI cZ cC cS : ClassId) (sq : Nat) {b : Nat} {sc : Nat → Int32} {A : Nat → Prop} (C : lC p s m meth c b sc A) (hK : kW D (tyW cI cZ cC cS) sq s) (x : Nat) (xs : Nat) (xt : Nat) (xc : Nat) (xd : Nat) (xr : Nat) (xi : Nat) (xv : Nat) (xw : Nat) (xh : Nat) (xm : Nat) (xa : Nat) (y : Nat) (y_lane : Nat) (y_many : Nat) (y_item : Nat) (y_city : Nat) (y_fresh : Nat) (y_tape : Nat) (y_cost : Nat) (y_away : Nat) (y_fee : Nat) (y_goesTo : Nat) (y_priceWas : Nat) (y_isKept : Nat) (y_kept : Nat) (y_trace : Nat) (aCells : Nat) (aPrices : Nat) (aFree : Nat) (aPlaces : Nat) (aHomes : Nat) (aManners : Nat) (aGone : Nat) (aPaid : Nat) (aBlinks : Nat) {H : Heap} {locs : List Loc} {ls : Array Slot} (hP : va_P D vwCl [(x, .inr (8, [.ref xs, .ref xt, .ref xc, .ref xd, .ref xr, .ref xi, .ref xv, .ref xw, .ref xh, .ref xm, .ref xa, .int 0, .int 0])), (xc, .inr (1, [.int 0, .int 0, .int 0, .ref aCells, .ref aPrices, .ref aFree, .ref aPlaces, .ref aHomes, .ref aManners, .ref aGone, .ref aPaid, .ref aBlinks])), (y, .inr (9, [.int 0, .int 0, .ref y_lane, .ref y_many, .ref y_item, .ref y_city, .ref y_fresh, .int 0, .ref y_tape, .int 0, .int 0, .int 0, .int 0, .int 0, .int 0, .int 0, .int 0, .int 0, .int 0, .int 0, .ref y_cost, .ref y_away, .ref y_fee, .ref y_goesTo, .ref y_priceWas, .ref y_isKept, .ref y_kept, .ref y_trace, .int 0])), (y_city, .inl (cI, 192, .inl (fun _ => 0)))] H) (hD : va_D A [(x, .inr (8, [.ref xs, .ref xt, .ref xc, .ref xd, .ref xr, .ref xi, .ref xv, .ref xw, .ref xh, .ref xm, .ref xa, .int 0, .int 0])), (xc, .inr (1, [.int 0, .int 0, .int 0, .ref aCells, .ref aPrices, .ref aFree, .ref aPlaces, .ref aHomes, .ref aManners, .ref aGone, .ref aPaid, .ref aBlinks])), (y, .inr (9, [.int 0, .int 0, .ref y_lane, .ref y_many, .ref y_item, .ref y_city, .ref y_fresh, .int 0, .ref y_tape, .int 0, .int 0, .int 0, .int 0, .int 0, .int 0, .int 0, .int 0, .int 0, .int 0, .int 0, .ref y_cost, .ref y_away, .ref y_fee, .ref y_goesTo, .ref y_priceWas, .ref y_isKept, .ref y_kept, .ref y_trace, .int 0])), (y_city, .inl (cI, 192, .inl (fun _ => 0)))]) (hS : va_S A s.heap H locs) (hl : lv_has ls 4 [(3, .int 0), (2, .ref y), (1, .ref x), (0, .ref b)]) : W p l e room_1 s m #[Value.ref b] below meth c H locs 98 12032 (lw_Z below #[Value.ref b] s) (F0 m 751 ls []) := by
  obtain ⟨S, hr_, hk_, hX, hbl, hA, hAf⟩ := id C
  have hbA : ¬ A b := fun z => absurd (hAf b z) (Nat.not_le.mpr hbl)
  refine lv_aload_n S.1 S.2.1 dL_law_751 rfl (lv_at hl 2 rfl) ?_
  refine lv_aload_n S.1 S.2.1 dL_law_752 rfl (lv_at hl 3 rfl) ?_
  refine lv_iload_n S.1 S.2.1 dL_law_753 rfl (lv_at hl 0 rfl) ?_
  refine lv_iconst (v := 1) S.1 S.2.1 dL_law_754 (by decide) ?_
  refine lv_iadd S.1 S.2.1 dL_law_755 ?_
  refine lv_topi (fun x_1 ex_1 => ?_)
  have ex_1 : x_1 = 1 := by rw [ex_1]; decide
  subst ex_1
  refine va_sld S.1 S.2.1 hX hbl hbA hS (by unfold vp_in; decide) dL_law_756 ?_
  refine W.eq (g2 := F0 m 757 ls [.int (sc 1), .ref x]) rfl ?_
  refine lv_aload_n S.1 S.2.1 dL_law_757 rfl (lv_at hl 3 rfl) ?_
  refine lv_iload_n S.1 S.2.1 dL_law_758 rfl (lv_at hl 0 rfl) ?_
  refine lv_iconst (v := 2) S.1 S.2.1 dL_law_759 (by decide) ?_
  refine lv_iadd S.1 S.2.1 dL_law_760 ?_
  refine lv_topi (fun x_2 ex_2 => ?_)
  have ex_2 : x_2 = 2 := by rw [ex_2]; decide
  subst ex_2
  refine va_sld S.1 S.2.1 hX hbl hbA hS (by unfold vp_in; decide) dL_law_761 ?_
  refine W.eq (g2 := F0 m 762 ls [.int (sc 2), .int (sc 1), .ref x]) rfl ?_
  refine b_ai (wr := [(y, .inr (9, [.int 0, .int 0, .ref y_lane, .ref y_many, .ref y_item, .ref y_city, .ref y_fresh, .int 0, .ref y_tape, .int 0, .int 0, .int 0, .int 0, .int 0, .int 0, .int 0, .int 0, .int 0, .int 0, .int 0, .ref y_cost, .ref y_away, .ref y_fee, .ref y_goesTo, .ref y_priceWas, .ref y_isKept, .ref y_kept, .ref y_trace, .int 0])), (y_city, .inl (cI, 192, .inl (fun _ => 0)))]) (b_runV (q0 := 0) (ci := 8) (As := [.int (sc 1), .int (sc 2)]) (c_X8_earns l D cI cZ cC cS sq H.size x xs xt xc xd xr xi xv xw xh xm xa aCells aPrices aFree aPlaces aHomes aManners aGone aPaid aBlinks (sc 1) (sc 2)) S gL_law_X8_earns rfl hdV_X8_earns ⟨Nat.le_of_ble_eq_true rfl, Nat.le_of_ble_eq_true rfl⟩ ⟨Nat.le_of_ble_eq_true rfl, Nat.le_of_ble_eq_true rfl⟩ hK hP hD rfl rfl [0, 1] rfl (by decide) rfl hl.1 rfl (Nat.le_of_ble_eq_true rfl) dL_law_762) hP hD hS hA [0, 1] [2, 3] rfl rfl (by decide) (by decide) (fun r_3 w_4 H locs hw_5 hP hD hS => ?_)
  obtain ⟨rfl, rfl⟩ := hw_5
  have hP : va_P D vwCl [(y, .inr (9, [.int 0, .int 0, .ref y_lane, .ref y_many, .ref y_item, .ref y_city, .ref y_fresh, .int 0, .ref y_tape, .int 0, .int 0, .int 0, .int 0, .int 0, .int 0, .int 0, .int 0, .int 0, .int 0, .int 0, .ref y_cost, .ref y_away, .ref y_fee, .ref y_goesTo, .ref y_priceWas, .ref y_isKept, .ref y_kept, .ref y_trace, .int 0])), (y_city, .inl (cI, 192, .inl (fun _ => 0))), (x, .inr (8, [.ref xs, .ref xt, .ref xc, .ref xd, .ref xr, .ref xi, .ref xv, .ref xw, .ref xh, .ref xm, .ref xa, .int 0, .int 0])), (xc, .inr (1, [.int 0, .int 0, .int 0, .ref aCells, .ref aPrices, .ref aFree, .ref aPlaces, .ref aHomes, .ref aManners, .ref aGone, .ref aPaid, .ref aBlinks]))] H := hP
  have hD : va_D A [(y, .inr (9, [.int 0, .int 0, .ref y_lane, .ref y_many, .ref y_item, .ref y_city, .ref y_fresh, .int 0, .ref y_tape, .int 0, .int 0, .int 0, .int 0, .int 0, .int 0, .int 0, .int 0, .int 0, .int 0, .int 0, .ref y_cost, .ref y_away, .ref y_fee, .ref y_goesTo, .ref y_priceWas, .ref y_isKept, .ref y_kept, .ref y_trace, .int 0])), (y_city, .inl (cI, 192, .inl (fun _ => 0))), (x, .inr (8, [.ref xs, .ref xt, .ref xc, .ref xd, .ref xr, .ref xi, .ref xv, .ref xw, .ref xh, .ref xm, .ref xa, .int 0, .int 0])), (xc, .inr (1, [.int 0, .int 0, .int 0, .ref aCells, .ref aPrices, .ref aFree, .ref aPlaces, .ref aHomes, .ref aManners, .ref aGone, .ref aPaid, .ref aBlinks]))] := hD
  refine lv_aload_n S.1 S.2.1 dL_law_765 rfl (lv_at hl 1 rfl) ?_
  refine lv_aload_n S.1 S.2.1 dL_law_766 rfl (lv_at hl 3 rfl) ?_
  refine lv_iload_n S.1 S.2.1 dL_law_767 rfl (lv_at hl 0 rfl) ?_
  refine lv_iconst (v := 1) S.1 S.2.1 dL_law_768 (by decide) ?_
  refine lv_iadd S.1 S.2.1 dL_law_769 ?_
  refine lv_topi (fun x_6 ex_6 => ?_)
  have ex_6 : x_6 = 1 := by rw [ex_6]; decide
  subst ex_6
  refine va_sld S.1 S.2.1 hX hbl hbA hS (by unfold vp_in; decide) dL_law_770 ?_
  refine W.eq (g2 := F0 m 771 ls [.int (sc 1), .ref y, .int (-1000002)]) rfl ?_
  refine lv_aload_n S.1 S.2.1 dL_law_771 rfl (lv_at hl 3 rfl) ?_
  refine lv_iload_n S.1 S.2.1 dL_law_772 rfl (lv_at hl 0 rfl) ?_
  refine lv_iconst (v := 2) S.1 S.2.1 dL_law_773 (by decide) ?_
  refine lv_iadd S.1 S.2.1 dL_law_774 ?_
  refine lv_topi (fun x_7 ex_7 => ?_)
  have ex_7 : x_7 = 2 := by rw [ex_7]; decide
  subst ex_7
  refine va_sld S.1 S.2.1 hX hbl hbA hS (by unfold vp_in; decide) dL_law_775 ?_
  refine W.eq (g2 := F0 m 776 ls [.int (sc 2), .int (sc 1), .ref y, .int (-1000002)]) rfl ?_
  refine b_ai (wr := [(y_city, .inl (cI, 192, .inl (fun _ => 0))), (x, .inr (8, [.ref xs, .ref xt, .ref xc, .ref xd, .ref xr, .ref xi, .ref xv, .ref xw, .ref xh, .ref xm, .ref xa, .int 0, .int 0])), (xc, .inr (1, [.int 0, .int 0, .int 0, .ref aCells, .ref aPrices, .ref aFree, .ref aPlaces, .ref aHomes, .ref aManners, .ref aGone, .ref aPaid, .ref aBlinks]))]) (b_runV (q0 := 0) (ci := 9) (As := [.int (sc 1), .int (sc 2)]) (c_X9_earns l D cI cZ cC cS sq H.size y y_lane y_many y_item y_city y_fresh y_tape y_cost y_away y_fee y_goesTo y_priceWas y_isKept y_kept y_trace (sc 1) (sc 2)) S gL_law_X9_earns rfl hdV_X9_earns ⟨Nat.le_of_ble_eq_true rfl, Nat.le_of_ble_eq_true rfl⟩ ⟨Nat.le_of_ble_eq_true rfl, Nat.le_of_ble_eq_true rfl⟩ hK hP hD rfl rfl [0] rfl (by decide) rfl hl.1 rfl (Nat.le_of_ble_eq_true rfl) dL_law_776) hP hD hS hA [0] [1, 2, 3] rfl rfl (by decide) (by decide) (fun r_8 w_9 H locs hw_10 hP hD hS => ?_)
  obtain ⟨rfl, rfl⟩ := hw_10
  have hP : va_P D vwCl [(y_city, .inl (cI, 192, .inl (fun _ => 0))), (x, .inr (8, [.ref xs, .ref xt, .ref xc, .ref xd, .ref xr, .ref xi, .ref xv, .ref xw, .ref xh, .ref xm, .ref xa, .int 0, .int 0])), (xc, .inr (1, [.int 0, .int 0, .int 0, .ref aCells, .ref aPrices, .ref aFree, .ref aPlaces, .ref aHomes, .ref aManners, .ref aGone, .ref aPaid, .ref aBlinks]))] H := hP
  have hD : va_D A [(y_city, .inl (cI, 192, .inl (fun _ => 0))), (x, .inr (8, [.ref xs, .ref xt, .ref xc, .ref xd, .ref xr, .ref xi, .ref xv, .ref xw, .ref xh, .ref xm, .ref xa, .int 0, .int 0])), (xc, .inr (1, [.int 0, .int 0, .int 0, .ref aCells, .ref aPrices, .ref aFree, .ref aPlaces, .ref aHomes, .ref aManners, .ref aGone, .ref aPaid, .ref aBlinks]))] := hD
  refine lv_icmp_eq (tgt := 1034) S.1 S.2.1 dL_law_779 (by decide) (fun c_11 => ?_) (fun c_11 => absurd c_11 (by decide))
  exact law_tail C hS (lv_sub hl [0, 3] rfl) (by decide) (by decide)
set_option maxHeartbeats 4000000 in
set_option maxRecDepth 100000 in
theorem law_rivals {p : Program} (l : Launch) {e : Env} {s : State} {m : MethodId} {below : List Frame} {meth : Method} {c : Code} (D : va_G) (cI cZ cC cS : ClassId) (sq : Nat) {b : Nat} {sc : Nat → Int32} {A : Nat → Prop} (C : lC p s m meth c b sc A) (hK : kW D (tyW cI cZ cC cS) sq s) (x : Nat) (xs : Nat) (xt : Nat) (xc : Nat) (xd : Nat) (xr : Nat) (xi : Nat) (xv : Nat) (xw : Nat) (xh : Nat) (xm : Nat) (xa : Nat) (y : Nat) (y_lane : Nat) (y_many : Nat) (y_item : Nat) (y_city : Nat) (y_fresh : Nat) (y_tape : Nat) (y_cost : Nat) (y_away : Nat) (y_fee : Nat) (y_goesTo : Nat) (y_priceWas : Nat) (y_isKept : Nat) (y_kept : Nat) (y_trace : Nat) (aCells : Nat) (aPrices : Nat) (aFree : Nat) (aPlaces : Nat) (aHomes : Nat) (aManners : Nat) (aGone : Nat) (aPaid : Nat) (aBlinks : Nat) {H : Heap} {locs : List Loc} {ls : Array Slot} (hP : va_P D vwCl [(x, .inr (8, [.ref xs, .ref xt, .ref xc, .ref xd, .ref xr, .ref xi, .ref xv, .ref xw, .ref xh, .ref xm, .ref xa, .int 0, .int 0])), (xc, .inr (1, [.int 0, .int 0, .int 0, .ref aCells, .ref aPrices, .ref aFree, .ref aPlaces, .ref aHomes, .ref aManners, .ref aGone, .ref aPaid, .ref aBlinks])), (y, .inr (9, [.int 0, .int 0, .ref y_lane, .ref y_many, .ref y_item, .ref y_city, .ref y_fresh, .int 0, .ref y_tape, .int 0, .int 0, .int 0, .int 0, .int 0, .int 0, .int 0, .int 0, .int 0, .int 0, .int 0, .ref y_cost, .ref y_away, .ref y_fee, .ref y_goesTo, .ref y_priceWas, .ref y_isKept, .ref y_kept, .ref y_trace, .int 0])), (y_city, .inl (cI, 192, .inl (fun _ => 0)))] H) (hD : va_D A [(x, .inr (8, [.ref xs, .ref xt, .ref xc, .ref xd, .ref xr, .ref xi, .ref xv, .ref xw, .ref xh, .ref xm, .ref xa, .int 0, .int 0])), (xc, .inr (1, [.int 0, .int 0, .int 0, .ref aCells, .ref aPrices, .ref aFree, .ref aPlaces, .ref aHomes, .ref aManners, .ref aGone, .ref aPaid, .ref aBlinks])), (y, .inr (9, [.int 0, .int 0, .ref y_lane, .ref y_many, .ref y_item, .ref y_city, .ref y_fresh, .int 0, .ref y_tape, .int 0, .int 0, .int 0, .int 0, .int 0, .int 0, .int 0, .int 0, .int 0, .int 0, .int 0, .ref y_cost, .ref y_away, .ref y_fee, .ref y_goesTo, .ref y_priceWas, .ref y_isKept, .ref y_kept, .ref y_trace, .int 0])), (y_city, .inl (cI, 192, .inl (fun _ => 0)))]) (hS : va_S A s.heap H locs) (hl : lv_has ls 4 [(3, .int 0), (2, .ref y), (1, .ref x), (0, .ref b)]) : W p l e room_1 s m #[Value.ref b] below meth c H locs 98 12032 (lw_Z below #[Value.ref b] s) (F0 m 784 ls []) := by
  obtain ⟨S, hr_, hk_, hX, hbl, hA, hAf⟩ := id C
  have hbA : ¬ A b := fun z => absurd (hAf b z) (Nat.not_le.mpr hbl)
  refine lv_aload_n S.1 S.2.1 dL_law_784 rfl (lv_at hl 2 rfl) ?_
  refine lv_aload_n S.1 S.2.1 dL_law_785 rfl (lv_at hl 3 rfl) ?_
  refine lv_iload_n S.1 S.2.1 dL_law_786 rfl (lv_at hl 0 rfl) ?_
  refine lv_iconst (v := 1) S.1 S.2.1 dL_law_787 (by decide) ?_
  refine lv_iadd S.1 S.2.1 dL_law_788 ?_
  refine lv_topi (fun x_1 ex_1 => ?_)
  have ex_1 : x_1 = 1 := by rw [ex_1]; decide
  subst ex_1
  refine va_sld S.1 S.2.1 hX hbl hbA hS (by unfold vp_in; decide) dL_law_789 ?_
  refine W.eq (g2 := F0 m 790 ls [.int (sc 1), .ref x]) rfl ?_
  refine b_ai (wr := [(y, .inr (9, [.int 0, .int 0, .ref y_lane, .ref y_many, .ref y_item, .ref y_city, .ref y_fresh, .int 0, .ref y_tape, .int 0, .int 0, .int 0, .int 0, .int 0, .int 0, .int 0, .int 0, .int 0, .int 0, .int 0, .ref y_cost, .ref y_away, .ref y_fee, .ref y_goesTo, .ref y_priceWas, .ref y_isKept, .ref y_kept, .ref y_trace, .int 0])), (y_city, .inl (cI, 192, .inl (fun _ => 0)))]) (b_runV (q0 := 0) (ci := 8) (As := [.int (sc 1)]) (c_X8_rivals l D cI cZ cC cS sq H.size x xs xt xc xd xr xi xv xw xh xm xa aCells aPrices aFree aPlaces aHomes aManners aGone aPaid aBlinks (sc 1)) S gL_law_X8_rivals rfl hdV_X8_rivals ⟨Nat.le_of_ble_eq_true rfl, Nat.le_of_ble_eq_true rfl⟩ ⟨Nat.le_of_ble_eq_true rfl, Nat.le_of_ble_eq_true rfl⟩ hK hP hD rfl rfl [0, 1] rfl (by decide) rfl hl.1 rfl (Nat.le_of_ble_eq_true rfl) dL_law_790) hP hD hS hA [0, 1] [2, 3] rfl rfl (by decide) (by decide) (fun r_2 w_3 H locs hw_4 hP hD hS => ?_)
  obtain ⟨rfl, rfl⟩ := hw_4
  have hP : va_P D vwCl [(y, .inr (9, [.int 0, .int 0, .ref y_lane, .ref y_many, .ref y_item, .ref y_city, .ref y_fresh, .int 0, .ref y_tape, .int 0, .int 0, .int 0, .int 0, .int 0, .int 0, .int 0, .int 0, .int 0, .int 0, .int 0, .ref y_cost, .ref y_away, .ref y_fee, .ref y_goesTo, .ref y_priceWas, .ref y_isKept, .ref y_kept, .ref y_trace, .int 0])), (y_city, .inl (cI, 192, .inl (fun _ => 0))), (x, .inr (8, [.ref xs, .ref xt, .ref xc, .ref xd, .ref xr, .ref xi, .ref xv, .ref xw, .ref xh, .ref xm, .ref xa, .int 0, .int 0])), (xc, .inr (1, [.int 0, .int 0, .int 0, .ref aCells, .ref aPrices, .ref aFree, .ref aPlaces, .ref aHomes, .ref aManners, .ref aGone, .ref aPaid, .ref aBlinks]))] H := hP
  have hD : va_D A [(y, .inr (9, [.int 0, .int 0, .ref y_lane, .ref y_many, .ref y_item, .ref y_city, .ref y_fresh, .int 0, .ref y_tape, .int 0, .int 0, .int 0, .int 0, .int 0, .int 0, .int 0, .int 0, .int 0, .int 0, .int 0, .ref y_cost, .ref y_away, .ref y_fee, .ref y_goesTo, .ref y_priceWas, .ref y_isKept, .ref y_kept, .ref y_trace, .int 0])), (y_city, .inl (cI, 192, .inl (fun _ => 0))), (x, .inr (8, [.ref xs, .ref xt, .ref xc, .ref xd, .ref xr, .ref xi, .ref xv, .ref xw, .ref xh, .ref xm, .ref xa, .int 0, .int 0])), (xc, .inr (1, [.int 0, .int 0, .int 0, .ref aCells, .ref aPrices, .ref aFree, .ref aPlaces, .ref aHomes, .ref aManners, .ref aGone, .ref aPaid, .ref aBlinks]))] := hD
  refine lv_aload_n S.1 S.2.1 dL_law_793 rfl (lv_at hl 1 rfl) ?_
  refine lv_aload_n S.1 S.2.1 dL_law_794 rfl (lv_at hl 3 rfl) ?_
  refine lv_iload_n S.1 S.2.1 dL_law_795 rfl (lv_at hl 0 rfl) ?_
  refine lv_iconst (v := 1) S.1 S.2.1 dL_law_796 (by decide) ?_
  refine lv_iadd S.1 S.2.1 dL_law_797 ?_
  refine lv_topi (fun x_5 ex_5 => ?_)
  have ex_5 : x_5 = 1 := by rw [ex_5]; decide
  subst ex_5
  refine va_sld S.1 S.2.1 hX hbl hbA hS (by unfold vp_in; decide) dL_law_798 ?_
  refine W.eq (g2 := F0 m 799 ls [.int (sc 1), .ref y, .int (-1000002)]) rfl ?_
  refine b_ai (wr := [(y_city, .inl (cI, 192, .inl (fun _ => 0))), (x, .inr (8, [.ref xs, .ref xt, .ref xc, .ref xd, .ref xr, .ref xi, .ref xv, .ref xw, .ref xh, .ref xm, .ref xa, .int 0, .int 0])), (xc, .inr (1, [.int 0, .int 0, .int 0, .ref aCells, .ref aPrices, .ref aFree, .ref aPlaces, .ref aHomes, .ref aManners, .ref aGone, .ref aPaid, .ref aBlinks]))]) (b_runV (q0 := 0) (ci := 9) (As := [.int (sc 1)]) (c_X9_rivals l D cI cZ cC cS sq H.size y y_lane y_many y_item y_city y_fresh y_tape y_cost y_away y_fee y_goesTo y_priceWas y_isKept y_kept y_trace (sc 1)) S gL_law_X9_rivals rfl hdV_X9_rivals ⟨Nat.le_of_ble_eq_true rfl, Nat.le_of_ble_eq_true rfl⟩ ⟨Nat.le_of_ble_eq_true rfl, Nat.le_of_ble_eq_true rfl⟩ hK hP hD rfl rfl [0] rfl (by decide) rfl hl.1 rfl (Nat.le_of_ble_eq_true rfl) dL_law_799) hP hD hS hA [0] [1, 2, 3] rfl rfl (by decide) (by decide) (fun r_6 w_7 H locs hw_8 hP hD hS => ?_)
  obtain ⟨rfl, rfl⟩ := hw_8
  have hP : va_P D vwCl [(y_city, .inl (cI, 192, .inl (fun _ => 0))), (x, .inr (8, [.ref xs, .ref xt, .ref xc, .ref xd, .ref xr, .ref xi, .ref xv, .ref xw, .ref xh, .ref xm, .ref xa, .int 0, .int 0])), (xc, .inr (1, [.int 0, .int 0, .int 0, .ref aCells, .ref aPrices, .ref aFree, .ref aPlaces, .ref aHomes, .ref aManners, .ref aGone, .ref aPaid, .ref aBlinks]))] H := hP
  have hD : va_D A [(y_city, .inl (cI, 192, .inl (fun _ => 0))), (x, .inr (8, [.ref xs, .ref xt, .ref xc, .ref xd, .ref xr, .ref xi, .ref xv, .ref xw, .ref xh, .ref xm, .ref xa, .int 0, .int 0])), (xc, .inr (1, [.int 0, .int 0, .int 0, .ref aCells, .ref aPrices, .ref aFree, .ref aPlaces, .ref aHomes, .ref aManners, .ref aGone, .ref aPaid, .ref aBlinks]))] := hD
  refine lv_icmp_eq (tgt := 1034) S.1 S.2.1 dL_law_802 (by decide) (fun c_9 => ?_) (fun c_9 => absurd c_9 (by decide))
  exact law_tail C hS (lv_sub hl [0, 3] rfl) (by decide) (by decide)
set_option maxHeartbeats 4000000 in
set_option maxRecDepth 100000 in
theorem law_step {p : Program} (l : Launch) {e : Env} {s : State} {m : MethodId} {below : List Frame} {meth : Method} {c : Code} (D : va_G) (cI cZ cC cS : ClassId) (sq : Nat) {b : Nat} {sc : Nat → Int32} {A : Nat → Prop} (C : lC p s m meth c b sc A) (hK : kW D (tyW cI cZ cC cS) sq s) (x : Nat) (xs : Nat) (xt : Nat) (xc : Nat) (xd : Nat) (xr : Nat) (xi : Nat) (xv : Nat) (xw : Nat) (xh : Nat) (xm : Nat) (xa : Nat) (y : Nat) (y_lane : Nat) (y_many : Nat) (y_item : Nat) (y_city : Nat) (y_fresh : Nat) (y_tape : Nat) (y_cost : Nat) (y_away : Nat) (y_fee : Nat) (y_goesTo : Nat) (y_priceWas : Nat) (y_isKept : Nat) (y_kept : Nat) (y_trace : Nat) (aCells : Nat) (aPrices : Nat) (aFree : Nat) (aPlaces : Nat) (aHomes : Nat) (aManners : Nat) (aGone : Nat) (aPaid : Nat) (aBlinks : Nat) {H : Heap} {locs : List Loc} {ls : Array Slot} (hP : va_P D vwCl [(x, .inr (8, [.ref xs, .ref xt, .ref xc, .ref xd, .ref xr, .ref xi, .ref xv, .ref xw, .ref xh, .ref xm, .ref xa, .int 0, .int 0])), (xc, .inr (1, [.int 0, .int 0, .int 0, .ref aCells, .ref aPrices, .ref aFree, .ref aPlaces, .ref aHomes, .ref aManners, .ref aGone, .ref aPaid, .ref aBlinks])), (y, .inr (9, [.int 0, .int 0, .ref y_lane, .ref y_many, .ref y_item, .ref y_city, .ref y_fresh, .int 0, .ref y_tape, .int 0, .int 0, .int 0, .int 0, .int 0, .int 0, .int 0, .int 0, .int 0, .int 0, .int 0, .ref y_cost, .ref y_away, .ref y_fee, .ref y_goesTo, .ref y_priceWas, .ref y_isKept, .ref y_kept, .ref y_trace, .int 0])), (y_city, .inl (cI, 192, .inl (fun _ => 0)))] H) (hD : va_D A [(x, .inr (8, [.ref xs, .ref xt, .ref xc, .ref xd, .ref xr, .ref xi, .ref xv, .ref xw, .ref xh, .ref xm, .ref xa, .int 0, .int 0])), (xc, .inr (1, [.int 0, .int 0, .int 0, .ref aCells, .ref aPrices, .ref aFree, .ref aPlaces, .ref aHomes, .ref aManners, .ref aGone, .ref aPaid, .ref aBlinks])), (y, .inr (9, [.int 0, .int 0, .ref y_lane, .ref y_many, .ref y_item, .ref y_city, .ref y_fresh, .int 0, .ref y_tape, .int 0, .int 0, .int 0, .int 0, .int 0, .int 0, .int 0, .int 0, .int 0, .int 0, .int 0, .ref y_cost, .ref y_away, .ref y_fee, .ref y_goesTo, .ref y_priceWas, .ref y_isKept, .ref y_kept, .ref y_trace, .int 0])), (y_city, .inl (cI, 192, .inl (fun _ => 0)))]) (hS : va_S A s.heap H locs) (hl : lv_has ls 4 [(3, .int 0), (2, .ref y), (1, .ref x), (0, .ref b)]) : W p l e room_1 s m #[Value.ref b] below meth c H locs 98 12032 (lw_Z below #[Value.ref b] s) (F0 m 497 ls []) := by
  obtain ⟨S, hr_, hk_, hX, hbl, hA, hAf⟩ := id C
  have hbA : ¬ A b := fun z => absurd (hAf b z) (Nat.not_le.mpr hbl)
  refine lv_aload_n S.1 S.2.1 dL_law_497 rfl (lv_at hl 2 rfl) ?_
  refine lv_aload_n S.1 S.2.1 dL_law_498 rfl (lv_at hl 3 rfl) ?_
  refine lv_iload_n S.1 S.2.1 dL_law_499 rfl (lv_at hl 0 rfl) ?_
  refine lv_iconst (v := 1) S.1 S.2.1 dL_law_500 (by decide) ?_
  refine lv_iadd S.1 S.2.1 dL_law_501 ?_
  refine lv_topi (fun x_1 ex_1 => ?_)
  have ex_1 : x_1 = 1 := by rw [ex_1]; decide
  subst ex_1
  refine va_sld S.1 S.2.1 hX hbl hbA hS (by unfold vp_in; decide) dL_law_502 ?_
  refine W.eq (g2 := F0 m 503 ls [.int (sc 1), .ref x]) rfl ?_
  refine lv_aload_n S.1 S.2.1 dL_law_503 rfl (lv_at hl 3 rfl) ?_
  refine lv_iload_n S.1 S.2.1 dL_law_504 rfl (lv_at hl 0 rfl) ?_
  refine lv_iconst (v := 2) S.1 S.2.1 dL_law_505 (by decide) ?_
  refine lv_iadd S.1 S.2.1 dL_law_506 ?_
  refine lv_topi (fun x_2 ex_2 => ?_)
  have ex_2 : x_2 = 2 := by rw [ex_2]; decide
  subst ex_2
  refine va_sld S.1 S.2.1 hX hbl hbA hS (by unfold vp_in; decide) dL_law_507 ?_
  refine W.eq (g2 := F0 m 508 ls [.int (sc 2), .int (sc 1), .ref x]) rfl ?_
  refine b_ai (wr := [(y, .inr (9, [.int 0, .int 0, .ref y_lane, .ref y_many, .ref y_item, .ref y_city, .ref y_fresh, .int 0, .ref y_tape, .int 0, .int 0, .int 0, .int 0, .int 0, .int 0, .int 0, .int 0, .int 0, .int 0, .int 0, .ref y_cost, .ref y_away, .ref y_fee, .ref y_goesTo, .ref y_priceWas, .ref y_isKept, .ref y_kept, .ref y_trace, .int 0])), (y_city, .inl (cI, 192, .inl (fun _ => 0)))]) (b_runV (q0 := 0) (ci := 8) (As := [.int (sc 1), .int (sc 2)]) (c_X8_step l D cI cZ cC cS sq H.size x xs xt xc xd xr xi xv xw xh xm xa aCells aPrices aFree aPlaces aHomes aManners aGone aPaid aBlinks (sc 1) (sc 2)) S gL_law_X8_step rfl hdV_X8_step ⟨Nat.le_of_ble_eq_true rfl, Nat.le_of_ble_eq_true rfl⟩ ⟨Nat.le_of_ble_eq_true rfl, Nat.le_of_ble_eq_true rfl⟩ hK hP hD rfl rfl [0, 1] rfl (by decide) rfl hl.1 rfl (Nat.le_of_ble_eq_true rfl) dL_law_508) hP hD hS hA [0, 1] [2, 3] rfl rfl (by decide) (by decide) (fun r_3 w_4 H locs hw_5 hP hD hS => ?_)
  obtain ⟨rfl, rfl⟩ := hw_5
  have hP : va_P D vwCl [(y, .inr (9, [.int 0, .int 0, .ref y_lane, .ref y_many, .ref y_item, .ref y_city, .ref y_fresh, .int 0, .ref y_tape, .int 0, .int 0, .int 0, .int 0, .int 0, .int 0, .int 0, .int 0, .int 0, .int 0, .int 0, .ref y_cost, .ref y_away, .ref y_fee, .ref y_goesTo, .ref y_priceWas, .ref y_isKept, .ref y_kept, .ref y_trace, .int 0])), (y_city, .inl (cI, 192, .inl (fun _ => 0))), (x, .inr (8, [.ref xs, .ref xt, .ref xc, .ref xd, .ref xr, .ref xi, .ref xv, .ref xw, .ref xh, .ref xm, .ref xa, .int 0, .int 0])), (xc, .inr (1, [.int 0, .int 0, .int 0, .ref aCells, .ref aPrices, .ref aFree, .ref aPlaces, .ref aHomes, .ref aManners, .ref aGone, .ref aPaid, .ref aBlinks]))] H := hP
  have hD : va_D A [(y, .inr (9, [.int 0, .int 0, .ref y_lane, .ref y_many, .ref y_item, .ref y_city, .ref y_fresh, .int 0, .ref y_tape, .int 0, .int 0, .int 0, .int 0, .int 0, .int 0, .int 0, .int 0, .int 0, .int 0, .int 0, .ref y_cost, .ref y_away, .ref y_fee, .ref y_goesTo, .ref y_priceWas, .ref y_isKept, .ref y_kept, .ref y_trace, .int 0])), (y_city, .inl (cI, 192, .inl (fun _ => 0))), (x, .inr (8, [.ref xs, .ref xt, .ref xc, .ref xd, .ref xr, .ref xi, .ref xv, .ref xw, .ref xh, .ref xm, .ref xa, .int 0, .int 0])), (xc, .inr (1, [.int 0, .int 0, .int 0, .ref aCells, .ref aPrices, .ref aFree, .ref aPlaces, .ref aHomes, .ref aManners, .ref aGone, .ref aPaid, .ref aBlinks]))] := hD
  refine lv_aload_n S.1 S.2.1 dL_law_511 rfl (lv_at hl 1 rfl) ?_
  refine lv_aload_n S.1 S.2.1 dL_law_512 rfl (lv_at hl 3 rfl) ?_
  refine lv_iload_n S.1 S.2.1 dL_law_513 rfl (lv_at hl 0 rfl) ?_
  refine lv_iconst (v := 1) S.1 S.2.1 dL_law_514 (by decide) ?_
  refine lv_iadd S.1 S.2.1 dL_law_515 ?_
  refine lv_topi (fun x_6 ex_6 => ?_)
  have ex_6 : x_6 = 1 := by rw [ex_6]; decide
  subst ex_6
  refine va_sld S.1 S.2.1 hX hbl hbA hS (by unfold vp_in; decide) dL_law_516 ?_
  refine W.eq (g2 := F0 m 517 ls [.int (sc 1), .ref y, .int (-1000001)]) rfl ?_
  refine lv_aload_n S.1 S.2.1 dL_law_517 rfl (lv_at hl 3 rfl) ?_
  refine lv_iload_n S.1 S.2.1 dL_law_518 rfl (lv_at hl 0 rfl) ?_
  refine lv_iconst (v := 2) S.1 S.2.1 dL_law_519 (by decide) ?_
  refine lv_iadd S.1 S.2.1 dL_law_520 ?_
  refine lv_topi (fun x_7 ex_7 => ?_)
  have ex_7 : x_7 = 2 := by rw [ex_7]; decide
  subst ex_7
  refine va_sld S.1 S.2.1 hX hbl hbA hS (by unfold vp_in; decide) dL_law_521 ?_
  refine W.eq (g2 := F0 m 522 ls [.int (sc 2), .int (sc 1), .ref y, .int (-1000001)]) rfl ?_
  refine b_ai (wr := [(x, .inr (8, [.ref xs, .ref xt, .ref xc, .ref xd, .ref xr, .ref xi, .ref xv, .ref xw, .ref xh, .ref xm, .ref xa, .int 0, .int 0])), (xc, .inr (1, [.int 0, .int 0, .int 0, .ref aCells, .ref aPrices, .ref aFree, .ref aPlaces, .ref aHomes, .ref aManners, .ref aGone, .ref aPaid, .ref aBlinks]))]) (b_runV (q0 := 0) (ci := 9) (As := [.int (sc 1), .int (sc 2)]) (c_X9_step l D cI cZ cC cS sq H.size y y_lane y_many y_item y_city y_fresh y_tape y_cost y_away y_fee y_goesTo y_priceWas y_isKept y_kept y_trace (sc 1) (sc 2)) S gL_law_X9_step rfl hdV_X9_step ⟨Nat.le_of_ble_eq_true rfl, Nat.le_of_ble_eq_true rfl⟩ ⟨Nat.le_of_ble_eq_true rfl, Nat.le_of_ble_eq_true rfl⟩ hK hP hD rfl rfl [0, 1] rfl (by decide) rfl hl.1 rfl (Nat.le_of_ble_eq_true rfl) dL_law_522) hP hD hS hA [0, 1] [2, 3] rfl rfl (by decide) (by decide) (fun r_8 w_9 H locs hw_10 hP hD hS => ?_)
  obtain ⟨rfl, rfl⟩ := hw_10
  have hP : va_P D vwCl [(x, .inr (8, [.ref xs, .ref xt, .ref xc, .ref xd, .ref xr, .ref xi, .ref xv, .ref xw, .ref xh, .ref xm, .ref xa, .int 0, .int 0])), (xc, .inr (1, [.int 0, .int 0, .int 0, .ref aCells, .ref aPrices, .ref aFree, .ref aPlaces, .ref aHomes, .ref aManners, .ref aGone, .ref aPaid, .ref aBlinks]))] H := hP
  have hD : va_D A [(x, .inr (8, [.ref xs, .ref xt, .ref xc, .ref xd, .ref xr, .ref xi, .ref xv, .ref xw, .ref xh, .ref xm, .ref xa, .int 0, .int 0])), (xc, .inr (1, [.int 0, .int 0, .int 0, .ref aCells, .ref aPrices, .ref aFree, .ref aPlaces, .ref aHomes, .ref aManners, .ref aGone, .ref aPaid, .ref aBlinks]))] := hD
  refine lv_icmp_eq (tgt := 1034) S.1 S.2.1 dL_law_525 (by decide) (fun c_11 => ?_) (fun c_11 => absurd c_11 (by decide))
  exact law_tail C hS (lv_sub hl [0, 3] rfl) (by decide) (by decide)
set_option maxHeartbeats 4000000 in
set_option maxRecDepth 100000 in
theorem law_walk {p : Program} (l : Launch) {e : Env} {s : State} {m : MethodId} {below : List Frame} {meth : Method} {c : Code} (D : va_G) (cI cZ cC cS : ClassId) (sq : Nat) {b : Nat} {sc : Nat → Int32} {A : Nat → Prop} (C : lC p s m meth c b sc A) (hK : kW D (tyW cI cZ cC cS) sq s) (x : Nat) (xs : Nat) (xt : Nat) (xc : Nat) (xd : Nat) (xr : Nat) (xi : Nat) (xv : Nat) (xw : Nat) (xh : Nat) (xm : Nat) (xa : Nat) (y : Nat) (y_lane : Nat) (y_many : Nat) (y_item : Nat) (y_city : Nat) (y_fresh : Nat) (y_tape : Nat) (y_cost : Nat) (y_away : Nat) (y_fee : Nat) (y_goesTo : Nat) (y_priceWas : Nat) (y_isKept : Nat) (y_kept : Nat) (y_trace : Nat) (aCells : Nat) (aPrices : Nat) (aFree : Nat) (aPlaces : Nat) (aHomes : Nat) (aManners : Nat) (aGone : Nat) (aPaid : Nat) (aBlinks : Nat) {H : Heap} {locs : List Loc} {ls : Array Slot} (hP : va_P D vwCl [(x, .inr (8, [.ref xs, .ref xt, .ref xc, .ref xd, .ref xr, .ref xi, .ref xv, .ref xw, .ref xh, .ref xm, .ref xa, .int 0, .int 0])), (xc, .inr (1, [.int 0, .int 0, .int 0, .ref aCells, .ref aPrices, .ref aFree, .ref aPlaces, .ref aHomes, .ref aManners, .ref aGone, .ref aPaid, .ref aBlinks])), (y, .inr (9, [.int 0, .int 0, .ref y_lane, .ref y_many, .ref y_item, .ref y_city, .ref y_fresh, .int 0, .ref y_tape, .int 0, .int 0, .int 0, .int 0, .int 0, .int 0, .int 0, .int 0, .int 0, .int 0, .int 0, .ref y_cost, .ref y_away, .ref y_fee, .ref y_goesTo, .ref y_priceWas, .ref y_isKept, .ref y_kept, .ref y_trace, .int 0])), (y_city, .inl (cI, 192, .inl (fun _ => 0)))] H) (hD : va_D A [(x, .inr (8, [.ref xs, .ref xt, .ref xc, .ref xd, .ref xr, .ref xi, .ref xv, .ref xw, .ref xh, .ref xm, .ref xa, .int 0, .int 0])), (xc, .inr (1, [.int 0, .int 0, .int 0, .ref aCells, .ref aPrices, .ref aFree, .ref aPlaces, .ref aHomes, .ref aManners, .ref aGone, .ref aPaid, .ref aBlinks])), (y, .inr (9, [.int 0, .int 0, .ref y_lane, .ref y_many, .ref y_item, .ref y_city, .ref y_fresh, .int 0, .ref y_tape, .int 0, .int 0, .int 0, .int 0, .int 0, .int 0, .int 0, .int 0, .int 0, .int 0, .int 0, .ref y_cost, .ref y_away, .ref y_fee, .ref y_goesTo, .ref y_priceWas, .ref y_isKept, .ref y_kept, .ref y_trace, .int 0])), (y_city, .inl (cI, 192, .inl (fun _ => 0)))]) (hS : va_S A s.heap H locs) (hl : lv_has ls 4 [(3, .int 0), (2, .ref y), (1, .ref x), (0, .ref b)]) : W p l e room_1 s m #[Value.ref b] below meth c H locs 98 12032 (lw_Z below #[Value.ref b] s) (F0 m 530 ls []) := by
  obtain ⟨S, hr_, hk_, hX, hbl, hA, hAf⟩ := id C
  have hbA : ¬ A b := fun z => absurd (hAf b z) (Nat.not_le.mpr hbl)
  refine lv_aload_n S.1 S.2.1 dL_law_530 rfl (lv_at hl 2 rfl) ?_
  refine lv_aload_n S.1 S.2.1 dL_law_531 rfl (lv_at hl 3 rfl) ?_
  refine lv_iload_n S.1 S.2.1 dL_law_532 rfl (lv_at hl 0 rfl) ?_
  refine lv_iconst (v := 1) S.1 S.2.1 dL_law_533 (by decide) ?_
  refine lv_iadd S.1 S.2.1 dL_law_534 ?_
  refine lv_topi (fun x_1 ex_1 => ?_)
  have ex_1 : x_1 = 1 := by rw [ex_1]; decide
  subst ex_1
  refine va_sld S.1 S.2.1 hX hbl hbA hS (by unfold vp_in; decide) dL_law_535 ?_
  refine W.eq (g2 := F0 m 536 ls [.int (sc 1), .ref x]) rfl ?_
  refine lv_aload_n S.1 S.2.1 dL_law_536 rfl (lv_at hl 3 rfl) ?_
  refine lv_iload_n S.1 S.2.1 dL_law_537 rfl (lv_at hl 0 rfl) ?_
  refine lv_iconst (v := 2) S.1 S.2.1 dL_law_538 (by decide) ?_
  refine lv_iadd S.1 S.2.1 dL_law_539 ?_
  refine lv_topi (fun x_2 ex_2 => ?_)
  have ex_2 : x_2 = 2 := by rw [ex_2]; decide
  subst ex_2
  refine va_sld S.1 S.2.1 hX hbl hbA hS (by unfold vp_in; decide) dL_law_540 ?_
  refine W.eq (g2 := F0 m 541 ls [.int (sc 2), .int (sc 1), .ref x]) rfl ?_
  refine lv_aload_n S.1 S.2.1 dL_law_541 rfl (lv_at hl 3 rfl) ?_
  refine lv_iload_n S.1 S.2.1 dL_law_542 rfl (lv_at hl 0 rfl) ?_
  refine lv_iconst (v := 3) S.1 S.2.1 dL_law_543 (by decide) ?_
  refine lv_iadd S.1 S.2.1 dL_law_544 ?_
  refine lv_topi (fun x_3 ex_3 => ?_)
  have ex_3 : x_3 = 3 := by rw [ex_3]; decide
  subst ex_3
  refine va_sld S.1 S.2.1 hX hbl hbA hS (by unfold vp_in; decide) dL_law_545 ?_
  refine W.eq (g2 := F0 m 546 ls [.int (sc 3), .int (sc 2), .int (sc 1), .ref x]) rfl ?_
  refine lv_aload_n S.1 S.2.1 dL_law_546 rfl (lv_at hl 3 rfl) ?_
  refine lv_iload_n S.1 S.2.1 dL_law_547 rfl (lv_at hl 0 rfl) ?_
  refine lv_iconst (v := 4) S.1 S.2.1 dL_law_548 (by decide) ?_
  refine lv_iadd S.1 S.2.1 dL_law_549 ?_
  refine lv_topi (fun x_4 ex_4 => ?_)
  have ex_4 : x_4 = 4 := by rw [ex_4]; decide
  subst ex_4
  refine va_sld S.1 S.2.1 hX hbl hbA hS (by unfold vp_in; decide) dL_law_550 ?_
  refine W.eq (g2 := F0 m 551 ls [.int (sc 4), .int (sc 3), .int (sc 2), .int (sc 1), .ref x]) rfl ?_
  refine b_ai (wr := [(y, .inr (9, [.int 0, .int 0, .ref y_lane, .ref y_many, .ref y_item, .ref y_city, .ref y_fresh, .int 0, .ref y_tape, .int 0, .int 0, .int 0, .int 0, .int 0, .int 0, .int 0, .int 0, .int 0, .int 0, .int 0, .ref y_cost, .ref y_away, .ref y_fee, .ref y_goesTo, .ref y_priceWas, .ref y_isKept, .ref y_kept, .ref y_trace, .int 0])), (y_city, .inl (cI, 192, .inl (fun _ => 0)))]) (b_runV (q0 := 0) (ci := 8) (As := [.int (sc 1), .int (sc 2), .int (sc 3), .int (sc 4)]) (c_X8_walk l D cI cZ cC cS sq H.size x xs xt xc xd xr xi xv xw xh xm xa aCells aPrices aFree aPlaces aHomes aManners aGone aPaid aBlinks (sc 1) (sc 2) (sc 3) (sc 4)) S gL_law_X8_walk rfl hdV_X8_walk ⟨Nat.le_of_ble_eq_true rfl, Nat.le_of_ble_eq_true rfl⟩ ⟨Nat.le_of_ble_eq_true rfl, Nat.le_of_ble_eq_true rfl⟩ hK hP hD rfl rfl [0, 1] rfl (by decide) rfl hl.1 rfl (Nat.le_of_ble_eq_true rfl) dL_law_551) hP hD hS hA [0, 1] [2, 3] rfl rfl (by decide) (by decide) (fun r_5 w_6 H locs hw_7 hP hD hS => ?_)
  obtain ⟨rfl, rfl⟩ := hw_7
  have hP : va_P D vwCl [(y, .inr (9, [.int 0, .int 0, .ref y_lane, .ref y_many, .ref y_item, .ref y_city, .ref y_fresh, .int 0, .ref y_tape, .int 0, .int 0, .int 0, .int 0, .int 0, .int 0, .int 0, .int 0, .int 0, .int 0, .int 0, .ref y_cost, .ref y_away, .ref y_fee, .ref y_goesTo, .ref y_priceWas, .ref y_isKept, .ref y_kept, .ref y_trace, .int 0])), (y_city, .inl (cI, 192, .inl (fun _ => 0))), (x, .inr (8, [.ref xs, .ref xt, .ref xc, .ref xd, .ref xr, .ref xi, .ref xv, .ref xw, .ref xh, .ref xm, .ref xa, .int 0, .int 0])), (xc, .inr (1, [.int 0, .int 0, .int 0, .ref aCells, .ref aPrices, .ref aFree, .ref aPlaces, .ref aHomes, .ref aManners, .ref aGone, .ref aPaid, .ref aBlinks]))] H := hP
  have hD : va_D A [(y, .inr (9, [.int 0, .int 0, .ref y_lane, .ref y_many, .ref y_item, .ref y_city, .ref y_fresh, .int 0, .ref y_tape, .int 0, .int 0, .int 0, .int 0, .int 0, .int 0, .int 0, .int 0, .int 0, .int 0, .int 0, .ref y_cost, .ref y_away, .ref y_fee, .ref y_goesTo, .ref y_priceWas, .ref y_isKept, .ref y_kept, .ref y_trace, .int 0])), (y_city, .inl (cI, 192, .inl (fun _ => 0))), (x, .inr (8, [.ref xs, .ref xt, .ref xc, .ref xd, .ref xr, .ref xi, .ref xv, .ref xw, .ref xh, .ref xm, .ref xa, .int 0, .int 0])), (xc, .inr (1, [.int 0, .int 0, .int 0, .ref aCells, .ref aPrices, .ref aFree, .ref aPlaces, .ref aHomes, .ref aManners, .ref aGone, .ref aPaid, .ref aBlinks]))] := hD
  refine lv_aload_n S.1 S.2.1 dL_law_554 rfl (lv_at hl 1 rfl) ?_
  refine lv_aload_n S.1 S.2.1 dL_law_555 rfl (lv_at hl 3 rfl) ?_
  refine lv_iload_n S.1 S.2.1 dL_law_556 rfl (lv_at hl 0 rfl) ?_
  refine lv_iconst (v := 1) S.1 S.2.1 dL_law_557 (by decide) ?_
  refine lv_iadd S.1 S.2.1 dL_law_558 ?_
  refine lv_topi (fun x_8 ex_8 => ?_)
  have ex_8 : x_8 = 1 := by rw [ex_8]; decide
  subst ex_8
  refine va_sld S.1 S.2.1 hX hbl hbA hS (by unfold vp_in; decide) dL_law_559 ?_
  refine W.eq (g2 := F0 m 560 ls [.int (sc 1), .ref y, .int (-1000001)]) rfl ?_
  refine lv_aload_n S.1 S.2.1 dL_law_560 rfl (lv_at hl 3 rfl) ?_
  refine lv_iload_n S.1 S.2.1 dL_law_561 rfl (lv_at hl 0 rfl) ?_
  refine lv_iconst (v := 2) S.1 S.2.1 dL_law_562 (by decide) ?_
  refine lv_iadd S.1 S.2.1 dL_law_563 ?_
  refine lv_topi (fun x_9 ex_9 => ?_)
  have ex_9 : x_9 = 2 := by rw [ex_9]; decide
  subst ex_9
  refine va_sld S.1 S.2.1 hX hbl hbA hS (by unfold vp_in; decide) dL_law_564 ?_
  refine W.eq (g2 := F0 m 565 ls [.int (sc 2), .int (sc 1), .ref y, .int (-1000001)]) rfl ?_
  refine lv_aload_n S.1 S.2.1 dL_law_565 rfl (lv_at hl 3 rfl) ?_
  refine lv_iload_n S.1 S.2.1 dL_law_566 rfl (lv_at hl 0 rfl) ?_
  refine lv_iconst (v := 3) S.1 S.2.1 dL_law_567 (by decide) ?_
  refine lv_iadd S.1 S.2.1 dL_law_568 ?_
  refine lv_topi (fun x_10 ex_10 => ?_)
  have ex_10 : x_10 = 3 := by rw [ex_10]; decide
  subst ex_10
  refine va_sld S.1 S.2.1 hX hbl hbA hS (by unfold vp_in; decide) dL_law_569 ?_
  refine W.eq (g2 := F0 m 570 ls [.int (sc 3), .int (sc 2), .int (sc 1), .ref y, .int (-1000001)]) rfl ?_
  refine lv_aload_n S.1 S.2.1 dL_law_570 rfl (lv_at hl 3 rfl) ?_
  refine lv_iload_n S.1 S.2.1 dL_law_571 rfl (lv_at hl 0 rfl) ?_
  refine lv_iconst (v := 4) S.1 S.2.1 dL_law_572 (by decide) ?_
  refine lv_iadd S.1 S.2.1 dL_law_573 ?_
  refine lv_topi (fun x_11 ex_11 => ?_)
  have ex_11 : x_11 = 4 := by rw [ex_11]; decide
  subst ex_11
  refine va_sld S.1 S.2.1 hX hbl hbA hS (by unfold vp_in; decide) dL_law_574 ?_
  refine W.eq (g2 := F0 m 575 ls [.int (sc 4), .int (sc 3), .int (sc 2), .int (sc 1), .ref y, .int (-1000001)]) rfl ?_
  refine b_ai (wr := [(x, .inr (8, [.ref xs, .ref xt, .ref xc, .ref xd, .ref xr, .ref xi, .ref xv, .ref xw, .ref xh, .ref xm, .ref xa, .int 0, .int 0])), (xc, .inr (1, [.int 0, .int 0, .int 0, .ref aCells, .ref aPrices, .ref aFree, .ref aPlaces, .ref aHomes, .ref aManners, .ref aGone, .ref aPaid, .ref aBlinks]))]) (b_runV (q0 := 0) (ci := 9) (As := [.int (sc 1), .int (sc 2), .int (sc 3), .int (sc 4)]) (c_X9_walk l D cI cZ cC cS sq H.size y y_lane y_many y_item y_city y_fresh y_tape y_cost y_away y_fee y_goesTo y_priceWas y_isKept y_kept y_trace (sc 1) (sc 2) (sc 3) (sc 4)) S gL_law_X9_walk rfl hdV_X9_walk ⟨Nat.le_of_ble_eq_true rfl, Nat.le_of_ble_eq_true rfl⟩ ⟨Nat.le_of_ble_eq_true rfl, Nat.le_of_ble_eq_true rfl⟩ hK hP hD rfl rfl [0, 1] rfl (by decide) rfl hl.1 rfl (Nat.le_of_ble_eq_true rfl) dL_law_575) hP hD hS hA [0, 1] [2, 3] rfl rfl (by decide) (by decide) (fun r_12 w_13 H locs hw_14 hP hD hS => ?_)
  obtain ⟨rfl, rfl⟩ := hw_14
  have hP : va_P D vwCl [(x, .inr (8, [.ref xs, .ref xt, .ref xc, .ref xd, .ref xr, .ref xi, .ref xv, .ref xw, .ref xh, .ref xm, .ref xa, .int 0, .int 0])), (xc, .inr (1, [.int 0, .int 0, .int 0, .ref aCells, .ref aPrices, .ref aFree, .ref aPlaces, .ref aHomes, .ref aManners, .ref aGone, .ref aPaid, .ref aBlinks]))] H := hP
  have hD : va_D A [(x, .inr (8, [.ref xs, .ref xt, .ref xc, .ref xd, .ref xr, .ref xi, .ref xv, .ref xw, .ref xh, .ref xm, .ref xa, .int 0, .int 0])), (xc, .inr (1, [.int 0, .int 0, .int 0, .ref aCells, .ref aPrices, .ref aFree, .ref aPlaces, .ref aHomes, .ref aManners, .ref aGone, .ref aPaid, .ref aBlinks]))] := hD
  refine lv_icmp_eq (tgt := 1034) S.1 S.2.1 dL_law_578 (by decide) (fun c_15 => ?_) (fun c_15 => absurd c_15 (by decide))
  exact law_tail C hS (lv_sub hl [0, 3] rfl) (by decide) (by decide)
set_option maxHeartbeats 4000000 in
set_option maxRecDepth 100000 in
theorem law_person {p : Program} (l : Launch) {e : Env} {s : State} {m : MethodId} {below : List Frame} {meth : Method} {c : Code} (D : va_G) (cI cZ cC cS : ClassId) (sq : Nat) {b : Nat} {sc : Nat → Int32} {A : Nat → Prop} (C : lC p s m meth c b sc A) (hK : kW D (tyW cI cZ cC cS) sq s) (x : Nat) (xs : Nat) (xt : Nat) (xc : Nat) (xd : Nat) (xr : Nat) (xi : Nat) (xv : Nat) (xw : Nat) (xh : Nat) (xm : Nat) (xa : Nat) (y : Nat) (y_lane : Nat) (y_many : Nat) (y_item : Nat) (y_city : Nat) (y_fresh : Nat) (y_tape : Nat) (y_cost : Nat) (y_away : Nat) (y_fee : Nat) (y_goesTo : Nat) (y_priceWas : Nat) (y_isKept : Nat) (y_kept : Nat) (y_trace : Nat) (aCells : Nat) (aPrices : Nat) (aFree : Nat) (aPlaces : Nat) (aHomes : Nat) (aManners : Nat) (aGone : Nat) (aPaid : Nat) (aBlinks : Nat) {H : Heap} {locs : List Loc} {ls : Array Slot} (hP : va_P D vwCl [(x, .inr (8, [.ref xs, .ref xt, .ref xc, .ref xd, .ref xr, .ref xi, .ref xv, .ref xw, .ref xh, .ref xm, .ref xa, .int 0, .int 0])), (xc, .inr (1, [.int 0, .int 0, .int 0, .ref aCells, .ref aPrices, .ref aFree, .ref aPlaces, .ref aHomes, .ref aManners, .ref aGone, .ref aPaid, .ref aBlinks])), (y, .inr (9, [.int 0, .int 0, .ref y_lane, .ref y_many, .ref y_item, .ref y_city, .ref y_fresh, .int 0, .ref y_tape, .int 0, .int 0, .int 0, .int 0, .int 0, .int 0, .int 0, .int 0, .int 0, .int 0, .int 0, .ref y_cost, .ref y_away, .ref y_fee, .ref y_goesTo, .ref y_priceWas, .ref y_isKept, .ref y_kept, .ref y_trace, .int 0])), (y_city, .inl (cI, 192, .inl (fun _ => 0)))] H) (hD : va_D A [(x, .inr (8, [.ref xs, .ref xt, .ref xc, .ref xd, .ref xr, .ref xi, .ref xv, .ref xw, .ref xh, .ref xm, .ref xa, .int 0, .int 0])), (xc, .inr (1, [.int 0, .int 0, .int 0, .ref aCells, .ref aPrices, .ref aFree, .ref aPlaces, .ref aHomes, .ref aManners, .ref aGone, .ref aPaid, .ref aBlinks])), (y, .inr (9, [.int 0, .int 0, .ref y_lane, .ref y_many, .ref y_item, .ref y_city, .ref y_fresh, .int 0, .ref y_tape, .int 0, .int 0, .int 0, .int 0, .int 0, .int 0, .int 0, .int 0, .int 0, .int 0, .int 0, .ref y_cost, .ref y_away, .ref y_fee, .ref y_goesTo, .ref y_priceWas, .ref y_isKept, .ref y_kept, .ref y_trace, .int 0])), (y_city, .inl (cI, 192, .inl (fun _ => 0)))]) (hS : va_S A s.heap H locs) (hl : lv_has ls 4 [(3, .int 0), (2, .ref y), (1, .ref x), (0, .ref b)]) : W p l e room_1 s m #[Value.ref b] below meth c H locs 98 12032 (lw_Z below #[Value.ref b] s) (F0 m 583 ls []) := by
  obtain ⟨S, hr_, hk_, hX, hbl, hA, hAf⟩ := id C
  have hbA : ¬ A b := fun z => absurd (hAf b z) (Nat.not_le.mpr hbl)
  refine lv_aload_n S.1 S.2.1 dL_law_583 rfl (lv_at hl 2 rfl) ?_
  refine lv_aload_n S.1 S.2.1 dL_law_584 rfl (lv_at hl 3 rfl) ?_
  refine lv_iload_n S.1 S.2.1 dL_law_585 rfl (lv_at hl 0 rfl) ?_
  refine lv_iconst (v := 1) S.1 S.2.1 dL_law_586 (by decide) ?_
  refine lv_iadd S.1 S.2.1 dL_law_587 ?_
  refine lv_topi (fun x_1 ex_1 => ?_)
  have ex_1 : x_1 = 1 := by rw [ex_1]; decide
  subst ex_1
  refine va_sld S.1 S.2.1 hX hbl hbA hS (by unfold vp_in; decide) dL_law_588 ?_
  refine W.eq (g2 := F0 m 589 ls [.int (sc 1), .ref x]) rfl ?_
  refine lv_aload_n S.1 S.2.1 dL_law_589 rfl (lv_at hl 3 rfl) ?_
  refine lv_iload_n S.1 S.2.1 dL_law_590 rfl (lv_at hl 0 rfl) ?_
  refine lv_iconst (v := 2) S.1 S.2.1 dL_law_591 (by decide) ?_
  refine lv_iadd S.1 S.2.1 dL_law_592 ?_
  refine lv_topi (fun x_2 ex_2 => ?_)
  have ex_2 : x_2 = 2 := by rw [ex_2]; decide
  subst ex_2
  refine va_sld S.1 S.2.1 hX hbl hbA hS (by unfold vp_in; decide) dL_law_593 ?_
  refine W.eq (g2 := F0 m 594 ls [.int (sc 2), .int (sc 1), .ref x]) rfl ?_
  refine b_ai (wr := [(y, .inr (9, [.int 0, .int 0, .ref y_lane, .ref y_many, .ref y_item, .ref y_city, .ref y_fresh, .int 0, .ref y_tape, .int 0, .int 0, .int 0, .int 0, .int 0, .int 0, .int 0, .int 0, .int 0, .int 0, .int 0, .ref y_cost, .ref y_away, .ref y_fee, .ref y_goesTo, .ref y_priceWas, .ref y_isKept, .ref y_kept, .ref y_trace, .int 0])), (y_city, .inl (cI, 192, .inl (fun _ => 0)))]) (b_runV (q0 := 0) (ci := 8) (As := [.int (sc 1), .int (sc 2)]) (c_X8_person l D cI cZ cC cS sq H.size x xs xt xc xd xr xi xv xw xh xm xa aCells aPrices aFree aPlaces aHomes aManners aGone aPaid aBlinks (sc 1) (sc 2)) S gL_law_X8_person rfl hdV_X8_person ⟨Nat.le_of_ble_eq_true rfl, Nat.le_of_ble_eq_true rfl⟩ ⟨Nat.le_of_ble_eq_true rfl, Nat.le_of_ble_eq_true rfl⟩ hK hP hD rfl rfl [0, 1] rfl (by decide) rfl hl.1 rfl (Nat.le_of_ble_eq_true rfl) dL_law_594) hP hD hS hA [0, 1] [2, 3] rfl rfl (by decide) (by decide) (fun r_3 w_4 H locs hw_5 hP hD hS => ?_)
  obtain ⟨rfl, rfl⟩ := hw_5
  have hP : va_P D vwCl [(y, .inr (9, [.int 0, .int 0, .ref y_lane, .ref y_many, .ref y_item, .ref y_city, .ref y_fresh, .int 0, .ref y_tape, .int 0, .int 0, .int 0, .int 0, .int 0, .int 0, .int 0, .int 0, .int 0, .int 0, .int 0, .ref y_cost, .ref y_away, .ref y_fee, .ref y_goesTo, .ref y_priceWas, .ref y_isKept, .ref y_kept, .ref y_trace, .int 0])), (y_city, .inl (cI, 192, .inl (fun _ => 0))), (x, .inr (8, [.ref xs, .ref xt, .ref xc, .ref xd, .ref xr, .ref xi, .ref xv, .ref xw, .ref xh, .ref xm, .ref xa, .int 0, .int 0])), (xc, .inr (1, [.int 0, .int 0, .int 0, .ref aCells, .ref aPrices, .ref aFree, .ref aPlaces, .ref aHomes, .ref aManners, .ref aGone, .ref aPaid, .ref aBlinks]))] H := hP
  have hD : va_D A [(y, .inr (9, [.int 0, .int 0, .ref y_lane, .ref y_many, .ref y_item, .ref y_city, .ref y_fresh, .int 0, .ref y_tape, .int 0, .int 0, .int 0, .int 0, .int 0, .int 0, .int 0, .int 0, .int 0, .int 0, .int 0, .ref y_cost, .ref y_away, .ref y_fee, .ref y_goesTo, .ref y_priceWas, .ref y_isKept, .ref y_kept, .ref y_trace, .int 0])), (y_city, .inl (cI, 192, .inl (fun _ => 0))), (x, .inr (8, [.ref xs, .ref xt, .ref xc, .ref xd, .ref xr, .ref xi, .ref xv, .ref xw, .ref xh, .ref xm, .ref xa, .int 0, .int 0])), (xc, .inr (1, [.int 0, .int 0, .int 0, .ref aCells, .ref aPrices, .ref aFree, .ref aPlaces, .ref aHomes, .ref aManners, .ref aGone, .ref aPaid, .ref aBlinks]))] := hD
  refine lv_aload_n S.1 S.2.1 dL_law_597 rfl (lv_at hl 1 rfl) ?_
  refine lv_aload_n S.1 S.2.1 dL_law_598 rfl (lv_at hl 3 rfl) ?_
  refine lv_iload_n S.1 S.2.1 dL_law_599 rfl (lv_at hl 0 rfl) ?_
  refine lv_iconst (v := 1) S.1 S.2.1 dL_law_600 (by decide) ?_
  refine lv_iadd S.1 S.2.1 dL_law_601 ?_
  refine lv_topi (fun x_6 ex_6 => ?_)
  have ex_6 : x_6 = 1 := by rw [ex_6]; decide
  subst ex_6
  refine va_sld S.1 S.2.1 hX hbl hbA hS (by unfold vp_in; decide) dL_law_602 ?_
  refine W.eq (g2 := F0 m 603 ls [.int (sc 1), .ref y, .int (-1000001)]) rfl ?_
  refine lv_aload_n S.1 S.2.1 dL_law_603 rfl (lv_at hl 3 rfl) ?_
  refine lv_iload_n S.1 S.2.1 dL_law_604 rfl (lv_at hl 0 rfl) ?_
  refine lv_iconst (v := 2) S.1 S.2.1 dL_law_605 (by decide) ?_
  refine lv_iadd S.1 S.2.1 dL_law_606 ?_
  refine lv_topi (fun x_7 ex_7 => ?_)
  have ex_7 : x_7 = 2 := by rw [ex_7]; decide
  subst ex_7
  refine va_sld S.1 S.2.1 hX hbl hbA hS (by unfold vp_in; decide) dL_law_607 ?_
  refine W.eq (g2 := F0 m 608 ls [.int (sc 2), .int (sc 1), .ref y, .int (-1000001)]) rfl ?_
  refine b_ai (wr := [(x, .inr (8, [.ref xs, .ref xt, .ref xc, .ref xd, .ref xr, .ref xi, .ref xv, .ref xw, .ref xh, .ref xm, .ref xa, .int 0, .int 0])), (xc, .inr (1, [.int 0, .int 0, .int 0, .ref aCells, .ref aPrices, .ref aFree, .ref aPlaces, .ref aHomes, .ref aManners, .ref aGone, .ref aPaid, .ref aBlinks]))]) (b_runV (q0 := 0) (ci := 9) (As := [.int (sc 1), .int (sc 2)]) (c_X9_person l D cI cZ cC cS sq H.size y y_lane y_many y_item y_city y_fresh y_tape y_cost y_away y_fee y_goesTo y_priceWas y_isKept y_kept y_trace (sc 1) (sc 2)) S gL_law_X9_person rfl hdV_X9_person ⟨Nat.le_of_ble_eq_true rfl, Nat.le_of_ble_eq_true rfl⟩ ⟨Nat.le_of_ble_eq_true rfl, Nat.le_of_ble_eq_true rfl⟩ hK hP hD rfl rfl [0, 1] rfl (by decide) rfl hl.1 rfl (Nat.le_of_ble_eq_true rfl) dL_law_608) hP hD hS hA [0, 1] [2, 3] rfl rfl (by decide) (by decide) (fun r_8 w_9 H locs hw_10 hP hD hS => ?_)
  obtain ⟨rfl, rfl⟩ := hw_10
  have hP : va_P D vwCl [(x, .inr (8, [.ref xs, .ref xt, .ref xc, .ref xd, .ref xr, .ref xi, .ref xv, .ref xw, .ref xh, .ref xm, .ref xa, .int 0, .int 0])), (xc, .inr (1, [.int 0, .int 0, .int 0, .ref aCells, .ref aPrices, .ref aFree, .ref aPlaces, .ref aHomes, .ref aManners, .ref aGone, .ref aPaid, .ref aBlinks]))] H := hP
  have hD : va_D A [(x, .inr (8, [.ref xs, .ref xt, .ref xc, .ref xd, .ref xr, .ref xi, .ref xv, .ref xw, .ref xh, .ref xm, .ref xa, .int 0, .int 0])), (xc, .inr (1, [.int 0, .int 0, .int 0, .ref aCells, .ref aPrices, .ref aFree, .ref aPlaces, .ref aHomes, .ref aManners, .ref aGone, .ref aPaid, .ref aBlinks]))] := hD
  refine lv_icmp_eq (tgt := 1034) S.1 S.2.1 dL_law_611 (by decide) (fun c_11 => ?_) (fun c_11 => absurd c_11 (by decide))
  exact law_tail C hS (lv_sub hl [0, 3] rfl) (by decide) (by decide)
set_option maxHeartbeats 4000000 in
set_option maxRecDepth 100000 in
theorem law_home {p : Program} (l : Launch) {e : Env} {s : State} {m : MethodId} {below : List Frame} {meth : Method} {c : Code} (D : va_G) (cI cZ cC cS : ClassId) (sq : Nat) {b : Nat} {sc : Nat → Int32} {A : Nat → Prop} (C : lC p s m meth c b sc A) (hK : kW D (tyW cI cZ cC cS) sq s) (x : Nat) (xs : Nat) (xt : Nat) (xc : Nat) (xd : Nat) (xr : Nat) (xi : Nat) (xv : Nat) (xw : Nat) (xh : Nat) (xm : Nat) (xa : Nat) (y : Nat) (y_lane : Nat) (y_many : Nat) (y_item : Nat) (y_city : Nat) (y_fresh : Nat) (y_tape : Nat) (y_cost : Nat) (y_away : Nat) (y_fee : Nat) (y_goesTo : Nat) (y_priceWas : Nat) (y_isKept : Nat) (y_kept : Nat) (y_trace : Nat) (aCells : Nat) (aPrices : Nat) (aFree : Nat) (aPlaces : Nat) (aHomes : Nat) (aManners : Nat) (aGone : Nat) (aPaid : Nat) (aBlinks : Nat) {H : Heap} {locs : List Loc} {ls : Array Slot} (hP : va_P D vwCl [(x, .inr (8, [.ref xs, .ref xt, .ref xc, .ref xd, .ref xr, .ref xi, .ref xv, .ref xw, .ref xh, .ref xm, .ref xa, .int 0, .int 0])), (xc, .inr (1, [.int 0, .int 0, .int 0, .ref aCells, .ref aPrices, .ref aFree, .ref aPlaces, .ref aHomes, .ref aManners, .ref aGone, .ref aPaid, .ref aBlinks])), (y, .inr (9, [.int 0, .int 0, .ref y_lane, .ref y_many, .ref y_item, .ref y_city, .ref y_fresh, .int 0, .ref y_tape, .int 0, .int 0, .int 0, .int 0, .int 0, .int 0, .int 0, .int 0, .int 0, .int 0, .int 0, .ref y_cost, .ref y_away, .ref y_fee, .ref y_goesTo, .ref y_priceWas, .ref y_isKept, .ref y_kept, .ref y_trace, .int 0])), (y_city, .inl (cI, 192, .inl (fun _ => 0)))] H) (hD : va_D A [(x, .inr (8, [.ref xs, .ref xt, .ref xc, .ref xd, .ref xr, .ref xi, .ref xv, .ref xw, .ref xh, .ref xm, .ref xa, .int 0, .int 0])), (xc, .inr (1, [.int 0, .int 0, .int 0, .ref aCells, .ref aPrices, .ref aFree, .ref aPlaces, .ref aHomes, .ref aManners, .ref aGone, .ref aPaid, .ref aBlinks])), (y, .inr (9, [.int 0, .int 0, .ref y_lane, .ref y_many, .ref y_item, .ref y_city, .ref y_fresh, .int 0, .ref y_tape, .int 0, .int 0, .int 0, .int 0, .int 0, .int 0, .int 0, .int 0, .int 0, .int 0, .int 0, .ref y_cost, .ref y_away, .ref y_fee, .ref y_goesTo, .ref y_priceWas, .ref y_isKept, .ref y_kept, .ref y_trace, .int 0])), (y_city, .inl (cI, 192, .inl (fun _ => 0)))]) (hS : va_S A s.heap H locs) (hl : lv_has ls 4 [(3, .int 0), (2, .ref y), (1, .ref x), (0, .ref b)]) : W p l e room_1 s m #[Value.ref b] below meth c H locs 98 12032 (lw_Z below #[Value.ref b] s) (F0 m 662 ls []) := by
  obtain ⟨S, hr_, hk_, hX, hbl, hA, hAf⟩ := id C
  have hbA : ¬ A b := fun z => absurd (hAf b z) (Nat.not_le.mpr hbl)
  refine lv_aload_n S.1 S.2.1 dL_law_662 rfl (lv_at hl 2 rfl) ?_
  refine lv_aload_n S.1 S.2.1 dL_law_663 rfl (lv_at hl 3 rfl) ?_
  refine lv_iload_n S.1 S.2.1 dL_law_664 rfl (lv_at hl 0 rfl) ?_
  refine lv_iconst (v := 1) S.1 S.2.1 dL_law_665 (by decide) ?_
  refine lv_iadd S.1 S.2.1 dL_law_666 ?_
  refine lv_topi (fun x_1 ex_1 => ?_)
  have ex_1 : x_1 = 1 := by rw [ex_1]; decide
  subst ex_1
  refine va_sld S.1 S.2.1 hX hbl hbA hS (by unfold vp_in; decide) dL_law_667 ?_
  refine W.eq (g2 := F0 m 668 ls [.int (sc 1), .ref x]) rfl ?_
  refine lv_aload_n S.1 S.2.1 dL_law_668 rfl (lv_at hl 3 rfl) ?_
  refine lv_iload_n S.1 S.2.1 dL_law_669 rfl (lv_at hl 0 rfl) ?_
  refine lv_iconst (v := 2) S.1 S.2.1 dL_law_670 (by decide) ?_
  refine lv_iadd S.1 S.2.1 dL_law_671 ?_
  refine lv_topi (fun x_2 ex_2 => ?_)
  have ex_2 : x_2 = 2 := by rw [ex_2]; decide
  subst ex_2
  refine va_sld S.1 S.2.1 hX hbl hbA hS (by unfold vp_in; decide) dL_law_672 ?_
  refine W.eq (g2 := F0 m 673 ls [.int (sc 2), .int (sc 1), .ref x]) rfl ?_
  refine lv_aload_n S.1 S.2.1 dL_law_673 rfl (lv_at hl 3 rfl) ?_
  refine lv_iload_n S.1 S.2.1 dL_law_674 rfl (lv_at hl 0 rfl) ?_
  refine lv_iconst (v := 3) S.1 S.2.1 dL_law_675 (by decide) ?_
  refine lv_iadd S.1 S.2.1 dL_law_676 ?_
  refine lv_topi (fun x_3 ex_3 => ?_)
  have ex_3 : x_3 = 3 := by rw [ex_3]; decide
  subst ex_3
  refine va_sld S.1 S.2.1 hX hbl hbA hS (by unfold vp_in; decide) dL_law_677 ?_
  refine W.eq (g2 := F0 m 678 ls [.int (sc 3), .int (sc 2), .int (sc 1), .ref x]) rfl ?_
  refine b_ai (wr := [(y, .inr (9, [.int 0, .int 0, .ref y_lane, .ref y_many, .ref y_item, .ref y_city, .ref y_fresh, .int 0, .ref y_tape, .int 0, .int 0, .int 0, .int 0, .int 0, .int 0, .int 0, .int 0, .int 0, .int 0, .int 0, .ref y_cost, .ref y_away, .ref y_fee, .ref y_goesTo, .ref y_priceWas, .ref y_isKept, .ref y_kept, .ref y_trace, .int 0])), (y_city, .inl (cI, 192, .inl (fun _ => 0)))]) (b_runV (q0 := 0) (ci := 8) (As := [.int (sc 1), .int (sc 2), .int (sc 3)]) (c_X8_home l D cI cZ cC cS sq H.size x xs xt xc xd xr xi xv xw xh xm xa aCells aPrices aFree aPlaces aHomes aManners aGone aPaid aBlinks (sc 1) (sc 2) (sc 3)) S gL_law_X8_home rfl hdV_X8_home ⟨Nat.le_of_ble_eq_true rfl, Nat.le_of_ble_eq_true rfl⟩ ⟨Nat.le_of_ble_eq_true rfl, Nat.le_of_ble_eq_true rfl⟩ hK hP hD rfl rfl [0, 1] rfl (by decide) rfl hl.1 rfl (Nat.le_of_ble_eq_true rfl) dL_law_678) hP hD hS hA [0, 1] [2, 3] rfl rfl (by decide) (by decide) (fun r_4 w_5 H locs hw_6 hP hD hS => ?_)
  obtain ⟨rfl, rfl⟩ := hw_6
  have hP : va_P D vwCl [(y, .inr (9, [.int 0, .int 0, .ref y_lane, .ref y_many, .ref y_item, .ref y_city, .ref y_fresh, .int 0, .ref y_tape, .int 0, .int 0, .int 0, .int 0, .int 0, .int 0, .int 0, .int 0, .int 0, .int 0, .int 0, .ref y_cost, .ref y_away, .ref y_fee, .ref y_goesTo, .ref y_priceWas, .ref y_isKept, .ref y_kept, .ref y_trace, .int 0])), (y_city, .inl (cI, 192, .inl (fun _ => 0))), (x, .inr (8, [.ref xs, .ref xt, .ref xc, .ref xd, .ref xr, .ref xi, .ref xv, .ref xw, .ref xh, .ref xm, .ref xa, .int 0, .int 0])), (xc, .inr (1, [.int 0, .int 0, .int 0, .ref aCells, .ref aPrices, .ref aFree, .ref aPlaces, .ref aHomes, .ref aManners, .ref aGone, .ref aPaid, .ref aBlinks]))] H := hP
  have hD : va_D A [(y, .inr (9, [.int 0, .int 0, .ref y_lane, .ref y_many, .ref y_item, .ref y_city, .ref y_fresh, .int 0, .ref y_tape, .int 0, .int 0, .int 0, .int 0, .int 0, .int 0, .int 0, .int 0, .int 0, .int 0, .int 0, .ref y_cost, .ref y_away, .ref y_fee, .ref y_goesTo, .ref y_priceWas, .ref y_isKept, .ref y_kept, .ref y_trace, .int 0])), (y_city, .inl (cI, 192, .inl (fun _ => 0))), (x, .inr (8, [.ref xs, .ref xt, .ref xc, .ref xd, .ref xr, .ref xi, .ref xv, .ref xw, .ref xh, .ref xm, .ref xa, .int 0, .int 0])), (xc, .inr (1, [.int 0, .int 0, .int 0, .ref aCells, .ref aPrices, .ref aFree, .ref aPlaces, .ref aHomes, .ref aManners, .ref aGone, .ref aPaid, .ref aBlinks]))] := hD
  refine lv_aload_n S.1 S.2.1 dL_law_681 rfl (lv_at hl 1 rfl) ?_
  refine lv_aload_n S.1 S.2.1 dL_law_682 rfl (lv_at hl 3 rfl) ?_
  refine lv_iload_n S.1 S.2.1 dL_law_683 rfl (lv_at hl 0 rfl) ?_
  refine lv_iconst (v := 1) S.1 S.2.1 dL_law_684 (by decide) ?_
  refine lv_iadd S.1 S.2.1 dL_law_685 ?_
  refine lv_topi (fun x_7 ex_7 => ?_)
  have ex_7 : x_7 = 1 := by rw [ex_7]; decide
  subst ex_7
  refine va_sld S.1 S.2.1 hX hbl hbA hS (by unfold vp_in; decide) dL_law_686 ?_
  refine W.eq (g2 := F0 m 687 ls [.int (sc 1), .ref y, .int (-1000001)]) rfl ?_
  refine lv_aload_n S.1 S.2.1 dL_law_687 rfl (lv_at hl 3 rfl) ?_
  refine lv_iload_n S.1 S.2.1 dL_law_688 rfl (lv_at hl 0 rfl) ?_
  refine lv_iconst (v := 2) S.1 S.2.1 dL_law_689 (by decide) ?_
  refine lv_iadd S.1 S.2.1 dL_law_690 ?_
  refine lv_topi (fun x_8 ex_8 => ?_)
  have ex_8 : x_8 = 2 := by rw [ex_8]; decide
  subst ex_8
  refine va_sld S.1 S.2.1 hX hbl hbA hS (by unfold vp_in; decide) dL_law_691 ?_
  refine W.eq (g2 := F0 m 692 ls [.int (sc 2), .int (sc 1), .ref y, .int (-1000001)]) rfl ?_
  refine lv_aload_n S.1 S.2.1 dL_law_692 rfl (lv_at hl 3 rfl) ?_
  refine lv_iload_n S.1 S.2.1 dL_law_693 rfl (lv_at hl 0 rfl) ?_
  refine lv_iconst (v := 3) S.1 S.2.1 dL_law_694 (by decide) ?_
  refine lv_iadd S.1 S.2.1 dL_law_695 ?_
  refine lv_topi (fun x_9 ex_9 => ?_)
  have ex_9 : x_9 = 3 := by rw [ex_9]; decide
  subst ex_9
  refine va_sld S.1 S.2.1 hX hbl hbA hS (by unfold vp_in; decide) dL_law_696 ?_
  refine W.eq (g2 := F0 m 697 ls [.int (sc 3), .int (sc 2), .int (sc 1), .ref y, .int (-1000001)]) rfl ?_
  refine b_ai (wr := [(x, .inr (8, [.ref xs, .ref xt, .ref xc, .ref xd, .ref xr, .ref xi, .ref xv, .ref xw, .ref xh, .ref xm, .ref xa, .int 0, .int 0])), (xc, .inr (1, [.int 0, .int 0, .int 0, .ref aCells, .ref aPrices, .ref aFree, .ref aPlaces, .ref aHomes, .ref aManners, .ref aGone, .ref aPaid, .ref aBlinks]))]) (b_runV (q0 := 0) (ci := 9) (As := [.int (sc 1), .int (sc 2), .int (sc 3)]) (c_X9_home l D cI cZ cC cS sq H.size y y_lane y_many y_item y_city y_fresh y_tape y_cost y_away y_fee y_goesTo y_priceWas y_isKept y_kept y_trace (sc 1) (sc 2) (sc 3)) S gL_law_X9_home rfl hdV_X9_home ⟨Nat.le_of_ble_eq_true rfl, Nat.le_of_ble_eq_true rfl⟩ ⟨Nat.le_of_ble_eq_true rfl, Nat.le_of_ble_eq_true rfl⟩ hK hP hD rfl rfl [0, 1] rfl (by decide) rfl hl.1 rfl (Nat.le_of_ble_eq_true rfl) dL_law_697) hP hD hS hA [0, 1] [2, 3] rfl rfl (by decide) (by decide) (fun r_10 w_11 H locs hw_12 hP hD hS => ?_)
  obtain ⟨rfl, rfl⟩ := hw_12
  have hP : va_P D vwCl [(x, .inr (8, [.ref xs, .ref xt, .ref xc, .ref xd, .ref xr, .ref xi, .ref xv, .ref xw, .ref xh, .ref xm, .ref xa, .int 0, .int 0])), (xc, .inr (1, [.int 0, .int 0, .int 0, .ref aCells, .ref aPrices, .ref aFree, .ref aPlaces, .ref aHomes, .ref aManners, .ref aGone, .ref aPaid, .ref aBlinks]))] H := hP
  have hD : va_D A [(x, .inr (8, [.ref xs, .ref xt, .ref xc, .ref xd, .ref xr, .ref xi, .ref xv, .ref xw, .ref xh, .ref xm, .ref xa, .int 0, .int 0])), (xc, .inr (1, [.int 0, .int 0, .int 0, .ref aCells, .ref aPrices, .ref aFree, .ref aPlaces, .ref aHomes, .ref aManners, .ref aGone, .ref aPaid, .ref aBlinks]))] := hD
  refine lv_icmp_eq (tgt := 1034) S.1 S.2.1 dL_law_700 (by decide) (fun c_13 => ?_) (fun c_13 => absurd c_13 (by decide))
  exact law_tail C hS (lv_sub hl [0, 3] rfl) (by decide) (by decide)
set_option maxHeartbeats 4000000 in
set_option maxRecDepth 100000 in
theorem law_nothing {p : Program} (l : Launch) {e : Env} {s : State} {m : MethodId} {below : List Frame} {meth : Method} {c : Code} (D : va_G) (cI cZ cC cS : ClassId) (sq : Nat) {b : Nat} {sc : Nat → Int32} {A : Nat → Prop} (C : lC p s m meth c b sc A) (hK : kW D (tyW cI cZ cC cS) sq s) (x : Nat) (xs : Nat) (xt : Nat) (xc : Nat) (xd : Nat) (xr : Nat) (xi : Nat) (xv : Nat) (xw : Nat) (xh : Nat) (xm : Nat) (xa : Nat) (y : Nat) (y_lane : Nat) (y_many : Nat) (y_item : Nat) (y_city : Nat) (y_fresh : Nat) (y_tape : Nat) (y_cost : Nat) (y_away : Nat) (y_fee : Nat) (y_goesTo : Nat) (y_priceWas : Nat) (y_isKept : Nat) (y_kept : Nat) (y_trace : Nat) (aCells : Nat) (aPrices : Nat) (aFree : Nat) (aPlaces : Nat) (aHomes : Nat) (aManners : Nat) (aGone : Nat) (aPaid : Nat) (aBlinks : Nat) {H : Heap} {locs : List Loc} {ls : Array Slot} (hP : va_P D vwCl [(x, .inr (8, [.ref xs, .ref xt, .ref xc, .ref xd, .ref xr, .ref xi, .ref xv, .ref xw, .ref xh, .ref xm, .ref xa, .int 0, .int 0])), (xc, .inr (1, [.int 0, .int 0, .int 0, .ref aCells, .ref aPrices, .ref aFree, .ref aPlaces, .ref aHomes, .ref aManners, .ref aGone, .ref aPaid, .ref aBlinks])), (y, .inr (9, [.int 0, .int 0, .ref y_lane, .ref y_many, .ref y_item, .ref y_city, .ref y_fresh, .int 0, .ref y_tape, .int 0, .int 0, .int 0, .int 0, .int 0, .int 0, .int 0, .int 0, .int 0, .int 0, .int 0, .ref y_cost, .ref y_away, .ref y_fee, .ref y_goesTo, .ref y_priceWas, .ref y_isKept, .ref y_kept, .ref y_trace, .int 0])), (y_city, .inl (cI, 192, .inl (fun _ => 0)))] H) (hD : va_D A [(x, .inr (8, [.ref xs, .ref xt, .ref xc, .ref xd, .ref xr, .ref xi, .ref xv, .ref xw, .ref xh, .ref xm, .ref xa, .int 0, .int 0])), (xc, .inr (1, [.int 0, .int 0, .int 0, .ref aCells, .ref aPrices, .ref aFree, .ref aPlaces, .ref aHomes, .ref aManners, .ref aGone, .ref aPaid, .ref aBlinks])), (y, .inr (9, [.int 0, .int 0, .ref y_lane, .ref y_many, .ref y_item, .ref y_city, .ref y_fresh, .int 0, .ref y_tape, .int 0, .int 0, .int 0, .int 0, .int 0, .int 0, .int 0, .int 0, .int 0, .int 0, .int 0, .ref y_cost, .ref y_away, .ref y_fee, .ref y_goesTo, .ref y_priceWas, .ref y_isKept, .ref y_kept, .ref y_trace, .int 0])), (y_city, .inl (cI, 192, .inl (fun _ => 0)))]) (hS : va_S A s.heap H locs) (hl : lv_has ls 4 [(3, .int 0), (2, .ref y), (1, .ref x), (0, .ref b)]) : W p l e room_1 s m #[Value.ref b] below meth c H locs 98 12032 (lw_Z below #[Value.ref b] s) (F0 m 705 ls []) := by
  obtain ⟨S, hr_, hk_, hX, hbl, hA, hAf⟩ := id C
  have hbA : ¬ A b := fun z => absurd (hAf b z) (Nat.not_le.mpr hbl)
  refine lv_aload_n S.1 S.2.1 dL_law_705 rfl (lv_at hl 2 rfl) ?_
  refine lv_aload_n S.1 S.2.1 dL_law_706 rfl (lv_at hl 3 rfl) ?_
  refine lv_iload_n S.1 S.2.1 dL_law_707 rfl (lv_at hl 0 rfl) ?_
  refine lv_iconst (v := 1) S.1 S.2.1 dL_law_708 (by decide) ?_
  refine lv_iadd S.1 S.2.1 dL_law_709 ?_
  refine lv_topi (fun x_1 ex_1 => ?_)
  have ex_1 : x_1 = 1 := by rw [ex_1]; decide
  subst ex_1
  refine va_sld S.1 S.2.1 hX hbl hbA hS (by unfold vp_in; decide) dL_law_710 ?_
  refine W.eq (g2 := F0 m 711 ls [.int (sc 1), .ref x]) rfl ?_
  refine b_ai (wr := [(y, .inr (9, [.int 0, .int 0, .ref y_lane, .ref y_many, .ref y_item, .ref y_city, .ref y_fresh, .int 0, .ref y_tape, .int 0, .int 0, .int 0, .int 0, .int 0, .int 0, .int 0, .int 0, .int 0, .int 0, .int 0, .ref y_cost, .ref y_away, .ref y_fee, .ref y_goesTo, .ref y_priceWas, .ref y_isKept, .ref y_kept, .ref y_trace, .int 0])), (y_city, .inl (cI, 192, .inl (fun _ => 0)))]) (b_runV (q0 := 0) (ci := 8) (As := [.int (sc 1)]) (c_X8_nothing l D cI cZ cC cS sq H.size x xs xt xc xd xr xi xv xw xh xm xa aCells aPrices aFree aPlaces aHomes aManners aGone aPaid aBlinks (sc 1)) S gL_law_X8_nothing rfl hdV_X8_nothing ⟨Nat.le_of_ble_eq_true rfl, Nat.le_of_ble_eq_true rfl⟩ ⟨Nat.le_of_ble_eq_true rfl, Nat.le_of_ble_eq_true rfl⟩ hK hP hD rfl rfl [0, 1] rfl (by decide) rfl hl.1 rfl (Nat.le_of_ble_eq_true rfl) dL_law_711) hP hD hS hA [0, 1] [2, 3] rfl rfl (by decide) (by decide) (fun r_2 w_3 H locs hw_4 hP hD hS => ?_)
  obtain ⟨rfl, rfl⟩ := hw_4
  have hP : va_P D vwCl [(y, .inr (9, [.int 0, .int 0, .ref y_lane, .ref y_many, .ref y_item, .ref y_city, .ref y_fresh, .int 0, .ref y_tape, .int 0, .int 0, .int 0, .int 0, .int 0, .int 0, .int 0, .int 0, .int 0, .int 0, .int 0, .ref y_cost, .ref y_away, .ref y_fee, .ref y_goesTo, .ref y_priceWas, .ref y_isKept, .ref y_kept, .ref y_trace, .int 0])), (y_city, .inl (cI, 192, .inl (fun _ => 0))), (x, .inr (8, [.ref xs, .ref xt, .ref xc, .ref xd, .ref xr, .ref xi, .ref xv, .ref xw, .ref xh, .ref xm, .ref xa, .int 0, .int 0])), (xc, .inr (1, [.int 0, .int 0, .int 0, .ref aCells, .ref aPrices, .ref aFree, .ref aPlaces, .ref aHomes, .ref aManners, .ref aGone, .ref aPaid, .ref aBlinks]))] H := hP
  have hD : va_D A [(y, .inr (9, [.int 0, .int 0, .ref y_lane, .ref y_many, .ref y_item, .ref y_city, .ref y_fresh, .int 0, .ref y_tape, .int 0, .int 0, .int 0, .int 0, .int 0, .int 0, .int 0, .int 0, .int 0, .int 0, .int 0, .ref y_cost, .ref y_away, .ref y_fee, .ref y_goesTo, .ref y_priceWas, .ref y_isKept, .ref y_kept, .ref y_trace, .int 0])), (y_city, .inl (cI, 192, .inl (fun _ => 0))), (x, .inr (8, [.ref xs, .ref xt, .ref xc, .ref xd, .ref xr, .ref xi, .ref xv, .ref xw, .ref xh, .ref xm, .ref xa, .int 0, .int 0])), (xc, .inr (1, [.int 0, .int 0, .int 0, .ref aCells, .ref aPrices, .ref aFree, .ref aPlaces, .ref aHomes, .ref aManners, .ref aGone, .ref aPaid, .ref aBlinks]))] := hD
  refine lv_aload_n S.1 S.2.1 dL_law_714 rfl (lv_at hl 1 rfl) ?_
  refine lv_aload_n S.1 S.2.1 dL_law_715 rfl (lv_at hl 3 rfl) ?_
  refine lv_iload_n S.1 S.2.1 dL_law_716 rfl (lv_at hl 0 rfl) ?_
  refine lv_iconst (v := 1) S.1 S.2.1 dL_law_717 (by decide) ?_
  refine lv_iadd S.1 S.2.1 dL_law_718 ?_
  refine lv_topi (fun x_5 ex_5 => ?_)
  have ex_5 : x_5 = 1 := by rw [ex_5]; decide
  subst ex_5
  refine va_sld S.1 S.2.1 hX hbl hbA hS (by unfold vp_in; decide) dL_law_719 ?_
  refine W.eq (g2 := F0 m 720 ls [.int (sc 1), .ref y, .int (-1000001)]) rfl ?_
  refine b_ai (wr := [(x, .inr (8, [.ref xs, .ref xt, .ref xc, .ref xd, .ref xr, .ref xi, .ref xv, .ref xw, .ref xh, .ref xm, .ref xa, .int 0, .int 0])), (xc, .inr (1, [.int 0, .int 0, .int 0, .ref aCells, .ref aPrices, .ref aFree, .ref aPlaces, .ref aHomes, .ref aManners, .ref aGone, .ref aPaid, .ref aBlinks]))]) (b_runV (q0 := 0) (ci := 9) (As := [.int (sc 1)]) (c_X9_nothing l D cI cZ cC cS sq H.size y y_lane y_many y_item y_city y_fresh y_tape y_cost y_away y_fee y_goesTo y_priceWas y_isKept y_kept y_trace (sc 1)) S gL_law_X9_nothing rfl hdV_X9_nothing ⟨Nat.le_of_ble_eq_true rfl, Nat.le_of_ble_eq_true rfl⟩ ⟨Nat.le_of_ble_eq_true rfl, Nat.le_of_ble_eq_true rfl⟩ hK hP hD rfl rfl [0, 1] rfl (by decide) rfl hl.1 rfl (Nat.le_of_ble_eq_true rfl) dL_law_720) hP hD hS hA [0, 1] [2, 3] rfl rfl (by decide) (by decide) (fun r_6 w_7 H locs hw_8 hP hD hS => ?_)
  obtain ⟨rfl, rfl⟩ := hw_8
  have hP : va_P D vwCl [(x, .inr (8, [.ref xs, .ref xt, .ref xc, .ref xd, .ref xr, .ref xi, .ref xv, .ref xw, .ref xh, .ref xm, .ref xa, .int 0, .int 0])), (xc, .inr (1, [.int 0, .int 0, .int 0, .ref aCells, .ref aPrices, .ref aFree, .ref aPlaces, .ref aHomes, .ref aManners, .ref aGone, .ref aPaid, .ref aBlinks]))] H := hP
  have hD : va_D A [(x, .inr (8, [.ref xs, .ref xt, .ref xc, .ref xd, .ref xr, .ref xi, .ref xv, .ref xw, .ref xh, .ref xm, .ref xa, .int 0, .int 0])), (xc, .inr (1, [.int 0, .int 0, .int 0, .ref aCells, .ref aPrices, .ref aFree, .ref aPlaces, .ref aHomes, .ref aManners, .ref aGone, .ref aPaid, .ref aBlinks]))] := hD
  refine lv_icmp_eq (tgt := 1034) S.1 S.2.1 dL_law_723 (by decide) (fun c_9 => ?_) (fun c_9 => absurd c_9 (by decide))
  exact law_tail C hS (lv_sub hl [0, 3] rfl) (by decide) (by decide)
set_option maxHeartbeats 4000000 in
set_option maxRecDepth 100000 in
theorem law_look {p : Program} (l : Launch) {e : Env} {s : State} {m : MethodId} {below : List Frame} {meth : Method} {c : Code} (D : va_G) (cI cZ cC cS : ClassId) (sq : Nat) {b : Nat} {sc : Nat → Int32} {A : Nat → Prop} (C : lC p s m meth c b sc A) (hK : kW D (tyW cI cZ cC cS) sq s) (x : Nat) (xs : Nat) (xt : Nat) (xc : Nat) (xd : Nat) (xr : Nat) (xi : Nat) (xv : Nat) (xw : Nat) (xh : Nat) (xm : Nat) (xa : Nat) (y : Nat) (y_lane : Nat) (y_many : Nat) (y_item : Nat) (y_city : Nat) (y_fresh : Nat) (y_tape : Nat) (y_cost : Nat) (y_away : Nat) (y_fee : Nat) (y_goesTo : Nat) (y_priceWas : Nat) (y_isKept : Nat) (y_kept : Nat) (y_trace : Nat) (aCells : Nat) (aPrices : Nat) (aFree : Nat) (aPlaces : Nat) (aHomes : Nat) (aManners : Nat) (aGone : Nat) (aPaid : Nat) (aBlinks : Nat) {H : Heap} {locs : List Loc} {ls : Array Slot} (hP : va_P D vwCl [(x, .inr (8, [.ref xs, .ref xt, .ref xc, .ref xd, .ref xr, .ref xi, .ref xv, .ref xw, .ref xh, .ref xm, .ref xa, .int 0, .int 0])), (xc, .inr (1, [.int 0, .int 0, .int 0, .ref aCells, .ref aPrices, .ref aFree, .ref aPlaces, .ref aHomes, .ref aManners, .ref aGone, .ref aPaid, .ref aBlinks])), (y, .inr (9, [.int 0, .int 0, .ref y_lane, .ref y_many, .ref y_item, .ref y_city, .ref y_fresh, .int 0, .ref y_tape, .int 0, .int 0, .int 0, .int 0, .int 0, .int 0, .int 0, .int 0, .int 0, .int 0, .int 0, .ref y_cost, .ref y_away, .ref y_fee, .ref y_goesTo, .ref y_priceWas, .ref y_isKept, .ref y_kept, .ref y_trace, .int 0])), (y_city, .inl (cI, 192, .inl (fun _ => 0)))] H) (hD : va_D A [(x, .inr (8, [.ref xs, .ref xt, .ref xc, .ref xd, .ref xr, .ref xi, .ref xv, .ref xw, .ref xh, .ref xm, .ref xa, .int 0, .int 0])), (xc, .inr (1, [.int 0, .int 0, .int 0, .ref aCells, .ref aPrices, .ref aFree, .ref aPlaces, .ref aHomes, .ref aManners, .ref aGone, .ref aPaid, .ref aBlinks])), (y, .inr (9, [.int 0, .int 0, .ref y_lane, .ref y_many, .ref y_item, .ref y_city, .ref y_fresh, .int 0, .ref y_tape, .int 0, .int 0, .int 0, .int 0, .int 0, .int 0, .int 0, .int 0, .int 0, .int 0, .int 0, .ref y_cost, .ref y_away, .ref y_fee, .ref y_goesTo, .ref y_priceWas, .ref y_isKept, .ref y_kept, .ref y_trace, .int 0])), (y_city, .inl (cI, 192, .inl (fun _ => 0)))]) (hS : va_S A s.heap H locs) (hl : lv_has ls 4 [(3, .int 0), (2, .ref y), (1, .ref x), (0, .ref b)]) : W p l e room_1 s m #[Value.ref b] below meth c H locs 98 12032 (lw_Z below #[Value.ref b] s) (F0 m 421 ls []) := by
  obtain ⟨S, hr_, hk_, hX, hbl, hA, hAf⟩ := id C
  have hbA : ¬ A b := fun z => absurd (hAf b z) (Nat.not_le.mpr hbl)
  refine lv_aload_n S.1 S.2.1 dL_law_421 rfl (lv_at hl 2 rfl) ?_
  refine lv_aload_n S.1 S.2.1 dL_law_422 rfl (lv_at hl 3 rfl) ?_
  refine lv_iload_n S.1 S.2.1 dL_law_423 rfl (lv_at hl 0 rfl) ?_
  refine lv_iconst (v := 1) S.1 S.2.1 dL_law_424 (by decide) ?_
  refine lv_iadd S.1 S.2.1 dL_law_425 ?_
  refine lv_topi (fun x_1 ex_1 => ?_)
  have ex_1 : x_1 = 1 := by rw [ex_1]; decide
  subst ex_1
  refine va_sld S.1 S.2.1 hX hbl hbA hS (by unfold vp_in; decide) dL_law_426 ?_
  refine W.eq (g2 := F0 m 427 ls [.int (sc 1), .ref x]) rfl ?_
  refine lv_aload_n S.1 S.2.1 dL_law_427 rfl (lv_at hl 3 rfl) ?_
  refine lv_iload_n S.1 S.2.1 dL_law_428 rfl (lv_at hl 0 rfl) ?_
  refine lv_iconst (v := 2) S.1 S.2.1 dL_law_429 (by decide) ?_
  refine lv_iadd S.1 S.2.1 dL_law_430 ?_
  refine lv_topi (fun x_2 ex_2 => ?_)
  have ex_2 : x_2 = 2 := by rw [ex_2]; decide
  subst ex_2
  refine va_sld S.1 S.2.1 hX hbl hbA hS (by unfold vp_in; decide) dL_law_431 ?_
  refine W.eq (g2 := F0 m 432 ls [.int (sc 2), .int (sc 1), .ref x]) rfl ?_
  refine lv_aload_n S.1 S.2.1 dL_law_432 rfl (lv_at hl 3 rfl) ?_
  refine lv_iload_n S.1 S.2.1 dL_law_433 rfl (lv_at hl 0 rfl) ?_
  refine lv_iconst (v := 3) S.1 S.2.1 dL_law_434 (by decide) ?_
  refine lv_iadd S.1 S.2.1 dL_law_435 ?_
  refine lv_topi (fun x_3 ex_3 => ?_)
  have ex_3 : x_3 = 3 := by rw [ex_3]; decide
  subst ex_3
  refine va_sld S.1 S.2.1 hX hbl hbA hS (by unfold vp_in; decide) dL_law_436 ?_
  refine W.eq (g2 := F0 m 437 ls [.int (sc 3), .int (sc 2), .int (sc 1), .ref x]) rfl ?_
  refine b_ai (wr := [(y, .inr (9, [.int 0, .int 0, .ref y_lane, .ref y_many, .ref y_item, .ref y_city, .ref y_fresh, .int 0, .ref y_tape, .int 0, .int 0, .int 0, .int 0, .int 0, .int 0, .int 0, .int 0, .int 0, .int 0, .int 0, .ref y_cost, .ref y_away, .ref y_fee, .ref y_goesTo, .ref y_priceWas, .ref y_isKept, .ref y_kept, .ref y_trace, .int 0])), (y_city, .inl (cI, 192, .inl (fun _ => 0)))]) (b_runV (q0 := 0) (ci := 8) (As := [.int (sc 1), .int (sc 2), .int (sc 3)]) (c_X8_look l D cI cZ cC cS sq H.size x xs xt xc xd xr xi xv xw xh xm xa aCells aPrices aFree aPlaces aHomes aManners aGone aPaid aBlinks (sc 1) (sc 2) (sc 3)) S gL_law_X8_look rfl hdV_X8_look ⟨Nat.le_of_ble_eq_true rfl, Nat.le_of_ble_eq_true rfl⟩ ⟨Nat.le_of_ble_eq_true rfl, Nat.le_of_ble_eq_true rfl⟩ hK hP hD rfl rfl [0, 1] rfl (by decide) rfl hl.1 rfl (Nat.le_of_ble_eq_true rfl) dL_law_437) hP hD hS hA [0, 1] [2, 3] rfl rfl (by decide) (by decide) (fun r_4 w_5 H locs hw_6 hP hD hS => ?_)
  obtain ⟨rfl, rfl⟩ := hw_6
  have hP : va_P D vwCl [(y, .inr (9, [.int 0, .int 0, .ref y_lane, .ref y_many, .ref y_item, .ref y_city, .ref y_fresh, .int 0, .ref y_tape, .int 0, .int 0, .int 0, .int 0, .int 0, .int 0, .int 0, .int 0, .int 0, .int 0, .int 0, .ref y_cost, .ref y_away, .ref y_fee, .ref y_goesTo, .ref y_priceWas, .ref y_isKept, .ref y_kept, .ref y_trace, .int 0])), (y_city, .inl (cI, 192, .inl (fun _ => 0))), (x, .inr (8, [.ref xs, .ref xt, .ref xc, .ref xd, .ref xr, .ref xi, .ref xv, .ref xw, .ref xh, .ref xm, .ref xa, .int 0, .int 0])), (xc, .inr (1, [.int 0, .int 0, .int 0, .ref aCells, .ref aPrices, .ref aFree, .ref aPlaces, .ref aHomes, .ref aManners, .ref aGone, .ref aPaid, .ref aBlinks]))] H := hP
  have hD : va_D A [(y, .inr (9, [.int 0, .int 0, .ref y_lane, .ref y_many, .ref y_item, .ref y_city, .ref y_fresh, .int 0, .ref y_tape, .int 0, .int 0, .int 0, .int 0, .int 0, .int 0, .int 0, .int 0, .int 0, .int 0, .int 0, .ref y_cost, .ref y_away, .ref y_fee, .ref y_goesTo, .ref y_priceWas, .ref y_isKept, .ref y_kept, .ref y_trace, .int 0])), (y_city, .inl (cI, 192, .inl (fun _ => 0))), (x, .inr (8, [.ref xs, .ref xt, .ref xc, .ref xd, .ref xr, .ref xi, .ref xv, .ref xw, .ref xh, .ref xm, .ref xa, .int 0, .int 0])), (xc, .inr (1, [.int 0, .int 0, .int 0, .ref aCells, .ref aPrices, .ref aFree, .ref aPlaces, .ref aHomes, .ref aManners, .ref aGone, .ref aPaid, .ref aBlinks]))] := hD
  refine lv_aload_n S.1 S.2.1 dL_law_440 rfl (lv_at hl 1 rfl) ?_
  refine lv_aload_n S.1 S.2.1 dL_law_441 rfl (lv_at hl 3 rfl) ?_
  refine lv_iload_n S.1 S.2.1 dL_law_442 rfl (lv_at hl 0 rfl) ?_
  refine lv_iconst (v := 1) S.1 S.2.1 dL_law_443 (by decide) ?_
  refine lv_iadd S.1 S.2.1 dL_law_444 ?_
  refine lv_topi (fun x_7 ex_7 => ?_)
  have ex_7 : x_7 = 1 := by rw [ex_7]; decide
  subst ex_7
  refine va_sld S.1 S.2.1 hX hbl hbA hS (by unfold vp_in; decide) dL_law_445 ?_
  refine W.eq (g2 := F0 m 446 ls [.int (sc 1), .ref y, .int (-1000001)]) rfl ?_
  refine lv_aload_n S.1 S.2.1 dL_law_446 rfl (lv_at hl 3 rfl) ?_
  refine lv_iload_n S.1 S.2.1 dL_law_447 rfl (lv_at hl 0 rfl) ?_
  refine lv_iconst (v := 2) S.1 S.2.1 dL_law_448 (by decide) ?_
  refine lv_iadd S.1 S.2.1 dL_law_449 ?_
  refine lv_topi (fun x_8 ex_8 => ?_)
  have ex_8 : x_8 = 2 := by rw [ex_8]; decide
  subst ex_8
  refine va_sld S.1 S.2.1 hX hbl hbA hS (by unfold vp_in; decide) dL_law_450 ?_
  refine W.eq (g2 := F0 m 451 ls [.int (sc 2), .int (sc 1), .ref y, .int (-1000001)]) rfl ?_
  refine lv_aload_n S.1 S.2.1 dL_law_451 rfl (lv_at hl 3 rfl) ?_
  refine lv_iload_n S.1 S.2.1 dL_law_452 rfl (lv_at hl 0 rfl) ?_
  refine lv_iconst (v := 3) S.1 S.2.1 dL_law_453 (by decide) ?_
  refine lv_iadd S.1 S.2.1 dL_law_454 ?_
  refine lv_topi (fun x_9 ex_9 => ?_)
  have ex_9 : x_9 = 3 := by rw [ex_9]; decide
  subst ex_9
  refine va_sld S.1 S.2.1 hX hbl hbA hS (by unfold vp_in; decide) dL_law_455 ?_
  refine W.eq (g2 := F0 m 456 ls [.int (sc 3), .int (sc 2), .int (sc 1), .ref y, .int (-1000001)]) rfl ?_
  refine b_ai (wr := [(x, .inr (8, [.ref xs, .ref xt, .ref xc, .ref xd, .ref xr, .ref xi, .ref xv, .ref xw, .ref xh, .ref xm, .ref xa, .int 0, .int 0])), (xc, .inr (1, [.int 0, .int 0, .int 0, .ref aCells, .ref aPrices, .ref aFree, .ref aPlaces, .ref aHomes, .ref aManners, .ref aGone, .ref aPaid, .ref aBlinks]))]) (b_runV (q0 := 0) (ci := 9) (As := [.int (sc 1), .int (sc 2), .int (sc 3)]) (c_X9_look l D cI cZ cC cS sq H.size y y_lane y_many y_item y_city y_fresh y_tape y_cost y_away y_fee y_goesTo y_priceWas y_isKept y_kept y_trace (sc 1) (sc 2) (sc 3)) S gL_law_X9_look rfl hdV_X9_look ⟨Nat.le_of_ble_eq_true rfl, Nat.le_of_ble_eq_true rfl⟩ ⟨Nat.le_of_ble_eq_true rfl, Nat.le_of_ble_eq_true rfl⟩ hK hP hD rfl rfl [0, 1] rfl (by decide) rfl hl.1 rfl (Nat.le_of_ble_eq_true rfl) dL_law_456) hP hD hS hA [0, 1] [2, 3] rfl rfl (by decide) (by decide) (fun r_10 w_11 H locs hw_12 hP hD hS => ?_)
  obtain ⟨rfl, rfl⟩ := hw_12
  have hP : va_P D vwCl [(x, .inr (8, [.ref xs, .ref xt, .ref xc, .ref xd, .ref xr, .ref xi, .ref xv, .ref xw, .ref xh, .ref xm, .ref xa, .int 0, .int 0])), (xc, .inr (1, [.int 0, .int 0, .int 0, .ref aCells, .ref aPrices, .ref aFree, .ref aPlaces, .ref aHomes, .ref aManners, .ref aGone, .ref aPaid, .ref aBlinks]))] H := hP
  have hD : va_D A [(x, .inr (8, [.ref xs, .ref xt, .ref xc, .ref xd, .ref xr, .ref xi, .ref xv, .ref xw, .ref xh, .ref xm, .ref xa, .int 0, .int 0])), (xc, .inr (1, [.int 0, .int 0, .int 0, .ref aCells, .ref aPrices, .ref aFree, .ref aPlaces, .ref aHomes, .ref aManners, .ref aGone, .ref aPaid, .ref aBlinks]))] := hD
  refine lv_icmp_eq (tgt := 1034) S.1 S.2.1 dL_law_459 (by decide) (fun c_13 => ?_) (fun c_13 => absurd c_13 (by decide))
  exact law_tail C hS (lv_sub hl [0, 3] rfl) (by decide) (by decide)
set_option maxHeartbeats 4000000 in
set_option maxRecDepth 100000 in
theorem law_wall {p : Program} (l : Launch) {e : Env} {s : State} {m : MethodId} {below : List Frame} {meth : Method} {c : Code} (D : va_G) (cI cZ cC cS : ClassId) (sq : Nat) {b : Nat} {sc : Nat → Int32} {A : Nat → Prop} (C : lC p s m meth c b sc A) (hK : kW D (tyW cI cZ cC cS) sq s) (x : Nat) (xs : Nat) (xt : Nat) (xc : Nat) (xd : Nat) (xr : Nat) (xi : Nat) (xv : Nat) (xw : Nat) (xh : Nat) (xm : Nat) (xa : Nat) (y : Nat) (y_lane : Nat) (y_many : Nat) (y_item : Nat) (y_city : Nat) (y_fresh : Nat) (y_tape : Nat) (y_cost : Nat) (y_away : Nat) (y_fee : Nat) (y_goesTo : Nat) (y_priceWas : Nat) (y_isKept : Nat) (y_kept : Nat) (y_trace : Nat) (aCells : Nat) (aPrices : Nat) (aFree : Nat) (aPlaces : Nat) (aHomes : Nat) (aManners : Nat) (aGone : Nat) (aPaid : Nat) (aBlinks : Nat) {H : Heap} {locs : List Loc} {ls : Array Slot} (hP : va_P D vwCl [(x, .inr (8, [.ref xs, .ref xt, .ref xc, .ref xd, .ref xr, .ref xi, .ref xv, .ref xw, .ref xh, .ref xm, .ref xa, .int 0, .int 0])), (xc, .inr (1, [.int 0, .int 0, .int 0, .ref aCells, .ref aPrices, .ref aFree, .ref aPlaces, .ref aHomes, .ref aManners, .ref aGone, .ref aPaid, .ref aBlinks])), (y, .inr (9, [.int 0, .int 0, .ref y_lane, .ref y_many, .ref y_item, .ref y_city, .ref y_fresh, .int 0, .ref y_tape, .int 0, .int 0, .int 0, .int 0, .int 0, .int 0, .int 0, .int 0, .int 0, .int 0, .int 0, .ref y_cost, .ref y_away, .ref y_fee, .ref y_goesTo, .ref y_priceWas, .ref y_isKept, .ref y_kept, .ref y_trace, .int 0])), (y_city, .inl (cI, 192, .inl (fun _ => 0)))] H) (hD : va_D A [(x, .inr (8, [.ref xs, .ref xt, .ref xc, .ref xd, .ref xr, .ref xi, .ref xv, .ref xw, .ref xh, .ref xm, .ref xa, .int 0, .int 0])), (xc, .inr (1, [.int 0, .int 0, .int 0, .ref aCells, .ref aPrices, .ref aFree, .ref aPlaces, .ref aHomes, .ref aManners, .ref aGone, .ref aPaid, .ref aBlinks])), (y, .inr (9, [.int 0, .int 0, .ref y_lane, .ref y_many, .ref y_item, .ref y_city, .ref y_fresh, .int 0, .ref y_tape, .int 0, .int 0, .int 0, .int 0, .int 0, .int 0, .int 0, .int 0, .int 0, .int 0, .int 0, .ref y_cost, .ref y_away, .ref y_fee, .ref y_goesTo, .ref y_priceWas, .ref y_isKept, .ref y_kept, .ref y_trace, .int 0])), (y_city, .inl (cI, 192, .inl (fun _ => 0)))]) (hS : va_S A s.heap H locs) (hl : lv_has ls 4 [(3, .int 0), (2, .ref y), (1, .ref x), (0, .ref b)]) : W p l e room_1 s m #[Value.ref b] below meth c H locs 98 12032 (lw_Z below #[Value.ref b] s) (F0 m 807 ls []) := by
  obtain ⟨S, hr_, hk_, hX, hbl, hA, hAf⟩ := id C
  have hbA : ¬ A b := fun z => absurd (hAf b z) (Nat.not_le.mpr hbl)
  refine lv_aload_n S.1 S.2.1 dL_law_807 rfl (lv_at hl 2 rfl) ?_
  refine lv_aload_n S.1 S.2.1 dL_law_808 rfl (lv_at hl 3 rfl) ?_
  refine lv_iload_n S.1 S.2.1 dL_law_809 rfl (lv_at hl 0 rfl) ?_
  refine lv_iconst (v := 1) S.1 S.2.1 dL_law_810 (by decide) ?_
  refine lv_iadd S.1 S.2.1 dL_law_811 ?_
  refine lv_topi (fun x_1 ex_1 => ?_)
  have ex_1 : x_1 = 1 := by rw [ex_1]; decide
  subst ex_1
  refine va_sld S.1 S.2.1 hX hbl hbA hS (by unfold vp_in; decide) dL_law_812 ?_
  refine W.eq (g2 := F0 m 813 ls [.int (sc 1), .ref x]) rfl ?_
  refine lv_aload_n S.1 S.2.1 dL_law_813 rfl (lv_at hl 3 rfl) ?_
  refine lv_iload_n S.1 S.2.1 dL_law_814 rfl (lv_at hl 0 rfl) ?_
  refine lv_iconst (v := 2) S.1 S.2.1 dL_law_815 (by decide) ?_
  refine lv_iadd S.1 S.2.1 dL_law_816 ?_
  refine lv_topi (fun x_2 ex_2 => ?_)
  have ex_2 : x_2 = 2 := by rw [ex_2]; decide
  subst ex_2
  refine va_sld S.1 S.2.1 hX hbl hbA hS (by unfold vp_in; decide) dL_law_817 ?_
  refine W.eq (g2 := F0 m 818 ls [.int (sc 2), .int (sc 1), .ref x]) rfl ?_
  refine b_ai (wr := [(y, .inr (9, [.int 0, .int 0, .ref y_lane, .ref y_many, .ref y_item, .ref y_city, .ref y_fresh, .int 0, .ref y_tape, .int 0, .int 0, .int 0, .int 0, .int 0, .int 0, .int 0, .int 0, .int 0, .int 0, .int 0, .ref y_cost, .ref y_away, .ref y_fee, .ref y_goesTo, .ref y_priceWas, .ref y_isKept, .ref y_kept, .ref y_trace, .int 0])), (y_city, .inl (cI, 192, .inl (fun _ => 0)))]) (b_runV (q0 := 0) (ci := 8) (As := [.int (sc 1), .int (sc 2)]) (c_X8_wall l D cI cZ cC cS sq H.size x xs xt xc xd xr xi xv xw xh xm xa aCells aPrices aFree aPlaces aHomes aManners aGone aPaid aBlinks (sc 1) (sc 2)) S gL_law_X8_wall rfl hdV_X8_wall ⟨Nat.le_of_ble_eq_true rfl, Nat.le_of_ble_eq_true rfl⟩ ⟨Nat.le_of_ble_eq_true rfl, Nat.le_of_ble_eq_true rfl⟩ hK hP hD rfl rfl [0, 1] rfl (by decide) rfl hl.1 rfl (Nat.le_of_ble_eq_true rfl) dL_law_818) hP hD hS hA [0, 1] [2, 3] rfl rfl (by decide) (by decide) (fun r_3 w_4 H locs hw_5 hP hD hS => ?_)
  obtain ⟨rfl, rfl⟩ := hw_5
  have hP : va_P D vwCl [(y, .inr (9, [.int 0, .int 0, .ref y_lane, .ref y_many, .ref y_item, .ref y_city, .ref y_fresh, .int 0, .ref y_tape, .int 0, .int 0, .int 0, .int 0, .int 0, .int 0, .int 0, .int 0, .int 0, .int 0, .int 0, .ref y_cost, .ref y_away, .ref y_fee, .ref y_goesTo, .ref y_priceWas, .ref y_isKept, .ref y_kept, .ref y_trace, .int 0])), (y_city, .inl (cI, 192, .inl (fun _ => 0))), (x, .inr (8, [.ref xs, .ref xt, .ref xc, .ref xd, .ref xr, .ref xi, .ref xv, .ref xw, .ref xh, .ref xm, .ref xa, .int 0, .int 0])), (xc, .inr (1, [.int 0, .int 0, .int 0, .ref aCells, .ref aPrices, .ref aFree, .ref aPlaces, .ref aHomes, .ref aManners, .ref aGone, .ref aPaid, .ref aBlinks]))] H := hP
  have hD : va_D A [(y, .inr (9, [.int 0, .int 0, .ref y_lane, .ref y_many, .ref y_item, .ref y_city, .ref y_fresh, .int 0, .ref y_tape, .int 0, .int 0, .int 0, .int 0, .int 0, .int 0, .int 0, .int 0, .int 0, .int 0, .int 0, .ref y_cost, .ref y_away, .ref y_fee, .ref y_goesTo, .ref y_priceWas, .ref y_isKept, .ref y_kept, .ref y_trace, .int 0])), (y_city, .inl (cI, 192, .inl (fun _ => 0))), (x, .inr (8, [.ref xs, .ref xt, .ref xc, .ref xd, .ref xr, .ref xi, .ref xv, .ref xw, .ref xh, .ref xm, .ref xa, .int 0, .int 0])), (xc, .inr (1, [.int 0, .int 0, .int 0, .ref aCells, .ref aPrices, .ref aFree, .ref aPlaces, .ref aHomes, .ref aManners, .ref aGone, .ref aPaid, .ref aBlinks]))] := hD
  refine lv_aload_n S.1 S.2.1 dL_law_821 rfl (lv_at hl 1 rfl) ?_
  refine lv_aload_n S.1 S.2.1 dL_law_822 rfl (lv_at hl 3 rfl) ?_
  refine lv_iload_n S.1 S.2.1 dL_law_823 rfl (lv_at hl 0 rfl) ?_
  refine lv_iconst (v := 1) S.1 S.2.1 dL_law_824 (by decide) ?_
  refine lv_iadd S.1 S.2.1 dL_law_825 ?_
  refine lv_topi (fun x_6 ex_6 => ?_)
  have ex_6 : x_6 = 1 := by rw [ex_6]; decide
  subst ex_6
  refine va_sld S.1 S.2.1 hX hbl hbA hS (by unfold vp_in; decide) dL_law_826 ?_
  refine W.eq (g2 := F0 m 827 ls [.int (sc 1), .ref y, .int (-1000001)]) rfl ?_
  refine lv_aload_n S.1 S.2.1 dL_law_827 rfl (lv_at hl 3 rfl) ?_
  refine lv_iload_n S.1 S.2.1 dL_law_828 rfl (lv_at hl 0 rfl) ?_
  refine lv_iconst (v := 2) S.1 S.2.1 dL_law_829 (by decide) ?_
  refine lv_iadd S.1 S.2.1 dL_law_830 ?_
  refine lv_topi (fun x_7 ex_7 => ?_)
  have ex_7 : x_7 = 2 := by rw [ex_7]; decide
  subst ex_7
  refine va_sld S.1 S.2.1 hX hbl hbA hS (by unfold vp_in; decide) dL_law_831 ?_
  refine W.eq (g2 := F0 m 832 ls [.int (sc 2), .int (sc 1), .ref y, .int (-1000001)]) rfl ?_
  refine b_ai (wr := [(x, .inr (8, [.ref xs, .ref xt, .ref xc, .ref xd, .ref xr, .ref xi, .ref xv, .ref xw, .ref xh, .ref xm, .ref xa, .int 0, .int 0])), (xc, .inr (1, [.int 0, .int 0, .int 0, .ref aCells, .ref aPrices, .ref aFree, .ref aPlaces, .ref aHomes, .ref aManners, .ref aGone, .ref aPaid, .ref aBlinks]))]) (b_runV (q0 := 0) (ci := 9) (As := [.int (sc 1), .int (sc 2)]) (c_X9_wall l D cI cZ cC cS sq H.size y y_lane y_many y_item y_city y_fresh y_tape y_cost y_away y_fee y_goesTo y_priceWas y_isKept y_kept y_trace (sc 1) (sc 2)) S gL_law_X9_wall rfl hdV_X9_wall ⟨Nat.le_of_ble_eq_true rfl, Nat.le_of_ble_eq_true rfl⟩ ⟨Nat.le_of_ble_eq_true rfl, Nat.le_of_ble_eq_true rfl⟩ hK hP hD rfl rfl [0, 1] rfl (by decide) rfl hl.1 rfl (Nat.le_of_ble_eq_true rfl) dL_law_832) hP hD hS hA [0, 1] [2, 3] rfl rfl (by decide) (by decide) (fun r_8 w_9 H locs hw_10 hP hD hS => ?_)
  obtain ⟨rfl, rfl⟩ := hw_10
  have hP : va_P D vwCl [(x, .inr (8, [.ref xs, .ref xt, .ref xc, .ref xd, .ref xr, .ref xi, .ref xv, .ref xw, .ref xh, .ref xm, .ref xa, .int 0, .int 0])), (xc, .inr (1, [.int 0, .int 0, .int 0, .ref aCells, .ref aPrices, .ref aFree, .ref aPlaces, .ref aHomes, .ref aManners, .ref aGone, .ref aPaid, .ref aBlinks]))] H := hP
  have hD : va_D A [(x, .inr (8, [.ref xs, .ref xt, .ref xc, .ref xd, .ref xr, .ref xi, .ref xv, .ref xw, .ref xh, .ref xm, .ref xa, .int 0, .int 0])), (xc, .inr (1, [.int 0, .int 0, .int 0, .ref aCells, .ref aPrices, .ref aFree, .ref aPlaces, .ref aHomes, .ref aManners, .ref aGone, .ref aPaid, .ref aBlinks]))] := hD
  refine lv_icmp_eq (tgt := 1034) S.1 S.2.1 dL_law_835 (by decide) (fun c_11 => ?_) (fun c_11 => absurd c_11 (by decide))
  exact law_tail C hS (lv_sub hl [0, 3] rfl) (by decide) (by decide)
set_option maxHeartbeats 4000000 in
set_option maxRecDepth 100000 in
theorem law_kind {p : Program} (l : Launch) {e : Env} {s : State} {m : MethodId} {below : List Frame} {meth : Method} {c : Code} (D : va_G) (cI cZ cC cS : ClassId) (sq : Nat) {b : Nat} {sc : Nat → Int32} {A : Nat → Prop} (C : lC p s m meth c b sc A) (hK : kW D (tyW cI cZ cC cS) sq s) (x : Nat) (xs : Nat) (xt : Nat) (xc : Nat) (xd : Nat) (xr : Nat) (xi : Nat) (xv : Nat) (xw : Nat) (xh : Nat) (xm : Nat) (xa : Nat) (y : Nat) (y_lane : Nat) (y_many : Nat) (y_item : Nat) (y_city : Nat) (y_fresh : Nat) (y_tape : Nat) (y_cost : Nat) (y_away : Nat) (y_fee : Nat) (y_goesTo : Nat) (y_priceWas : Nat) (y_isKept : Nat) (y_kept : Nat) (y_trace : Nat) (aCells : Nat) (aPrices : Nat) (aFree : Nat) (aPlaces : Nat) (aHomes : Nat) (aManners : Nat) (aGone : Nat) (aPaid : Nat) (aBlinks : Nat) {H : Heap} {locs : List Loc} {ls : Array Slot} (hP : va_P D vwCl [(x, .inr (8, [.ref xs, .ref xt, .ref xc, .ref xd, .ref xr, .ref xi, .ref xv, .ref xw, .ref xh, .ref xm, .ref xa, .int 0, .int 0])), (xc, .inr (1, [.int 0, .int 0, .int 0, .ref aCells, .ref aPrices, .ref aFree, .ref aPlaces, .ref aHomes, .ref aManners, .ref aGone, .ref aPaid, .ref aBlinks])), (y, .inr (9, [.int 0, .int 0, .ref y_lane, .ref y_many, .ref y_item, .ref y_city, .ref y_fresh, .int 0, .ref y_tape, .int 0, .int 0, .int 0, .int 0, .int 0, .int 0, .int 0, .int 0, .int 0, .int 0, .int 0, .ref y_cost, .ref y_away, .ref y_fee, .ref y_goesTo, .ref y_priceWas, .ref y_isKept, .ref y_kept, .ref y_trace, .int 0])), (y_city, .inl (cI, 192, .inl (fun _ => 0)))] H) (hD : va_D A [(x, .inr (8, [.ref xs, .ref xt, .ref xc, .ref xd, .ref xr, .ref xi, .ref xv, .ref xw, .ref xh, .ref xm, .ref xa, .int 0, .int 0])), (xc, .inr (1, [.int 0, .int 0, .int 0, .ref aCells, .ref aPrices, .ref aFree, .ref aPlaces, .ref aHomes, .ref aManners, .ref aGone, .ref aPaid, .ref aBlinks])), (y, .inr (9, [.int 0, .int 0, .ref y_lane, .ref y_many, .ref y_item, .ref y_city, .ref y_fresh, .int 0, .ref y_tape, .int 0, .int 0, .int 0, .int 0, .int 0, .int 0, .int 0, .int 0, .int 0, .int 0, .int 0, .ref y_cost, .ref y_away, .ref y_fee, .ref y_goesTo, .ref y_priceWas, .ref y_isKept, .ref y_kept, .ref y_trace, .int 0])), (y_city, .inl (cI, 192, .inl (fun _ => 0)))]) (hS : va_S A s.heap H locs) (hl : lv_has ls 4 [(3, .int 0), (2, .ref y), (1, .ref x), (0, .ref b)]) : W p l e room_1 s m #[Value.ref b] below meth c H locs 98 12032 (lw_Z below #[Value.ref b] s) (F0 m 886 ls []) := by
  obtain ⟨S, hr_, hk_, hX, hbl, hA, hAf⟩ := id C
  have hbA : ¬ A b := fun z => absurd (hAf b z) (Nat.not_le.mpr hbl)
  refine lv_aload_n S.1 S.2.1 dL_law_886 rfl (lv_at hl 2 rfl) ?_
  refine lv_aload_n S.1 S.2.1 dL_law_887 rfl (lv_at hl 3 rfl) ?_
  refine lv_iload_n S.1 S.2.1 dL_law_888 rfl (lv_at hl 0 rfl) ?_
  refine lv_iconst (v := 1) S.1 S.2.1 dL_law_889 (by decide) ?_
  refine lv_iadd S.1 S.2.1 dL_law_890 ?_
  refine lv_topi (fun x_1 ex_1 => ?_)
  have ex_1 : x_1 = 1 := by rw [ex_1]; decide
  subst ex_1
  refine va_sld S.1 S.2.1 hX hbl hbA hS (by unfold vp_in; decide) dL_law_891 ?_
  refine W.eq (g2 := F0 m 892 ls [.int (sc 1), .ref x]) rfl ?_
  refine b_ai (wr := [(y, .inr (9, [.int 0, .int 0, .ref y_lane, .ref y_many, .ref y_item, .ref y_city, .ref y_fresh, .int 0, .ref y_tape, .int 0, .int 0, .int 0, .int 0, .int 0, .int 0, .int 0, .int 0, .int 0, .int 0, .int 0, .ref y_cost, .ref y_away, .ref y_fee, .ref y_goesTo, .ref y_priceWas, .ref y_isKept, .ref y_kept, .ref y_trace, .int 0])), (y_city, .inl (cI, 192, .inl (fun _ => 0)))]) (b_runV (q0 := 0) (ci := 8) (As := [.int (sc 1)]) (c_X8_kind l D cI cZ cC cS sq H.size x xs xt xc xd xr xi xv xw xh xm xa aCells aPrices aFree aPlaces aHomes aManners aGone aPaid aBlinks (sc 1)) S gL_law_X8_kind rfl hdV_X8_kind ⟨Nat.le_of_ble_eq_true rfl, Nat.le_of_ble_eq_true rfl⟩ ⟨Nat.le_of_ble_eq_true rfl, Nat.le_of_ble_eq_true rfl⟩ hK hP hD rfl rfl [0, 1] rfl (by decide) rfl hl.1 rfl (Nat.le_of_ble_eq_true rfl) dL_law_892) hP hD hS hA [0, 1] [2, 3] rfl rfl (by decide) (by decide) (fun r_2 w_3 H locs hw_4 hP hD hS => ?_)
  obtain ⟨rfl, rfl⟩ := hw_4
  have hP : va_P D vwCl [(y, .inr (9, [.int 0, .int 0, .ref y_lane, .ref y_many, .ref y_item, .ref y_city, .ref y_fresh, .int 0, .ref y_tape, .int 0, .int 0, .int 0, .int 0, .int 0, .int 0, .int 0, .int 0, .int 0, .int 0, .int 0, .ref y_cost, .ref y_away, .ref y_fee, .ref y_goesTo, .ref y_priceWas, .ref y_isKept, .ref y_kept, .ref y_trace, .int 0])), (y_city, .inl (cI, 192, .inl (fun _ => 0))), (x, .inr (8, [.ref xs, .ref xt, .ref xc, .ref xd, .ref xr, .ref xi, .ref xv, .ref xw, .ref xh, .ref xm, .ref xa, .int 0, .int 0])), (xc, .inr (1, [.int 0, .int 0, .int 0, .ref aCells, .ref aPrices, .ref aFree, .ref aPlaces, .ref aHomes, .ref aManners, .ref aGone, .ref aPaid, .ref aBlinks]))] H := hP
  have hD : va_D A [(y, .inr (9, [.int 0, .int 0, .ref y_lane, .ref y_many, .ref y_item, .ref y_city, .ref y_fresh, .int 0, .ref y_tape, .int 0, .int 0, .int 0, .int 0, .int 0, .int 0, .int 0, .int 0, .int 0, .int 0, .int 0, .ref y_cost, .ref y_away, .ref y_fee, .ref y_goesTo, .ref y_priceWas, .ref y_isKept, .ref y_kept, .ref y_trace, .int 0])), (y_city, .inl (cI, 192, .inl (fun _ => 0))), (x, .inr (8, [.ref xs, .ref xt, .ref xc, .ref xd, .ref xr, .ref xi, .ref xv, .ref xw, .ref xh, .ref xm, .ref xa, .int 0, .int 0])), (xc, .inr (1, [.int 0, .int 0, .int 0, .ref aCells, .ref aPrices, .ref aFree, .ref aPlaces, .ref aHomes, .ref aManners, .ref aGone, .ref aPaid, .ref aBlinks]))] := hD
  refine lv_aload_n S.1 S.2.1 dL_law_895 rfl (lv_at hl 1 rfl) ?_
  refine lv_aload_n S.1 S.2.1 dL_law_896 rfl (lv_at hl 3 rfl) ?_
  refine lv_iload_n S.1 S.2.1 dL_law_897 rfl (lv_at hl 0 rfl) ?_
  refine lv_iconst (v := 1) S.1 S.2.1 dL_law_898 (by decide) ?_
  refine lv_iadd S.1 S.2.1 dL_law_899 ?_
  refine lv_topi (fun x_5 ex_5 => ?_)
  have ex_5 : x_5 = 1 := by rw [ex_5]; decide
  subst ex_5
  refine va_sld S.1 S.2.1 hX hbl hbA hS (by unfold vp_in; decide) dL_law_900 ?_
  refine W.eq (g2 := F0 m 901 ls [.int (sc 1), .ref y, .int (-1000001)]) rfl ?_
  refine b_ai (wr := [(x, .inr (8, [.ref xs, .ref xt, .ref xc, .ref xd, .ref xr, .ref xi, .ref xv, .ref xw, .ref xh, .ref xm, .ref xa, .int 0, .int 0])), (xc, .inr (1, [.int 0, .int 0, .int 0, .ref aCells, .ref aPrices, .ref aFree, .ref aPlaces, .ref aHomes, .ref aManners, .ref aGone, .ref aPaid, .ref aBlinks]))]) (b_runV (q0 := 0) (ci := 9) (As := [.int (sc 1)]) (c_X9_kind l D cI cZ cC cS sq H.size y y_lane y_many y_item y_city y_fresh y_tape y_cost y_away y_fee y_goesTo y_priceWas y_isKept y_kept y_trace (sc 1)) S gL_law_X9_kind rfl hdV_X9_kind ⟨Nat.le_of_ble_eq_true rfl, Nat.le_of_ble_eq_true rfl⟩ ⟨Nat.le_of_ble_eq_true rfl, Nat.le_of_ble_eq_true rfl⟩ hK hP hD rfl rfl [0, 1] rfl (by decide) rfl hl.1 rfl (Nat.le_of_ble_eq_true rfl) dL_law_901) hP hD hS hA [0, 1] [2, 3] rfl rfl (by decide) (by decide) (fun r_6 w_7 H locs hw_8 hP hD hS => ?_)
  obtain ⟨rfl, rfl⟩ := hw_8
  have hP : va_P D vwCl [(x, .inr (8, [.ref xs, .ref xt, .ref xc, .ref xd, .ref xr, .ref xi, .ref xv, .ref xw, .ref xh, .ref xm, .ref xa, .int 0, .int 0])), (xc, .inr (1, [.int 0, .int 0, .int 0, .ref aCells, .ref aPrices, .ref aFree, .ref aPlaces, .ref aHomes, .ref aManners, .ref aGone, .ref aPaid, .ref aBlinks]))] H := hP
  have hD : va_D A [(x, .inr (8, [.ref xs, .ref xt, .ref xc, .ref xd, .ref xr, .ref xi, .ref xv, .ref xw, .ref xh, .ref xm, .ref xa, .int 0, .int 0])), (xc, .inr (1, [.int 0, .int 0, .int 0, .ref aCells, .ref aPrices, .ref aFree, .ref aPlaces, .ref aHomes, .ref aManners, .ref aGone, .ref aPaid, .ref aBlinks]))] := hD
  refine lv_icmp_eq (tgt := 1034) S.1 S.2.1 dL_law_904 (by decide) (fun c_9 => ?_) (fun c_9 => absurd c_9 (by decide))
  exact law_tail C hS (lv_sub hl [0, 3] rfl) (by decide) (by decide)
set_option maxHeartbeats 4000000 in
set_option maxRecDepth 100000 in
theorem law_as {p : Program} (l : Launch) {e : Env} {s : State} {m : MethodId} {below : List Frame} {meth : Method} {c : Code} (D : va_G) (cI cZ cC cS : ClassId) (sq : Nat) {b : Nat} {sc : Nat → Int32} {A : Nat → Prop} (C : lC p s m meth c b sc A) (hK : kW D (tyW cI cZ cC cS) sq s) (x : Nat) (xs : Nat) (xt : Nat) (xc : Nat) (xd : Nat) (xr : Nat) (xi : Nat) (xv : Nat) (xw : Nat) (xh : Nat) (xm : Nat) (xa : Nat) (y : Nat) (y_lane : Nat) (y_many : Nat) (y_item : Nat) (y_city : Nat) (y_fresh : Nat) (y_tape : Nat) (y_cost : Nat) (y_away : Nat) (y_fee : Nat) (y_goesTo : Nat) (y_priceWas : Nat) (y_isKept : Nat) (y_kept : Nat) (y_trace : Nat) (aCells : Nat) (aPrices : Nat) (aFree : Nat) (aPlaces : Nat) (aHomes : Nat) (aManners : Nat) (aGone : Nat) (aPaid : Nat) (aBlinks : Nat) {H : Heap} {locs : List Loc} {ls : Array Slot} (hP : va_P D vwCl [(x, .inr (8, [.ref xs, .ref xt, .ref xc, .ref xd, .ref xr, .ref xi, .ref xv, .ref xw, .ref xh, .ref xm, .ref xa, .int 0, .int 0])), (xc, .inr (1, [.int 0, .int 0, .int 0, .ref aCells, .ref aPrices, .ref aFree, .ref aPlaces, .ref aHomes, .ref aManners, .ref aGone, .ref aPaid, .ref aBlinks])), (y, .inr (9, [.int 0, .int 0, .ref y_lane, .ref y_many, .ref y_item, .ref y_city, .ref y_fresh, .int 0, .ref y_tape, .int 0, .int 0, .int 0, .int 0, .int 0, .int 0, .int 0, .int 0, .int 0, .int 0, .int 0, .ref y_cost, .ref y_away, .ref y_fee, .ref y_goesTo, .ref y_priceWas, .ref y_isKept, .ref y_kept, .ref y_trace, .int 0])), (y_city, .inl (cI, 192, .inl (fun _ => 0)))] H) (hD : va_D A [(x, .inr (8, [.ref xs, .ref xt, .ref xc, .ref xd, .ref xr, .ref xi, .ref xv, .ref xw, .ref xh, .ref xm, .ref xa, .int 0, .int 0])), (xc, .inr (1, [.int 0, .int 0, .int 0, .ref aCells, .ref aPrices, .ref aFree, .ref aPlaces, .ref aHomes, .ref aManners, .ref aGone, .ref aPaid, .ref aBlinks])), (y, .inr (9, [.int 0, .int 0, .ref y_lane, .ref y_many, .ref y_item, .ref y_city, .ref y_fresh, .int 0, .ref y_tape, .int 0, .int 0, .int 0, .int 0, .int 0, .int 0, .int 0, .int 0, .int 0, .int 0, .int 0, .ref y_cost, .ref y_away, .ref y_fee, .ref y_goesTo, .ref y_priceWas, .ref y_isKept, .ref y_kept, .ref y_trace, .int 0])), (y_city, .inl (cI, 192, .inl (fun _ => 0)))]) (hS : va_S A s.heap H locs) (hl : lv_has ls 4 [(3, .int 0), (2, .ref y), (1, .ref x), (0, .ref b)]) : W p l e room_1 s m #[Value.ref b] below meth c H locs 98 12032 (lw_Z below #[Value.ref b] s) (F0 m 909 ls []) := by
  obtain ⟨S, hr_, hk_, hX, hbl, hA, hAf⟩ := id C
  have hbA : ¬ A b := fun z => absurd (hAf b z) (Nat.not_le.mpr hbl)
  refine lv_aload_n S.1 S.2.1 dL_law_909 rfl (lv_at hl 2 rfl) ?_
  refine lv_aload_n S.1 S.2.1 dL_law_910 rfl (lv_at hl 3 rfl) ?_
  refine lv_iload_n S.1 S.2.1 dL_law_911 rfl (lv_at hl 0 rfl) ?_
  refine lv_iconst (v := 1) S.1 S.2.1 dL_law_912 (by decide) ?_
  refine lv_iadd S.1 S.2.1 dL_law_913 ?_
  refine lv_topi (fun x_1 ex_1 => ?_)
  have ex_1 : x_1 = 1 := by rw [ex_1]; decide
  subst ex_1
  refine va_sld S.1 S.2.1 hX hbl hbA hS (by unfold vp_in; decide) dL_law_914 ?_
  refine W.eq (g2 := F0 m 915 ls [.int (sc 1), .ref x]) rfl ?_
  refine lv_aload_n S.1 S.2.1 dL_law_915 rfl (lv_at hl 3 rfl) ?_
  refine lv_iload_n S.1 S.2.1 dL_law_916 rfl (lv_at hl 0 rfl) ?_
  refine lv_iconst (v := 2) S.1 S.2.1 dL_law_917 (by decide) ?_
  refine lv_iadd S.1 S.2.1 dL_law_918 ?_
  refine lv_topi (fun x_2 ex_2 => ?_)
  have ex_2 : x_2 = 2 := by rw [ex_2]; decide
  subst ex_2
  refine va_sld S.1 S.2.1 hX hbl hbA hS (by unfold vp_in; decide) dL_law_919 ?_
  refine W.eq (g2 := F0 m 920 ls [.int (sc 2), .int (sc 1), .ref x]) rfl ?_
  refine b_ai (wr := [(y, .inr (9, [.int 0, .int 0, .ref y_lane, .ref y_many, .ref y_item, .ref y_city, .ref y_fresh, .int 0, .ref y_tape, .int 0, .int 0, .int 0, .int 0, .int 0, .int 0, .int 0, .int 0, .int 0, .int 0, .int 0, .ref y_cost, .ref y_away, .ref y_fee, .ref y_goesTo, .ref y_priceWas, .ref y_isKept, .ref y_kept, .ref y_trace, .int 0])), (y_city, .inl (cI, 192, .inl (fun _ => 0)))]) (b_runV (q0 := 0) (ci := 8) (As := [.int (sc 1), .int (sc 2)]) (c_X8_as l D cI cZ cC cS sq H.size x xs xt xc xd xr xi xv xw xh xm xa aCells aPrices aFree aPlaces aHomes aManners aGone aPaid aBlinks (sc 1) (sc 2)) S gL_law_X8_as rfl hdV_X8_as ⟨Nat.le_of_ble_eq_true rfl, Nat.le_of_ble_eq_true rfl⟩ ⟨Nat.le_of_ble_eq_true rfl, Nat.le_of_ble_eq_true rfl⟩ hK hP hD rfl rfl [0, 1] rfl (by decide) rfl hl.1 rfl (Nat.le_of_ble_eq_true rfl) dL_law_920) hP hD hS hA [0, 1] [2, 3] rfl rfl (by decide) (by decide) (fun r_3 w_4 H locs hw_5 hP hD hS => ?_)
  obtain ⟨rfl, rfl⟩ := hw_5
  have hP : va_P D vwCl [(y, .inr (9, [.int 0, .int 0, .ref y_lane, .ref y_many, .ref y_item, .ref y_city, .ref y_fresh, .int 0, .ref y_tape, .int 0, .int 0, .int 0, .int 0, .int 0, .int 0, .int 0, .int 0, .int 0, .int 0, .int 0, .ref y_cost, .ref y_away, .ref y_fee, .ref y_goesTo, .ref y_priceWas, .ref y_isKept, .ref y_kept, .ref y_trace, .int 0])), (y_city, .inl (cI, 192, .inl (fun _ => 0))), (x, .inr (8, [.ref xs, .ref xt, .ref xc, .ref xd, .ref xr, .ref xi, .ref xv, .ref xw, .ref xh, .ref xm, .ref xa, .int 0, .int 0])), (xc, .inr (1, [.int 0, .int 0, .int 0, .ref aCells, .ref aPrices, .ref aFree, .ref aPlaces, .ref aHomes, .ref aManners, .ref aGone, .ref aPaid, .ref aBlinks]))] H := hP
  have hD : va_D A [(y, .inr (9, [.int 0, .int 0, .ref y_lane, .ref y_many, .ref y_item, .ref y_city, .ref y_fresh, .int 0, .ref y_tape, .int 0, .int 0, .int 0, .int 0, .int 0, .int 0, .int 0, .int 0, .int 0, .int 0, .int 0, .ref y_cost, .ref y_away, .ref y_fee, .ref y_goesTo, .ref y_priceWas, .ref y_isKept, .ref y_kept, .ref y_trace, .int 0])), (y_city, .inl (cI, 192, .inl (fun _ => 0))), (x, .inr (8, [.ref xs, .ref xt, .ref xc, .ref xd, .ref xr, .ref xi, .ref xv, .ref xw, .ref xh, .ref xm, .ref xa, .int 0, .int 0])), (xc, .inr (1, [.int 0, .int 0, .int 0, .ref aCells, .ref aPrices, .ref aFree, .ref aPlaces, .ref aHomes, .ref aManners, .ref aGone, .ref aPaid, .ref aBlinks]))] := hD
  refine lv_aload_n S.1 S.2.1 dL_law_923 rfl (lv_at hl 1 rfl) ?_
  refine lv_aload_n S.1 S.2.1 dL_law_924 rfl (lv_at hl 3 rfl) ?_
  refine lv_iload_n S.1 S.2.1 dL_law_925 rfl (lv_at hl 0 rfl) ?_
  refine lv_iconst (v := 1) S.1 S.2.1 dL_law_926 (by decide) ?_
  refine lv_iadd S.1 S.2.1 dL_law_927 ?_
  refine lv_topi (fun x_6 ex_6 => ?_)
  have ex_6 : x_6 = 1 := by rw [ex_6]; decide
  subst ex_6
  refine va_sld S.1 S.2.1 hX hbl hbA hS (by unfold vp_in; decide) dL_law_928 ?_
  refine W.eq (g2 := F0 m 929 ls [.int (sc 1), .ref y, .int (-1000001)]) rfl ?_
  refine lv_aload_n S.1 S.2.1 dL_law_929 rfl (lv_at hl 3 rfl) ?_
  refine lv_iload_n S.1 S.2.1 dL_law_930 rfl (lv_at hl 0 rfl) ?_
  refine lv_iconst (v := 2) S.1 S.2.1 dL_law_931 (by decide) ?_
  refine lv_iadd S.1 S.2.1 dL_law_932 ?_
  refine lv_topi (fun x_7 ex_7 => ?_)
  have ex_7 : x_7 = 2 := by rw [ex_7]; decide
  subst ex_7
  refine va_sld S.1 S.2.1 hX hbl hbA hS (by unfold vp_in; decide) dL_law_933 ?_
  refine W.eq (g2 := F0 m 934 ls [.int (sc 2), .int (sc 1), .ref y, .int (-1000001)]) rfl ?_
  refine b_ai (wr := [(x, .inr (8, [.ref xs, .ref xt, .ref xc, .ref xd, .ref xr, .ref xi, .ref xv, .ref xw, .ref xh, .ref xm, .ref xa, .int 0, .int 0])), (xc, .inr (1, [.int 0, .int 0, .int 0, .ref aCells, .ref aPrices, .ref aFree, .ref aPlaces, .ref aHomes, .ref aManners, .ref aGone, .ref aPaid, .ref aBlinks]))]) (b_runV (q0 := 0) (ci := 9) (As := [.int (sc 1), .int (sc 2)]) (c_X9_as l D cI cZ cC cS sq H.size y y_lane y_many y_item y_city y_fresh y_tape y_cost y_away y_fee y_goesTo y_priceWas y_isKept y_kept y_trace (sc 1) (sc 2)) S gL_law_X9_as rfl hdV_X9_as ⟨Nat.le_of_ble_eq_true rfl, Nat.le_of_ble_eq_true rfl⟩ ⟨Nat.le_of_ble_eq_true rfl, Nat.le_of_ble_eq_true rfl⟩ hK hP hD rfl rfl [0, 1] rfl (by decide) rfl hl.1 rfl (Nat.le_of_ble_eq_true rfl) dL_law_934) hP hD hS hA [0, 1] [2, 3] rfl rfl (by decide) (by decide) (fun r_8 w_9 H locs hw_10 hP hD hS => ?_)
  obtain ⟨rfl, rfl⟩ := hw_10
  have hP : va_P D vwCl [(x, .inr (8, [.ref xs, .ref xt, .ref xc, .ref xd, .ref xr, .ref xi, .ref xv, .ref xw, .ref xh, .ref xm, .ref xa, .int 0, .int 0])), (xc, .inr (1, [.int 0, .int 0, .int 0, .ref aCells, .ref aPrices, .ref aFree, .ref aPlaces, .ref aHomes, .ref aManners, .ref aGone, .ref aPaid, .ref aBlinks]))] H := hP
  have hD : va_D A [(x, .inr (8, [.ref xs, .ref xt, .ref xc, .ref xd, .ref xr, .ref xi, .ref xv, .ref xw, .ref xh, .ref xm, .ref xa, .int 0, .int 0])), (xc, .inr (1, [.int 0, .int 0, .int 0, .ref aCells, .ref aPrices, .ref aFree, .ref aPlaces, .ref aHomes, .ref aManners, .ref aGone, .ref aPaid, .ref aBlinks]))] := hD
  refine lv_icmp_eq (tgt := 1034) S.1 S.2.1 dL_law_937 (by decide) (fun c_11 => ?_) (fun c_11 => absurd c_11 (by decide))
  exact law_tail C hS (lv_sub hl [0, 3] rfl) (by decide) (by decide)
set_option maxHeartbeats 4000000 in
set_option maxRecDepth 100000 in
theorem law_ask {p : Program} (l : Launch) {e : Env} {s : State} {m : MethodId} {below : List Frame} {meth : Method} {c : Code} (D : va_G) (cI cZ cC cS : ClassId) (sq : Nat) {b : Nat} {sc : Nat → Int32} {A : Nat → Prop} (C : lC p s m meth c b sc A) (hK : kW D (tyW cI cZ cC cS) sq s) (x : Nat) (xs : Nat) (xt : Nat) (xc : Nat) (xd : Nat) (xr : Nat) (xi : Nat) (xv : Nat) (xw : Nat) (xh : Nat) (xm : Nat) (xa : Nat) (y : Nat) (y_lane : Nat) (y_many : Nat) (y_item : Nat) (y_city : Nat) (y_fresh : Nat) (y_tape : Nat) (y_cost : Nat) (y_away : Nat) (y_fee : Nat) (y_goesTo : Nat) (y_priceWas : Nat) (y_isKept : Nat) (y_kept : Nat) (y_trace : Nat) (aCells : Nat) (aPrices : Nat) (aFree : Nat) (aPlaces : Nat) (aHomes : Nat) (aManners : Nat) (aGone : Nat) (aPaid : Nat) (aBlinks : Nat) {H : Heap} {locs : List Loc} {ls : Array Slot} (hP : va_P D vwCl [(x, .inr (8, [.ref xs, .ref xt, .ref xc, .ref xd, .ref xr, .ref xi, .ref xv, .ref xw, .ref xh, .ref xm, .ref xa, .int 0, .int 0])), (xc, .inr (1, [.int 0, .int 0, .int 0, .ref aCells, .ref aPrices, .ref aFree, .ref aPlaces, .ref aHomes, .ref aManners, .ref aGone, .ref aPaid, .ref aBlinks])), (y, .inr (9, [.int 0, .int 0, .ref y_lane, .ref y_many, .ref y_item, .ref y_city, .ref y_fresh, .int 0, .ref y_tape, .int 0, .int 0, .int 0, .int 0, .int 0, .int 0, .int 0, .int 0, .int 0, .int 0, .int 0, .ref y_cost, .ref y_away, .ref y_fee, .ref y_goesTo, .ref y_priceWas, .ref y_isKept, .ref y_kept, .ref y_trace, .int 0])), (y_city, .inl (cI, 192, .inl (fun _ => 0)))] H) (hD : va_D A [(x, .inr (8, [.ref xs, .ref xt, .ref xc, .ref xd, .ref xr, .ref xi, .ref xv, .ref xw, .ref xh, .ref xm, .ref xa, .int 0, .int 0])), (xc, .inr (1, [.int 0, .int 0, .int 0, .ref aCells, .ref aPrices, .ref aFree, .ref aPlaces, .ref aHomes, .ref aManners, .ref aGone, .ref aPaid, .ref aBlinks])), (y, .inr (9, [.int 0, .int 0, .ref y_lane, .ref y_many, .ref y_item, .ref y_city, .ref y_fresh, .int 0, .ref y_tape, .int 0, .int 0, .int 0, .int 0, .int 0, .int 0, .int 0, .int 0, .int 0, .int 0, .int 0, .ref y_cost, .ref y_away, .ref y_fee, .ref y_goesTo, .ref y_priceWas, .ref y_isKept, .ref y_kept, .ref y_trace, .int 0])), (y_city, .inl (cI, 192, .inl (fun _ => 0)))]) (hS : va_S A s.heap H locs) (hl : lv_has ls 4 [(3, .int 0), (2, .ref y), (1, .ref x), (0, .ref b)]) : W p l e room_1 s m #[Value.ref b] below meth c H locs 98 12032 (lw_Z below #[Value.ref b] s) (F0 m 942 ls []) := by
  obtain ⟨S, hr_, hk_, hX, hbl, hA, hAf⟩ := id C
  have hbA : ¬ A b := fun z => absurd (hAf b z) (Nat.not_le.mpr hbl)
  refine lv_aload_n S.1 S.2.1 dL_law_942 rfl (lv_at hl 2 rfl) ?_
  refine lv_aload_n S.1 S.2.1 dL_law_943 rfl (lv_at hl 3 rfl) ?_
  refine lv_iload_n S.1 S.2.1 dL_law_944 rfl (lv_at hl 0 rfl) ?_
  refine lv_iconst (v := 1) S.1 S.2.1 dL_law_945 (by decide) ?_
  refine lv_iadd S.1 S.2.1 dL_law_946 ?_
  refine lv_topi (fun x_1 ex_1 => ?_)
  have ex_1 : x_1 = 1 := by rw [ex_1]; decide
  subst ex_1
  refine va_sld S.1 S.2.1 hX hbl hbA hS (by unfold vp_in; decide) dL_law_947 ?_
  refine W.eq (g2 := F0 m 948 ls [.int (sc 1), .ref x]) rfl ?_
  refine lv_aload_n S.1 S.2.1 dL_law_948 rfl (lv_at hl 3 rfl) ?_
  refine lv_iload_n S.1 S.2.1 dL_law_949 rfl (lv_at hl 0 rfl) ?_
  refine lv_iconst (v := 2) S.1 S.2.1 dL_law_950 (by decide) ?_
  refine lv_iadd S.1 S.2.1 dL_law_951 ?_
  refine lv_topi (fun x_2 ex_2 => ?_)
  have ex_2 : x_2 = 2 := by rw [ex_2]; decide
  subst ex_2
  refine va_sld S.1 S.2.1 hX hbl hbA hS (by unfold vp_in; decide) dL_law_952 ?_
  refine W.eq (g2 := F0 m 953 ls [.int (sc 2), .int (sc 1), .ref x]) rfl ?_
  refine b_ai (wr := [(y, .inr (9, [.int 0, .int 0, .ref y_lane, .ref y_many, .ref y_item, .ref y_city, .ref y_fresh, .int 0, .ref y_tape, .int 0, .int 0, .int 0, .int 0, .int 0, .int 0, .int 0, .int 0, .int 0, .int 0, .int 0, .ref y_cost, .ref y_away, .ref y_fee, .ref y_goesTo, .ref y_priceWas, .ref y_isKept, .ref y_kept, .ref y_trace, .int 0])), (y_city, .inl (cI, 192, .inl (fun _ => 0)))]) (b_runV (q0 := 0) (ci := 8) (As := [.int (sc 1), .int (sc 2)]) (c_X8_ask l D cI cZ cC cS sq H.size x xs xt xc xd xr xi xv xw xh xm xa aCells aPrices aFree aPlaces aHomes aManners aGone aPaid aBlinks (sc 1) (sc 2)) S gL_law_X8_ask rfl hdV_X8_ask ⟨Nat.le_of_ble_eq_true rfl, Nat.le_of_ble_eq_true rfl⟩ ⟨Nat.le_of_ble_eq_true rfl, Nat.le_of_ble_eq_true rfl⟩ hK hP hD rfl rfl [0, 1] rfl (by decide) rfl hl.1 rfl (Nat.le_of_ble_eq_true rfl) dL_law_953) hP hD hS hA [0, 1] [2, 3] rfl rfl (by decide) (by decide) (fun r_3 w_4 H locs hw_5 hP hD hS => ?_)
  obtain ⟨rfl, rfl⟩ := hw_5
  have hP : va_P D vwCl [(y, .inr (9, [.int 0, .int 0, .ref y_lane, .ref y_many, .ref y_item, .ref y_city, .ref y_fresh, .int 0, .ref y_tape, .int 0, .int 0, .int 0, .int 0, .int 0, .int 0, .int 0, .int 0, .int 0, .int 0, .int 0, .ref y_cost, .ref y_away, .ref y_fee, .ref y_goesTo, .ref y_priceWas, .ref y_isKept, .ref y_kept, .ref y_trace, .int 0])), (y_city, .inl (cI, 192, .inl (fun _ => 0))), (x, .inr (8, [.ref xs, .ref xt, .ref xc, .ref xd, .ref xr, .ref xi, .ref xv, .ref xw, .ref xh, .ref xm, .ref xa, .int 0, .int 0])), (xc, .inr (1, [.int 0, .int 0, .int 0, .ref aCells, .ref aPrices, .ref aFree, .ref aPlaces, .ref aHomes, .ref aManners, .ref aGone, .ref aPaid, .ref aBlinks]))] H := hP
  have hD : va_D A [(y, .inr (9, [.int 0, .int 0, .ref y_lane, .ref y_many, .ref y_item, .ref y_city, .ref y_fresh, .int 0, .ref y_tape, .int 0, .int 0, .int 0, .int 0, .int 0, .int 0, .int 0, .int 0, .int 0, .int 0, .int 0, .ref y_cost, .ref y_away, .ref y_fee, .ref y_goesTo, .ref y_priceWas, .ref y_isKept, .ref y_kept, .ref y_trace, .int 0])), (y_city, .inl (cI, 192, .inl (fun _ => 0))), (x, .inr (8, [.ref xs, .ref xt, .ref xc, .ref xd, .ref xr, .ref xi, .ref xv, .ref xw, .ref xh, .ref xm, .ref xa, .int 0, .int 0])), (xc, .inr (1, [.int 0, .int 0, .int 0, .ref aCells, .ref aPrices, .ref aFree, .ref aPlaces, .ref aHomes, .ref aManners, .ref aGone, .ref aPaid, .ref aBlinks]))] := hD
  refine lv_aload_n S.1 S.2.1 dL_law_956 rfl (lv_at hl 1 rfl) ?_
  refine lv_aload_n S.1 S.2.1 dL_law_957 rfl (lv_at hl 3 rfl) ?_
  refine lv_iload_n S.1 S.2.1 dL_law_958 rfl (lv_at hl 0 rfl) ?_
  refine lv_iconst (v := 1) S.1 S.2.1 dL_law_959 (by decide) ?_
  refine lv_iadd S.1 S.2.1 dL_law_960 ?_
  refine lv_topi (fun x_6 ex_6 => ?_)
  have ex_6 : x_6 = 1 := by rw [ex_6]; decide
  subst ex_6
  refine va_sld S.1 S.2.1 hX hbl hbA hS (by unfold vp_in; decide) dL_law_961 ?_
  refine W.eq (g2 := F0 m 962 ls [.int (sc 1), .ref y, .int (-1000001)]) rfl ?_
  refine lv_aload_n S.1 S.2.1 dL_law_962 rfl (lv_at hl 3 rfl) ?_
  refine lv_iload_n S.1 S.2.1 dL_law_963 rfl (lv_at hl 0 rfl) ?_
  refine lv_iconst (v := 2) S.1 S.2.1 dL_law_964 (by decide) ?_
  refine lv_iadd S.1 S.2.1 dL_law_965 ?_
  refine lv_topi (fun x_7 ex_7 => ?_)
  have ex_7 : x_7 = 2 := by rw [ex_7]; decide
  subst ex_7
  refine va_sld S.1 S.2.1 hX hbl hbA hS (by unfold vp_in; decide) dL_law_966 ?_
  refine W.eq (g2 := F0 m 967 ls [.int (sc 2), .int (sc 1), .ref y, .int (-1000001)]) rfl ?_
  refine b_ai (wr := [(x, .inr (8, [.ref xs, .ref xt, .ref xc, .ref xd, .ref xr, .ref xi, .ref xv, .ref xw, .ref xh, .ref xm, .ref xa, .int 0, .int 0])), (xc, .inr (1, [.int 0, .int 0, .int 0, .ref aCells, .ref aPrices, .ref aFree, .ref aPlaces, .ref aHomes, .ref aManners, .ref aGone, .ref aPaid, .ref aBlinks]))]) (b_runV (q0 := 0) (ci := 9) (As := [.int (sc 1), .int (sc 2)]) (c_X9_ask l D cI cZ cC cS sq H.size y y_lane y_many y_item y_city y_fresh y_tape y_cost y_away y_fee y_goesTo y_priceWas y_isKept y_kept y_trace (sc 1) (sc 2)) S gL_law_X9_ask rfl hdV_X9_ask ⟨Nat.le_of_ble_eq_true rfl, Nat.le_of_ble_eq_true rfl⟩ ⟨Nat.le_of_ble_eq_true rfl, Nat.le_of_ble_eq_true rfl⟩ hK hP hD rfl rfl [0, 1] rfl (by decide) rfl hl.1 rfl (Nat.le_of_ble_eq_true rfl) dL_law_967) hP hD hS hA [0, 1] [2, 3] rfl rfl (by decide) (by decide) (fun r_8 w_9 H locs hw_10 hP hD hS => ?_)
  obtain ⟨rfl, rfl⟩ := hw_10
  have hP : va_P D vwCl [(x, .inr (8, [.ref xs, .ref xt, .ref xc, .ref xd, .ref xr, .ref xi, .ref xv, .ref xw, .ref xh, .ref xm, .ref xa, .int 0, .int 0])), (xc, .inr (1, [.int 0, .int 0, .int 0, .ref aCells, .ref aPrices, .ref aFree, .ref aPlaces, .ref aHomes, .ref aManners, .ref aGone, .ref aPaid, .ref aBlinks]))] H := hP
  have hD : va_D A [(x, .inr (8, [.ref xs, .ref xt, .ref xc, .ref xd, .ref xr, .ref xi, .ref xv, .ref xw, .ref xh, .ref xm, .ref xa, .int 0, .int 0])), (xc, .inr (1, [.int 0, .int 0, .int 0, .ref aCells, .ref aPrices, .ref aFree, .ref aPlaces, .ref aHomes, .ref aManners, .ref aGone, .ref aPaid, .ref aBlinks]))] := hD
  refine lv_icmp_eq (tgt := 1034) S.1 S.2.1 dL_law_970 (by decide) (fun c_11 => ?_) (fun c_11 => absurd c_11 (by decide))
  exact law_tail C hS (lv_sub hl [0, 3] rfl) (by decide) (by decide)
set_option maxHeartbeats 4000000 in
set_option maxRecDepth 100000 in
theorem law_trace {p : Program} (l : Launch) {e : Env} {s : State} {m : MethodId} {below : List Frame} {meth : Method} {c : Code} (D : va_G) (cI cZ cC cS : ClassId) (sq : Nat) {b : Nat} {sc : Nat → Int32} {A : Nat → Prop} (C : lC p s m meth c b sc A) (hK : kW D (tyW cI cZ cC cS) sq s) (x : Nat) (xs : Nat) (xt : Nat) (xc : Nat) (xd : Nat) (xr : Nat) (xi : Nat) (xv : Nat) (xw : Nat) (xh : Nat) (xm : Nat) (xa : Nat) (y : Nat) (y_lane : Nat) (y_many : Nat) (y_item : Nat) (y_city : Nat) (y_fresh : Nat) (y_tape : Nat) (y_cost : Nat) (y_away : Nat) (y_fee : Nat) (y_goesTo : Nat) (y_priceWas : Nat) (y_isKept : Nat) (y_kept : Nat) (y_trace : Nat) (tc : Nat) (bo : Nat) {H : Heap} {locs : List Loc} {ls : Array Slot} (hP : va_P D vwCl [(x, .inr (8, [.ref xs, .ref xt, .ref xc, .ref xd, .ref xr, .ref xi, .ref xv, .ref xw, .ref xh, .ref xm, .ref xa, .int 0, .int 0])), (xa, .inr (0, [.ref tc, .ref bo, .int 0])), (y, .inr (9, [.int 0, .int 0, .ref y_lane, .ref y_many, .ref y_item, .ref y_city, .ref y_fresh, .int 0, .ref y_tape, .int 0, .int 0, .int 0, .int 0, .int 0, .int 0, .int 0, .int 0, .int 0, .int 0, .int 0, .ref y_cost, .ref y_away, .ref y_fee, .ref y_goesTo, .ref y_priceWas, .ref y_isKept, .ref y_kept, .ref y_trace, .int 0]))] H) (hD : va_D A [(x, .inr (8, [.ref xs, .ref xt, .ref xc, .ref xd, .ref xr, .ref xi, .ref xv, .ref xw, .ref xh, .ref xm, .ref xa, .int 0, .int 0])), (xa, .inr (0, [.ref tc, .ref bo, .int 0])), (y, .inr (9, [.int 0, .int 0, .ref y_lane, .ref y_many, .ref y_item, .ref y_city, .ref y_fresh, .int 0, .ref y_tape, .int 0, .int 0, .int 0, .int 0, .int 0, .int 0, .int 0, .int 0, .int 0, .int 0, .int 0, .ref y_cost, .ref y_away, .ref y_fee, .ref y_goesTo, .ref y_priceWas, .ref y_isKept, .ref y_kept, .ref y_trace, .int 0]))]) (hS : va_S A s.heap H locs) (hl : lv_has ls 4 [(3, .int 0), (2, .ref y), (1, .ref x), (0, .ref b)]) : W p l e room_1 s m #[Value.ref b] below meth c H locs 98 12032 (lw_Z below #[Value.ref b] s) (F0 m 975 ls []) := by
  obtain ⟨S, hr_, hk_, hX, hbl, hA, hAf⟩ := id C
  have hbA : ¬ A b := fun z => absurd (hAf b z) (Nat.not_le.mpr hbl)
  refine lv_aload_n S.1 S.2.1 dL_law_975 rfl (lv_at hl 2 rfl) ?_
  refine lv_aload_n S.1 S.2.1 dL_law_976 rfl (lv_at hl 3 rfl) ?_
  refine lv_iload_n S.1 S.2.1 dL_law_977 rfl (lv_at hl 0 rfl) ?_
  refine lv_iconst (v := 1) S.1 S.2.1 dL_law_978 (by decide) ?_
  refine lv_iadd S.1 S.2.1 dL_law_979 ?_
  refine lv_topi (fun x_1 ex_1 => ?_)
  have ex_1 : x_1 = 1 := by rw [ex_1]; decide
  subst ex_1
  refine va_sld S.1 S.2.1 hX hbl hbA hS (by unfold vp_in; decide) dL_law_980 ?_
  refine W.eq (g2 := F0 m 981 ls [.int (sc 1), .ref x]) rfl ?_
  refine b_ai (wr := [(y, .inr (9, [.int 0, .int 0, .ref y_lane, .ref y_many, .ref y_item, .ref y_city, .ref y_fresh, .int 0, .ref y_tape, .int 0, .int 0, .int 0, .int 0, .int 0, .int 0, .int 0, .int 0, .int 0, .int 0, .int 0, .ref y_cost, .ref y_away, .ref y_fee, .ref y_goesTo, .ref y_priceWas, .ref y_isKept, .ref y_kept, .ref y_trace, .int 0]))]) (b_runV (q0 := 0) (ci := 8) (As := [.int (sc 1)]) (c_X8_trace l D cI cZ cC cS sq H.size x xs xt xc xd xr xi xv xw xh xm xa bo tc (sc 1)) S gL_law_X8_trace rfl hdV_X8_trace ⟨Nat.le_of_ble_eq_true rfl, Nat.le_of_ble_eq_true rfl⟩ ⟨Nat.le_of_ble_eq_true rfl, Nat.le_of_ble_eq_true rfl⟩ hK hP hD rfl rfl [0, 1] rfl (by decide) rfl hl.1 rfl (Nat.le_of_ble_eq_true rfl) dL_law_981) hP hD hS hA [0, 1] [2] rfl rfl (by decide) (by decide) (fun r_2 w_3 H locs hw_4 hP hD hS => ?_)
  obtain ⟨rfl, rfl⟩ := hw_4
  have hP : va_P D vwCl [(y, .inr (9, [.int 0, .int 0, .ref y_lane, .ref y_many, .ref y_item, .ref y_city, .ref y_fresh, .int 0, .ref y_tape, .int 0, .int 0, .int 0, .int 0, .int 0, .int 0, .int 0, .int 0, .int 0, .int 0, .int 0, .ref y_cost, .ref y_away, .ref y_fee, .ref y_goesTo, .ref y_priceWas, .ref y_isKept, .ref y_kept, .ref y_trace, .int 0])), (x, .inr (8, [.ref xs, .ref xt, .ref xc, .ref xd, .ref xr, .ref xi, .ref xv, .ref xw, .ref xh, .ref xm, .ref xa, .int 0, .int 0])), (xa, .inr (0, [.ref tc, .ref bo, .int 0]))] H := hP
  have hD : va_D A [(y, .inr (9, [.int 0, .int 0, .ref y_lane, .ref y_many, .ref y_item, .ref y_city, .ref y_fresh, .int 0, .ref y_tape, .int 0, .int 0, .int 0, .int 0, .int 0, .int 0, .int 0, .int 0, .int 0, .int 0, .int 0, .ref y_cost, .ref y_away, .ref y_fee, .ref y_goesTo, .ref y_priceWas, .ref y_isKept, .ref y_kept, .ref y_trace, .int 0])), (x, .inr (8, [.ref xs, .ref xt, .ref xc, .ref xd, .ref xr, .ref xi, .ref xv, .ref xw, .ref xh, .ref xm, .ref xa, .int 0, .int 0])), (xa, .inr (0, [.ref tc, .ref bo, .int 0]))] := hD
  refine lv_aload_n S.1 S.2.1 dL_law_984 rfl (lv_at hl 1 rfl) ?_
  refine lv_aload_n S.1 S.2.1 dL_law_985 rfl (lv_at hl 3 rfl) ?_
  refine lv_iload_n S.1 S.2.1 dL_law_986 rfl (lv_at hl 0 rfl) ?_
  refine lv_iconst (v := 1) S.1 S.2.1 dL_law_987 (by decide) ?_
  refine lv_iadd S.1 S.2.1 dL_law_988 ?_
  refine lv_topi (fun x_5 ex_5 => ?_)
  have ex_5 : x_5 = 1 := by rw [ex_5]; decide
  subst ex_5
  refine va_sld S.1 S.2.1 hX hbl hbA hS (by unfold vp_in; decide) dL_law_989 ?_
  refine W.eq (g2 := F0 m 990 ls [.int (sc 1), .ref y, .int (-1000000)]) rfl ?_
  refine b_ai (wr := [(x, .inr (8, [.ref xs, .ref xt, .ref xc, .ref xd, .ref xr, .ref xi, .ref xv, .ref xw, .ref xh, .ref xm, .ref xa, .int 0, .int 0])), (xa, .inr (0, [.ref tc, .ref bo, .int 0]))]) (b_runV (q0 := 0) (ci := 9) (As := [.int (sc 1)]) (c_X9_trace l D cI cZ cC cS sq H.size y y_lane y_many y_item y_city y_fresh y_tape y_cost y_away y_fee y_goesTo y_priceWas y_isKept y_kept y_trace (sc 1)) S gL_law_X9_trace rfl hdV_X9_trace ⟨Nat.le_of_ble_eq_true rfl, Nat.le_of_ble_eq_true rfl⟩ ⟨Nat.le_of_ble_eq_true rfl, Nat.le_of_ble_eq_true rfl⟩ hK hP hD rfl rfl [0] rfl (by decide) rfl hl.1 rfl (Nat.le_of_ble_eq_true rfl) dL_law_990) hP hD hS hA [0] [1, 2] rfl rfl (by decide) (by decide) (fun r_6 w_7 H locs hw_8 hP hD hS => ?_)
  obtain ⟨rfl, rfl⟩ := hw_8
  have hP : va_P D vwCl [(x, .inr (8, [.ref xs, .ref xt, .ref xc, .ref xd, .ref xr, .ref xi, .ref xv, .ref xw, .ref xh, .ref xm, .ref xa, .int 0, .int 0])), (xa, .inr (0, [.ref tc, .ref bo, .int 0]))] H := hP
  have hD : va_D A [(x, .inr (8, [.ref xs, .ref xt, .ref xc, .ref xd, .ref xr, .ref xi, .ref xv, .ref xw, .ref xh, .ref xm, .ref xa, .int 0, .int 0])), (xa, .inr (0, [.ref tc, .ref bo, .int 0]))] := hD
  refine lv_icmp_eq (tgt := 1034) S.1 S.2.1 dL_law_993 (by decide) (fun c_9 => ?_) (fun c_9 => absurd c_9 (by decide))
  exact law_tail C hS (lv_sub hl [0, 3] rfl) (by decide) (by decide)
set_option maxHeartbeats 4000000 in
set_option maxRecDepth 100000 in
theorem law_city {p : Program} (l : Launch) {e : Env} {s : State} {m : MethodId} {below : List Frame} {meth : Method} {c : Code} (D : va_G) (cI cZ cC cS : ClassId) (sq : Nat) {b : Nat} {sc : Nat → Int32} {A : Nat → Prop} (C : lC p s m meth c b sc A) (hK : kW D (tyW cI cZ cC cS) sq s) (x : Nat) (xs : Nat) (xt : Nat) (xc : Nat) (xd : Nat) (xr : Nat) (xi : Nat) (xv : Nat) (xw : Nat) (xh : Nat) (xm : Nat) (xa : Nat) (y : Nat) (y_lane : Nat) (y_many : Nat) (y_item : Nat) (y_city : Nat) (y_fresh : Nat) (y_tape : Nat) (y_cost : Nat) (y_away : Nat) (y_fee : Nat) (y_goesTo : Nat) (y_priceWas : Nat) (y_isKept : Nat) (y_kept : Nat) (y_trace : Nat) (by_ : Nat) (aCells : Nat) (aPrices : Nat) (aFree : Nat) (aPlaces : Nat) (aHomes : Nat) (aManners : Nat) (aGone : Nat) (aPaid : Nat) (aBlinks : Nat) {H : Heap} {locs : List Loc} {ls : Array Slot} (hP : va_P D vwCl [(x, .inr (8, [.ref xs, .ref xt, .ref xc, .ref xd, .ref xr, .ref xi, .ref xv, .ref xw, .ref xh, .ref xm, .ref xa, .int 0, .int 0])), (xr, .inr (3, [.ref xt, .ref xd, .int 0, .int 0])), (xt, .inr (5, [.ref by_, .int 0, .int 0, .int 0, .int 0, .int 0])), (xd, .inr (1, [.int 0, .int 0, .int 0, .ref aCells, .ref aPrices, .ref aFree, .ref aPlaces, .ref aHomes, .ref aManners, .ref aGone, .ref aPaid, .ref aBlinks])), (aPrices, .inl (cI, 6, .inl (fun _ => 0))), (aFree, .inl (cI, 6, .inl (fun _ => 0))), (aGone, .inl (cI, 6, .inl (fun _ => 0))), (aPaid, .inl (cI, 36, .inl (fun _ => 0))), (aBlinks, .inl (cI, 36, .inl (fun _ => 0))), (y, .inr (9, [.int 0, .int 0, .ref y_lane, .ref y_many, .ref y_item, .ref y_city, .ref y_fresh, .int 0, .ref y_tape, .int 0, .int 0, .int 0, .int 0, .int 0, .int 0, .int 0, .int 0, .int 0, .int 0, .int 0, .ref y_cost, .ref y_away, .ref y_fee, .ref y_goesTo, .ref y_priceWas, .ref y_isKept, .ref y_kept, .ref y_trace, .int 0])), (y_fresh, .inl (cI, 192, .inl (fun _ => 0)))] H) (hD : va_D A [(x, .inr (8, [.ref xs, .ref xt, .ref xc, .ref xd, .ref xr, .ref xi, .ref xv, .ref xw, .ref xh, .ref xm, .ref xa, .int 0, .int 0])), (xr, .inr (3, [.ref xt, .ref xd, .int 0, .int 0])), (xt, .inr (5, [.ref by_, .int 0, .int 0, .int 0, .int 0, .int 0])), (xd, .inr (1, [.int 0, .int 0, .int 0, .ref aCells, .ref aPrices, .ref aFree, .ref aPlaces, .ref aHomes, .ref aManners, .ref aGone, .ref aPaid, .ref aBlinks])), (aPrices, .inl (cI, 6, .inl (fun _ => 0))), (aFree, .inl (cI, 6, .inl (fun _ => 0))), (aGone, .inl (cI, 6, .inl (fun _ => 0))), (aPaid, .inl (cI, 36, .inl (fun _ => 0))), (aBlinks, .inl (cI, 36, .inl (fun _ => 0))), (y, .inr (9, [.int 0, .int 0, .ref y_lane, .ref y_many, .ref y_item, .ref y_city, .ref y_fresh, .int 0, .ref y_tape, .int 0, .int 0, .int 0, .int 0, .int 0, .int 0, .int 0, .int 0, .int 0, .int 0, .int 0, .ref y_cost, .ref y_away, .ref y_fee, .ref y_goesTo, .ref y_priceWas, .ref y_isKept, .ref y_kept, .ref y_trace, .int 0])), (y_fresh, .inl (cI, 192, .inl (fun _ => 0)))]) (hS : va_S A s.heap H locs) (hl : lv_has ls 4 [(3, .int 0), (2, .ref y), (1, .ref x), (0, .ref b)]) : W p l e room_1 s m #[Value.ref b] below meth c H locs 98 12032 (lw_Z below #[Value.ref b] s) (F0 m 395 ls []) := by
  obtain ⟨S, hr_, hk_, hX, hbl, hA, hAf⟩ := id C
  have hbA : ¬ A b := fun z => absurd (hAf b z) (Nat.not_le.mpr hbl)
  refine lv_aload_n S.1 S.2.1 dL_law_395 rfl (lv_at hl 2 rfl) ?_
  refine b_ai (wr := [(y, .inr (9, [.int 0, .int 0, .ref y_lane, .ref y_many, .ref y_item, .ref y_city, .ref y_fresh, .int 0, .ref y_tape, .int 0, .int 0, .int 0, .int 0, .int 0, .int 0, .int 0, .int 0, .int 0, .int 0, .int 0, .ref y_cost, .ref y_away, .ref y_fee, .ref y_goesTo, .ref y_priceWas, .ref y_isKept, .ref y_kept, .ref y_trace, .int 0])), (y_fresh, .inl (cI, 192, .inl (fun _ => 0)))]) (b_runV (q0 := 0) (ci := 8) (As := []) (c_X8_city l D cI cZ cC cS sq H.size x xs xt xc xd xr xi xv xw xh xm xa by_ aCells aPrices aFree aPlaces aHomes aManners aGone aPaid aBlinks (fun _ => 0) (fun _ => 0) (fun _ => 0) (fun _ => 0) (fun _ => 0)) S gL_law_X8_city rfl hdV_X8_city ⟨Nat.le_of_ble_eq_true rfl, Nat.le_of_ble_eq_true rfl⟩ ⟨Nat.le_of_ble_eq_true rfl, Nat.le_of_ble_eq_true rfl⟩ hK hP hD rfl rfl [0, 1, 2, 3, 4, 5, 6, 7, 8] rfl (by decide) rfl hl.1 rfl (Nat.le_of_ble_eq_true rfl) dL_law_396) hP hD hS hA [0, 1, 2, 3, 4, 5, 6, 7, 8] [9, 10] rfl rfl (by decide) (by decide) (fun r_1 w_2 H locs hw_3 hP hD hS => ?_)
  obtain ⟨rfl, rfl⟩ := hw_3
  have hP : va_P D vwCl [(y, .inr (9, [.int 0, .int 0, .ref y_lane, .ref y_many, .ref y_item, .ref y_city, .ref y_fresh, .int 0, .ref y_tape, .int 0, .int 0, .int 0, .int 0, .int 0, .int 0, .int 0, .int 0, .int 0, .int 0, .int 0, .ref y_cost, .ref y_away, .ref y_fee, .ref y_goesTo, .ref y_priceWas, .ref y_isKept, .ref y_kept, .ref y_trace, .int 0])), (y_fresh, .inl (cI, 192, .inl (fun _ => 0)))] H := hP
  have hD : va_D A [(y, .inr (9, [.int 0, .int 0, .ref y_lane, .ref y_many, .ref y_item, .ref y_city, .ref y_fresh, .int 0, .ref y_tape, .int 0, .int 0, .int 0, .int 0, .int 0, .int 0, .int 0, .int 0, .int 0, .int 0, .int 0, .ref y_cost, .ref y_away, .ref y_fee, .ref y_goesTo, .ref y_priceWas, .ref y_isKept, .ref y_kept, .ref y_trace, .int 0])), (y_fresh, .inl (cI, 192, .inl (fun _ => 0)))] := hD
  refine lv_aload_n S.1 S.2.1 dL_law_399 rfl (lv_at hl 1 rfl) ?_
  refine b_ai (wr := []) (b_runV (q0 := 0) (ci := 9) (As := []) (c_X9_city l D cI cZ cC cS sq H.size y y_lane y_many y_item y_city y_fresh y_tape y_cost y_away y_fee y_goesTo y_priceWas y_isKept y_kept y_trace (fun _ => 0)) S gL_law_X9_city rfl hdV_X9_city ⟨Nat.le_of_ble_eq_true rfl, Nat.le_of_ble_eq_true rfl⟩ ⟨Nat.le_of_ble_eq_true rfl, Nat.le_of_ble_eq_true rfl⟩ hK hP hD rfl rfl [0, 1] rfl (by decide) rfl hl.1 rfl (Nat.le_of_ble_eq_true rfl) dL_law_400) hP hD hS hA [0, 1] [] rfl rfl (by decide) (by decide) (fun r_4 w_5 H locs hw_6 hP hD hS => ?_)
  obtain ⟨rfl, rfl⟩ := hw_6
  refine lv_icmp_eq (tgt := 1034) S.1 S.2.1 dL_law_403 (by decide) (fun c_7 => ?_) (fun c_7 => absurd c_7 (by decide))
  exact law_tail C hS (lv_sub hl [0, 3] rfl) (by decide) (by decide)
set_option maxHeartbeats 4000000 in
set_option maxRecDepth 100000 in
theorem law_image {p : Program} (l : Launch) {e : Env} {s : State} {m : MethodId} {below : List Frame} {meth : Method} {c : Code} (D : va_G) (cI cZ cC cS : ClassId) (sq : Nat) {b : Nat} {sc : Nat → Int32} {A : Nat → Prop} (C : lC p s m meth c b sc A) (hK : kW D (tyW cI cZ cC cS) sq s) (x : Nat) (xs : Nat) (xt : Nat) (xc : Nat) (xd : Nat) (xr : Nat) (xi : Nat) (xv : Nat) (xw : Nat) (xh : Nat) (xm : Nat) (xa : Nat) (y : Nat) (y_lane : Nat) (y_many : Nat) (y_item : Nat) (y_city : Nat) (y_fresh : Nat) (y_tape : Nat) (y_cost : Nat) (y_away : Nat) (y_fee : Nat) (y_goesTo : Nat) (y_priceWas : Nat) (y_isKept : Nat) (y_kept : Nat) (y_trace : Nat) (aCells : Nat) (aPrices : Nat) (aFree : Nat) (aPlaces : Nat) (aHomes : Nat) (aManners : Nat) (aGone : Nat) (aPaid : Nat) (aBlinks : Nat) {H : Heap} {locs : List Loc} {ls : Array Slot} (hP : va_P D vwCl [(x, .inr (8, [.ref xs, .ref xt, .ref xc, .ref xd, .ref xr, .ref xi, .ref xv, .ref xw, .ref xh, .ref xm, .ref xa, .int 0, .int 0])), (xc, .inr (1, [.int 0, .int 0, .int 0, .ref aCells, .ref aPrices, .ref aFree, .ref aPlaces, .ref aHomes, .ref aManners, .ref aGone, .ref aPaid, .ref aBlinks])), (y, .inr (9, [.int 0, .int 0, .ref y_lane, .ref y_many, .ref y_item, .ref y_city, .ref y_fresh, .int 0, .ref y_tape, .int 0, .int 0, .int 0, .int 0, .int 0, .int 0, .int 0, .int 0, .int 0, .int 0, .int 0, .ref y_cost, .ref y_away, .ref y_fee, .ref y_goesTo, .ref y_priceWas, .ref y_isKept, .ref y_kept, .ref y_trace, .int 0])), (y_city, .inl (cI, 192, .inl (fun _ => 0)))] H) (hD : va_D A [(x, .inr (8, [.ref xs, .ref xt, .ref xc, .ref xd, .ref xr, .ref xi, .ref xv, .ref xw, .ref xh, .ref xm, .ref xa, .int 0, .int 0])), (xc, .inr (1, [.int 0, .int 0, .int 0, .ref aCells, .ref aPrices, .ref aFree, .ref aPlaces, .ref aHomes, .ref aManners, .ref aGone, .ref aPaid, .ref aBlinks])), (y, .inr (9, [.int 0, .int 0, .ref y_lane, .ref y_many, .ref y_item, .ref y_city, .ref y_fresh, .int 0, .ref y_tape, .int 0, .int 0, .int 0, .int 0, .int 0, .int 0, .int 0, .int 0, .int 0, .int 0, .int 0, .ref y_cost, .ref y_away, .ref y_fee, .ref y_goesTo, .ref y_priceWas, .ref y_isKept, .ref y_kept, .ref y_trace, .int 0])), (y_city, .inl (cI, 192, .inl (fun _ => 0)))]) (hS : va_S A s.heap H locs) (hl : lv_has ls 4 [(3, .int 0), (2, .ref y), (1, .ref x), (0, .ref b)]) : W p l e room_1 s m #[Value.ref b] below meth c H locs 98 12032 (lw_Z below #[Value.ref b] s) (F0 m 840 ls []) := by
  obtain ⟨S, hr_, hk_, hX, hbl, hA, hAf⟩ := id C
  have hbA : ¬ A b := fun z => absurd (hAf b z) (Nat.not_le.mpr hbl)
  rcases (show ((sc 1).toInt < 0 ∨ 1 < (sc 1).toInt) ∨ (0 ≤ (sc 1).toInt ∧ (sc 1).toInt ≤ 1) by omega) with hr | hr
  · refine lv_aload_n S.1 S.2.1 dL_law_840 rfl (lv_at hl 2 rfl) ?_
    refine lv_aload_n S.1 S.2.1 dL_law_841 rfl (lv_at hl 3 rfl) ?_
    refine lv_iload_n S.1 S.2.1 dL_law_842 rfl (lv_at hl 0 rfl) ?_
    refine lv_iconst (v := 1) S.1 S.2.1 dL_law_843 (by decide) ?_
    refine lv_iadd S.1 S.2.1 dL_law_844 ?_
    refine lv_topi (fun x_1 ex_1 => ?_)
    have ex_1 : x_1 = 1 := by rw [ex_1]; decide
    subst ex_1
    refine va_sld S.1 S.2.1 hX hbl hbA hS (by unfold vp_in; decide) dL_law_845 ?_
    refine W.eq (g2 := F0 m 846 ls [.int (sc 1), .ref x]) rfl ?_
    refine b_ai (wr := [(xc, .inr (1, [.int 0, .int 0, .int 0, .ref aCells, .ref aPrices, .ref aFree, .ref aPlaces, .ref aHomes, .ref aManners, .ref aGone, .ref aPaid, .ref aBlinks])), (y, .inr (9, [.int 0, .int 0, .ref y_lane, .ref y_many, .ref y_item, .ref y_city, .ref y_fresh, .int 0, .ref y_tape, .int 0, .int 0, .int 0, .int 0, .int 0, .int 0, .int 0, .int 0, .int 0, .int 0, .int 0, .ref y_cost, .ref y_away, .ref y_fee, .ref y_goesTo, .ref y_priceWas, .ref y_isKept, .ref y_kept, .ref y_trace, .int 0])), (y_city, .inl (cI, 192, .inl (fun _ => 0)))]) (b_runV (q0 := 0) (ci := 8) (As := [.int (sc 1)]) (c_X8_image_bad l D cI cZ cC cS sq H.size x xs xt xc xd xr xi xv xw xh xm xa (sc 1) (by assumption)) S gL_law_X8_image rfl hdV_X8_image ⟨Nat.le_of_ble_eq_true rfl, Nat.le_of_ble_eq_true rfl⟩ ⟨Nat.le_of_ble_eq_true rfl, Nat.le_of_ble_eq_true rfl⟩ hK hP hD rfl rfl [0] rfl (by decide) rfl hl.1 rfl (Nat.le_of_ble_eq_true rfl) dL_law_846) hP hD hS hA [0] [1, 2, 3] rfl rfl (by decide) (by decide) (fun r_2 w_3 H locs hw_4 hP hD hS => ?_)
    obtain ⟨rfl, rfl⟩ := hw_4
    have hP : va_P D vwCl [(xc, .inr (1, [.int 0, .int 0, .int 0, .ref aCells, .ref aPrices, .ref aFree, .ref aPlaces, .ref aHomes, .ref aManners, .ref aGone, .ref aPaid, .ref aBlinks])), (y, .inr (9, [.int 0, .int 0, .ref y_lane, .ref y_many, .ref y_item, .ref y_city, .ref y_fresh, .int 0, .ref y_tape, .int 0, .int 0, .int 0, .int 0, .int 0, .int 0, .int 0, .int 0, .int 0, .int 0, .int 0, .ref y_cost, .ref y_away, .ref y_fee, .ref y_goesTo, .ref y_priceWas, .ref y_isKept, .ref y_kept, .ref y_trace, .int 0])), (y_city, .inl (cI, 192, .inl (fun _ => 0))), (x, .inr (8, [.ref xs, .ref xt, .ref xc, .ref xd, .ref xr, .ref xi, .ref xv, .ref xw, .ref xh, .ref xm, .ref xa, .int 0, .int 0]))] H := hP
    have hD : va_D A [(xc, .inr (1, [.int 0, .int 0, .int 0, .ref aCells, .ref aPrices, .ref aFree, .ref aPlaces, .ref aHomes, .ref aManners, .ref aGone, .ref aPaid, .ref aBlinks])), (y, .inr (9, [.int 0, .int 0, .ref y_lane, .ref y_many, .ref y_item, .ref y_city, .ref y_fresh, .int 0, .ref y_tape, .int 0, .int 0, .int 0, .int 0, .int 0, .int 0, .int 0, .int 0, .int 0, .int 0, .int 0, .ref y_cost, .ref y_away, .ref y_fee, .ref y_goesTo, .ref y_priceWas, .ref y_isKept, .ref y_kept, .ref y_trace, .int 0])), (y_city, .inl (cI, 192, .inl (fun _ => 0))), (x, .inr (8, [.ref xs, .ref xt, .ref xc, .ref xd, .ref xr, .ref xi, .ref xv, .ref xw, .ref xh, .ref xm, .ref xa, .int 0, .int 0]))] := hD
    refine lv_aload_n S.1 S.2.1 dL_law_849 rfl (lv_at hl 1 rfl) ?_
    refine lv_aload_n S.1 S.2.1 dL_law_850 rfl (lv_at hl 3 rfl) ?_
    refine lv_iload_n S.1 S.2.1 dL_law_851 rfl (lv_at hl 0 rfl) ?_
    refine lv_iconst (v := 1) S.1 S.2.1 dL_law_852 (by decide) ?_
    refine lv_iadd S.1 S.2.1 dL_law_853 ?_
    refine lv_topi (fun x_5 ex_5 => ?_)
    have ex_5 : x_5 = 1 := by rw [ex_5]; decide
    subst ex_5
    refine va_sld S.1 S.2.1 hX hbl hbA hS (by unfold vp_in; decide) dL_law_854 ?_
    refine W.eq (g2 := F0 m 855 ls [.int (sc 1), .ref y, .int (-1000001)]) rfl ?_
    refine b_ai (wr := [(xc, .inr (1, [.int 0, .int 0, .int 0, .ref aCells, .ref aPrices, .ref aFree, .ref aPlaces, .ref aHomes, .ref aManners, .ref aGone, .ref aPaid, .ref aBlinks])), (y_city, .inl (cI, 192, .inl (fun _ => 0))), (x, .inr (8, [.ref xs, .ref xt, .ref xc, .ref xd, .ref xr, .ref xi, .ref xv, .ref xw, .ref xh, .ref xm, .ref xa, .int 0, .int 0]))]) (b_runV (q0 := 1) (ci := 9) (As := [.int (sc 1)]) (c_X9_image_bad l D cI cZ cC cS sq H.size y y_lane y_many y_item y_city y_fresh y_tape y_cost y_away y_fee y_goesTo y_priceWas y_isKept y_kept y_trace (sc 1) (by assumption)) S gL_law_X9_image rfl hdV_X9_image ⟨Nat.le_of_ble_eq_true rfl, Nat.le_of_ble_eq_true rfl⟩ ⟨Nat.le_of_ble_eq_true rfl, Nat.le_of_ble_eq_true rfl⟩ hK hP hD rfl rfl [1] rfl (by decide) rfl hl.1 rfl (Nat.le_of_ble_eq_true rfl) dL_law_855) hP hD hS hA [1] [0, 2, 3] rfl rfl (by decide) (by decide) (fun r_6 w_7 H locs hw_8 hP hD hS => ?_)
    obtain ⟨rfl, rfl⟩ := hw_8
    have hP : va_P D vwCl [(xc, .inr (1, [.int 0, .int 0, .int 0, .ref aCells, .ref aPrices, .ref aFree, .ref aPlaces, .ref aHomes, .ref aManners, .ref aGone, .ref aPaid, .ref aBlinks])), (y_city, .inl (cI, 192, .inl (fun _ => 0))), (x, .inr (8, [.ref xs, .ref xt, .ref xc, .ref xd, .ref xr, .ref xi, .ref xv, .ref xw, .ref xh, .ref xm, .ref xa, .int 0, .int 0]))] H := hP
    have hD : va_D A [(xc, .inr (1, [.int 0, .int 0, .int 0, .ref aCells, .ref aPrices, .ref aFree, .ref aPlaces, .ref aHomes, .ref aManners, .ref aGone, .ref aPaid, .ref aBlinks])), (y_city, .inl (cI, 192, .inl (fun _ => 0))), (x, .inr (8, [.ref xs, .ref xt, .ref xc, .ref xd, .ref xr, .ref xi, .ref xv, .ref xw, .ref xh, .ref xm, .ref xa, .int 0, .int 0]))] := hD
    refine lv_icmp_eq (tgt := 1034) S.1 S.2.1 dL_law_858 (by decide) (fun c_9 => ?_) (fun c_9 => absurd c_9 (by decide))
    exact law_tail C hS (lv_sub hl [0, 3] rfl) (by decide) (by decide)
  · refine lv_aload_n S.1 S.2.1 dL_law_840 rfl (lv_at hl 2 rfl) ?_
    refine lv_aload_n S.1 S.2.1 dL_law_841 rfl (lv_at hl 3 rfl) ?_
    refine lv_iload_n S.1 S.2.1 dL_law_842 rfl (lv_at hl 0 rfl) ?_
    refine lv_iconst (v := 1) S.1 S.2.1 dL_law_843 (by decide) ?_
    refine lv_iadd S.1 S.2.1 dL_law_844 ?_
    refine lv_topi (fun x_1 ex_1 => ?_)
    have ex_1 : x_1 = 1 := by rw [ex_1]; decide
    subst ex_1
    refine va_sld S.1 S.2.1 hX hbl hbA hS (by unfold vp_in; decide) dL_law_845 ?_
    refine W.eq (g2 := F0 m 846 ls [.int (sc 1), .ref x]) rfl ?_
    refine b_ai (wr := [(y, .inr (9, [.int 0, .int 0, .ref y_lane, .ref y_many, .ref y_item, .ref y_city, .ref y_fresh, .int 0, .ref y_tape, .int 0, .int 0, .int 0, .int 0, .int 0, .int 0, .int 0, .int 0, .int 0, .int 0, .int 0, .ref y_cost, .ref y_away, .ref y_fee, .ref y_goesTo, .ref y_priceWas, .ref y_isKept, .ref y_kept, .ref y_trace, .int 0])), (y_city, .inl (cI, 192, .inl (fun _ => 0)))]) (b_runV (q0 := 0) (ci := 8) (As := [.int (sc 1)]) (c_X8_image_ok l D cI cZ cC cS sq H.size x xs xt xc xd xr xi xv xw xh xm xa aCells aPrices aFree aPlaces aHomes aManners aGone aPaid aBlinks (sc 1) (by assumption)) S gL_law_X8_image rfl hdV_X8_image ⟨Nat.le_of_ble_eq_true rfl, Nat.le_of_ble_eq_true rfl⟩ ⟨Nat.le_of_ble_eq_true rfl, Nat.le_of_ble_eq_true rfl⟩ hK hP hD rfl rfl [0, 1] rfl (by decide) rfl hl.1 rfl (Nat.le_of_ble_eq_true rfl) dL_law_846) hP hD hS hA [0, 1] [2, 3] rfl rfl (by decide) (by decide) (fun r_2 w_3 H locs hw_4 hP hD hS => ?_)
    obtain ⟨rfl, rfl⟩ := hw_4
    have hP : va_P D vwCl [(y, .inr (9, [.int 0, .int 0, .ref y_lane, .ref y_many, .ref y_item, .ref y_city, .ref y_fresh, .int 0, .ref y_tape, .int 0, .int 0, .int 0, .int 0, .int 0, .int 0, .int 0, .int 0, .int 0, .int 0, .int 0, .ref y_cost, .ref y_away, .ref y_fee, .ref y_goesTo, .ref y_priceWas, .ref y_isKept, .ref y_kept, .ref y_trace, .int 0])), (y_city, .inl (cI, 192, .inl (fun _ => 0))), (x, .inr (8, [.ref xs, .ref xt, .ref xc, .ref xd, .ref xr, .ref xi, .ref xv, .ref xw, .ref xh, .ref xm, .ref xa, .int 0, .int 0])), (xc, .inr (1, [.int 0, .int 0, .int 0, .ref aCells, .ref aPrices, .ref aFree, .ref aPlaces, .ref aHomes, .ref aManners, .ref aGone, .ref aPaid, .ref aBlinks]))] H := hP
    have hD : va_D A [(y, .inr (9, [.int 0, .int 0, .ref y_lane, .ref y_many, .ref y_item, .ref y_city, .ref y_fresh, .int 0, .ref y_tape, .int 0, .int 0, .int 0, .int 0, .int 0, .int 0, .int 0, .int 0, .int 0, .int 0, .int 0, .ref y_cost, .ref y_away, .ref y_fee, .ref y_goesTo, .ref y_priceWas, .ref y_isKept, .ref y_kept, .ref y_trace, .int 0])), (y_city, .inl (cI, 192, .inl (fun _ => 0))), (x, .inr (8, [.ref xs, .ref xt, .ref xc, .ref xd, .ref xr, .ref xi, .ref xv, .ref xw, .ref xh, .ref xm, .ref xa, .int 0, .int 0])), (xc, .inr (1, [.int 0, .int 0, .int 0, .ref aCells, .ref aPrices, .ref aFree, .ref aPlaces, .ref aHomes, .ref aManners, .ref aGone, .ref aPaid, .ref aBlinks]))] := hD
    refine lv_aload_n S.1 S.2.1 dL_law_849 rfl (lv_at hl 1 rfl) ?_
    refine lv_aload_n S.1 S.2.1 dL_law_850 rfl (lv_at hl 3 rfl) ?_
    refine lv_iload_n S.1 S.2.1 dL_law_851 rfl (lv_at hl 0 rfl) ?_
    refine lv_iconst (v := 1) S.1 S.2.1 dL_law_852 (by decide) ?_
    refine lv_iadd S.1 S.2.1 dL_law_853 ?_
    refine lv_topi (fun x_5 ex_5 => ?_)
    have ex_5 : x_5 = 1 := by rw [ex_5]; decide
    subst ex_5
    refine va_sld S.1 S.2.1 hX hbl hbA hS (by unfold vp_in; decide) dL_law_854 ?_
    refine W.eq (g2 := F0 m 855 ls [.int (sc 1), .ref y, .int (-1000002)]) rfl ?_
    refine b_ai (wr := [(y_city, .inl (cI, 192, .inl (fun _ => 0))), (x, .inr (8, [.ref xs, .ref xt, .ref xc, .ref xd, .ref xr, .ref xi, .ref xv, .ref xw, .ref xh, .ref xm, .ref xa, .int 0, .int 0])), (xc, .inr (1, [.int 0, .int 0, .int 0, .ref aCells, .ref aPrices, .ref aFree, .ref aPlaces, .ref aHomes, .ref aManners, .ref aGone, .ref aPaid, .ref aBlinks]))]) (b_runV (q0 := 0) (ci := 9) (As := [.int (sc 1)]) (c_X9_image_ok l D cI cZ cC cS sq H.size y y_lane y_many y_item y_city y_fresh y_tape y_cost y_away y_fee y_goesTo y_priceWas y_isKept y_kept y_trace (sc 1) (by assumption)) S gL_law_X9_image rfl hdV_X9_image ⟨Nat.le_of_ble_eq_true rfl, Nat.le_of_ble_eq_true rfl⟩ ⟨Nat.le_of_ble_eq_true rfl, Nat.le_of_ble_eq_true rfl⟩ hK hP hD rfl rfl [0] rfl (by decide) rfl hl.1 rfl (Nat.le_of_ble_eq_true rfl) dL_law_855) hP hD hS hA [0] [1, 2, 3] rfl rfl (by decide) (by decide) (fun r_6 w_7 H locs hw_8 hP hD hS => ?_)
    obtain ⟨rfl, rfl⟩ := hw_8
    have hP : va_P D vwCl [(y_city, .inl (cI, 192, .inl (fun _ => 0))), (x, .inr (8, [.ref xs, .ref xt, .ref xc, .ref xd, .ref xr, .ref xi, .ref xv, .ref xw, .ref xh, .ref xm, .ref xa, .int 0, .int 0])), (xc, .inr (1, [.int 0, .int 0, .int 0, .ref aCells, .ref aPrices, .ref aFree, .ref aPlaces, .ref aHomes, .ref aManners, .ref aGone, .ref aPaid, .ref aBlinks]))] H := hP
    have hD : va_D A [(y_city, .inl (cI, 192, .inl (fun _ => 0))), (x, .inr (8, [.ref xs, .ref xt, .ref xc, .ref xd, .ref xr, .ref xi, .ref xv, .ref xw, .ref xh, .ref xm, .ref xa, .int 0, .int 0])), (xc, .inr (1, [.int 0, .int 0, .int 0, .ref aCells, .ref aPrices, .ref aFree, .ref aPlaces, .ref aHomes, .ref aManners, .ref aGone, .ref aPaid, .ref aBlinks]))] := hD
    refine lv_icmp_eq (tgt := 1034) S.1 S.2.1 dL_law_858 (by decide) (fun c_9 => ?_) (fun c_9 => absurd c_9 (by decide))
    exact law_tail C hS (lv_sub hl [0, 3] rfl) (by decide) (by decide)
set_option maxHeartbeats 4000000 in
set_option maxRecDepth 100000 in
theorem law_restore {p : Program} (l : Launch) {e : Env} {s : State} {m : MethodId} {below : List Frame} {meth : Method} {c : Code} (D : va_G) (cI cZ cC cS : ClassId) (sq : Nat) {b : Nat} {sc : Nat → Int32} {A : Nat → Prop} (C : lC p s m meth c b sc A) (hK : kW D (tyW cI cZ cC cS) sq s) (x : Nat) (xs : Nat) (xt : Nat) (xc : Nat) (xd : Nat) (xr : Nat) (xi : Nat) (xv : Nat) (xw : Nat) (xh : Nat) (xm : Nat) (xa : Nat) (y : Nat) (y_lane : Nat) (y_many : Nat) (y_item : Nat) (y_city : Nat) (y_fresh : Nat) (y_tape : Nat) (y_cost : Nat) (y_away : Nat) (y_fee : Nat) (y_goesTo : Nat) (y_priceWas : Nat) (y_isKept : Nat) (y_kept : Nat) (y_trace : Nat) (gi : Nat → Option Nat) (im0 : Nat) (im1 : Nat) (e0 : Nat) (e1 : Nat) (e2 : Nat) (e3 : Nat) (e4 : Nat) (e5 : Nat) (e6 : Nat) (e7 : Nat) (e8 : Nat) (g0 : Nat) (g1 : Nat) (g2 : Nat) (g3 : Nat) (g4 : Nat) (g5 : Nat) (g6 : Nat) (g7 : Nat) (g8 : Nat) (hgi0 : gi 0 = some im0) (hgi1 : gi 1 = some im1) {H : Heap} {locs : List Loc} {ls : Array Slot} (hP : va_P D vwCl [(x, .inr (8, [.ref xs, .ref xt, .ref xc, .ref xd, .ref xr, .ref xi, .ref xv, .ref xw, .ref xh, .ref xm, .ref xa, .int 0, .int 0])), (xi, .inl (cC, 2, .inr (.inr (.inr (.inr gi))))), (im0, .inr (1, [.int 0, .int 0, .int 0, .ref e0, .ref e1, .ref e2, .ref e3, .ref e4, .ref e5, .ref e6, .ref e7, .ref e8])), (im1, .inr (1, [.int 0, .int 0, .int 0, .ref g0, .ref g1, .ref g2, .ref g3, .ref g4, .ref g5, .ref g6, .ref g7, .ref g8])), (y, .inr (9, [.int 0, .int 0, .ref y_lane, .ref y_many, .ref y_item, .ref y_city, .ref y_fresh, .int 0, .ref y_tape, .int 0, .int 0, .int 0, .int 0, .int 0, .int 0, .int 0, .int 0, .int 0, .int 0, .int 0, .ref y_cost, .ref y_away, .ref y_fee, .ref y_goesTo, .ref y_priceWas, .ref y_isKept, .ref y_kept, .ref y_trace, .int 0])), (y_isKept, .inl (cZ, 2, .inl (fun _ => 0)))] H) (hD : va_D A [(x, .inr (8, [.ref xs, .ref xt, .ref xc, .ref xd, .ref xr, .ref xi, .ref xv, .ref xw, .ref xh, .ref xm, .ref xa, .int 0, .int 0])), (xi, .inl (cC, 2, .inr (.inr (.inr (.inr gi))))), (im0, .inr (1, [.int 0, .int 0, .int 0, .ref e0, .ref e1, .ref e2, .ref e3, .ref e4, .ref e5, .ref e6, .ref e7, .ref e8])), (im1, .inr (1, [.int 0, .int 0, .int 0, .ref g0, .ref g1, .ref g2, .ref g3, .ref g4, .ref g5, .ref g6, .ref g7, .ref g8])), (y, .inr (9, [.int 0, .int 0, .ref y_lane, .ref y_many, .ref y_item, .ref y_city, .ref y_fresh, .int 0, .ref y_tape, .int 0, .int 0, .int 0, .int 0, .int 0, .int 0, .int 0, .int 0, .int 0, .int 0, .int 0, .ref y_cost, .ref y_away, .ref y_fee, .ref y_goesTo, .ref y_priceWas, .ref y_isKept, .ref y_kept, .ref y_trace, .int 0])), (y_isKept, .inl (cZ, 2, .inl (fun _ => 0)))]) (hS : va_S A s.heap H locs) (hl : lv_has ls 4 [(3, .int 0), (2, .ref y), (1, .ref x), (0, .ref b)]) : W p l e room_1 s m #[Value.ref b] below meth c H locs 98 12032 (lw_Z below #[Value.ref b] s) (F0 m 863 ls []) := by
  obtain ⟨S, hr_, hk_, hX, hbl, hA, hAf⟩ := id C
  have hbA : ¬ A b := fun z => absurd (hAf b z) (Nat.not_le.mpr hbl)
  rcases (show ((sc 1).toInt < 0 ∨ 1 < (sc 1).toInt) ∨ ((sc 1).toInt = 0) ∨ ((sc 1).toInt = 1) by omega) with hr | h0 | h0
  · refine lv_aload_n S.1 S.2.1 dL_law_863 rfl (lv_at hl 2 rfl) ?_
    refine lv_aload_n S.1 S.2.1 dL_law_864 rfl (lv_at hl 3 rfl) ?_
    refine lv_iload_n S.1 S.2.1 dL_law_865 rfl (lv_at hl 0 rfl) ?_
    refine lv_iconst (v := 1) S.1 S.2.1 dL_law_866 (by decide) ?_
    refine lv_iadd S.1 S.2.1 dL_law_867 ?_
    refine lv_topi (fun x_1 ex_1 => ?_)
    have ex_1 : x_1 = 1 := by rw [ex_1]; decide
    subst ex_1
    refine va_sld S.1 S.2.1 hX hbl hbA hS (by unfold vp_in; decide) dL_law_868 ?_
    refine W.eq (g2 := F0 m 869 ls [.int (sc 1), .ref x]) rfl ?_
    refine b_ai (wr := [(xi, .inl (cC, 2, .inr (.inr (.inr (.inr gi))))), (im0, .inr (1, [.int 0, .int 0, .int 0, .ref e0, .ref e1, .ref e2, .ref e3, .ref e4, .ref e5, .ref e6, .ref e7, .ref e8])), (im1, .inr (1, [.int 0, .int 0, .int 0, .ref g0, .ref g1, .ref g2, .ref g3, .ref g4, .ref g5, .ref g6, .ref g7, .ref g8])), (y, .inr (9, [.int 0, .int 0, .ref y_lane, .ref y_many, .ref y_item, .ref y_city, .ref y_fresh, .int 0, .ref y_tape, .int 0, .int 0, .int 0, .int 0, .int 0, .int 0, .int 0, .int 0, .int 0, .int 0, .int 0, .ref y_cost, .ref y_away, .ref y_fee, .ref y_goesTo, .ref y_priceWas, .ref y_isKept, .ref y_kept, .ref y_trace, .int 0])), (y_isKept, .inl (cZ, 2, .inl (fun _ => 0)))]) (b_runV (q0 := 0) (ci := 8) (As := [.int (sc 1)]) (c_X8_restore_bad l D cI cZ cC cS sq H.size x xs xt xc xd xr xi xv xw xh xm xa (sc 1) (by assumption)) S gL_law_X8_restore rfl hdV_X8_restore ⟨Nat.le_of_ble_eq_true rfl, Nat.le_of_ble_eq_true rfl⟩ ⟨Nat.le_of_ble_eq_true rfl, Nat.le_of_ble_eq_true rfl⟩ hK hP hD rfl rfl [0] rfl (by decide) rfl hl.1 rfl (Nat.le_of_ble_eq_true rfl) dL_law_869) hP hD hS hA [0] [1, 2, 3, 4, 5] rfl rfl (by decide) (by decide) (fun r_2 w_3 H locs hw_4 hP hD hS => ?_)
    obtain ⟨rfl, rfl⟩ := hw_4
    have hP : va_P D vwCl [(xi, .inl (cC, 2, .inr (.inr (.inr (.inr gi))))), (im0, .inr (1, [.int 0, .int 0, .int 0, .ref e0, .ref e1, .ref e2, .ref e3, .ref e4, .ref e5, .ref e6, .ref e7, .ref e8])), (im1, .inr (1, [.int 0, .int 0, .int 0, .ref g0, .ref g1, .ref g2, .ref g3, .ref g4, .ref g5, .ref g6, .ref g7, .ref g8])), (y, .inr (9, [.int 0, .int 0, .ref y_lane, .ref y_many, .ref y_item, .ref y_city, .ref y_fresh, .int 0, .ref y_tape, .int 0, .int 0, .int 0, .int 0, .int 0, .int 0, .int 0, .int 0, .int 0, .int 0, .int 0, .ref y_cost, .ref y_away, .ref y_fee, .ref y_goesTo, .ref y_priceWas, .ref y_isKept, .ref y_kept, .ref y_trace, .int 0])), (y_isKept, .inl (cZ, 2, .inl (fun _ => 0))), (x, .inr (8, [.ref xs, .ref xt, .ref xc, .ref xd, .ref xr, .ref xi, .ref xv, .ref xw, .ref xh, .ref xm, .ref xa, .int 0, .int 0]))] H := hP
    have hD : va_D A [(xi, .inl (cC, 2, .inr (.inr (.inr (.inr gi))))), (im0, .inr (1, [.int 0, .int 0, .int 0, .ref e0, .ref e1, .ref e2, .ref e3, .ref e4, .ref e5, .ref e6, .ref e7, .ref e8])), (im1, .inr (1, [.int 0, .int 0, .int 0, .ref g0, .ref g1, .ref g2, .ref g3, .ref g4, .ref g5, .ref g6, .ref g7, .ref g8])), (y, .inr (9, [.int 0, .int 0, .ref y_lane, .ref y_many, .ref y_item, .ref y_city, .ref y_fresh, .int 0, .ref y_tape, .int 0, .int 0, .int 0, .int 0, .int 0, .int 0, .int 0, .int 0, .int 0, .int 0, .int 0, .ref y_cost, .ref y_away, .ref y_fee, .ref y_goesTo, .ref y_priceWas, .ref y_isKept, .ref y_kept, .ref y_trace, .int 0])), (y_isKept, .inl (cZ, 2, .inl (fun _ => 0))), (x, .inr (8, [.ref xs, .ref xt, .ref xc, .ref xd, .ref xr, .ref xi, .ref xv, .ref xw, .ref xh, .ref xm, .ref xa, .int 0, .int 0]))] := hD
    refine lv_aload_n S.1 S.2.1 dL_law_872 rfl (lv_at hl 1 rfl) ?_
    refine lv_aload_n S.1 S.2.1 dL_law_873 rfl (lv_at hl 3 rfl) ?_
    refine lv_iload_n S.1 S.2.1 dL_law_874 rfl (lv_at hl 0 rfl) ?_
    refine lv_iconst (v := 1) S.1 S.2.1 dL_law_875 (by decide) ?_
    refine lv_iadd S.1 S.2.1 dL_law_876 ?_
    refine lv_topi (fun x_5 ex_5 => ?_)
    have ex_5 : x_5 = 1 := by rw [ex_5]; decide
    subst ex_5
    refine va_sld S.1 S.2.1 hX hbl hbA hS (by unfold vp_in; decide) dL_law_877 ?_
    refine W.eq (g2 := F0 m 878 ls [.int (sc 1), .ref y, .int (-1000001)]) rfl ?_
    refine b_ai (wr := [(xi, .inl (cC, 2, .inr (.inr (.inr (.inr gi))))), (im0, .inr (1, [.int 0, .int 0, .int 0, .ref e0, .ref e1, .ref e2, .ref e3, .ref e4, .ref e5, .ref e6, .ref e7, .ref e8])), (im1, .inr (1, [.int 0, .int 0, .int 0, .ref g0, .ref g1, .ref g2, .ref g3, .ref g4, .ref g5, .ref g6, .ref g7, .ref g8])), (y_isKept, .inl (cZ, 2, .inl (fun _ => 0))), (x, .inr (8, [.ref xs, .ref xt, .ref xc, .ref xd, .ref xr, .ref xi, .ref xv, .ref xw, .ref xh, .ref xm, .ref xa, .int 0, .int 0]))]) (b_runV (q0 := 3) (ci := 9) (As := [.int (sc 1)]) (c_X9_restore_bad l D cI cZ cC cS sq H.size y y_lane y_many y_item y_city y_fresh y_tape y_cost y_away y_fee y_goesTo y_priceWas y_isKept y_kept y_trace (sc 1) (by assumption)) S gL_law_X9_restore rfl hdV_X9_restore ⟨Nat.le_of_ble_eq_true rfl, Nat.le_of_ble_eq_true rfl⟩ ⟨Nat.le_of_ble_eq_true rfl, Nat.le_of_ble_eq_true rfl⟩ hK hP hD rfl rfl [3] rfl (by decide) rfl hl.1 rfl (Nat.le_of_ble_eq_true rfl) dL_law_878) hP hD hS hA [3] [0, 1, 2, 4, 5] rfl rfl (by decide) (by decide) (fun r_6 w_7 H locs hw_8 hP hD hS => ?_)
    obtain ⟨rfl, rfl⟩ := hw_8
    have hP : va_P D vwCl [(xi, .inl (cC, 2, .inr (.inr (.inr (.inr gi))))), (im0, .inr (1, [.int 0, .int 0, .int 0, .ref e0, .ref e1, .ref e2, .ref e3, .ref e4, .ref e5, .ref e6, .ref e7, .ref e8])), (im1, .inr (1, [.int 0, .int 0, .int 0, .ref g0, .ref g1, .ref g2, .ref g3, .ref g4, .ref g5, .ref g6, .ref g7, .ref g8])), (y_isKept, .inl (cZ, 2, .inl (fun _ => 0))), (x, .inr (8, [.ref xs, .ref xt, .ref xc, .ref xd, .ref xr, .ref xi, .ref xv, .ref xw, .ref xh, .ref xm, .ref xa, .int 0, .int 0]))] H := hP
    have hD : va_D A [(xi, .inl (cC, 2, .inr (.inr (.inr (.inr gi))))), (im0, .inr (1, [.int 0, .int 0, .int 0, .ref e0, .ref e1, .ref e2, .ref e3, .ref e4, .ref e5, .ref e6, .ref e7, .ref e8])), (im1, .inr (1, [.int 0, .int 0, .int 0, .ref g0, .ref g1, .ref g2, .ref g3, .ref g4, .ref g5, .ref g6, .ref g7, .ref g8])), (y_isKept, .inl (cZ, 2, .inl (fun _ => 0))), (x, .inr (8, [.ref xs, .ref xt, .ref xc, .ref xd, .ref xr, .ref xi, .ref xv, .ref xw, .ref xh, .ref xm, .ref xa, .int 0, .int 0]))] := hD
    refine lv_icmp_eq (tgt := 1034) S.1 S.2.1 dL_law_881 (by decide) (fun c_9 => ?_) (fun c_9 => absurd c_9 (by decide))
    exact law_tail C hS (lv_sub hl [0, 3] rfl) (by decide) (by decide)
  · refine lv_aload_n S.1 S.2.1 dL_law_863 rfl (lv_at hl 2 rfl) ?_
    refine lv_aload_n S.1 S.2.1 dL_law_864 rfl (lv_at hl 3 rfl) ?_
    refine lv_iload_n S.1 S.2.1 dL_law_865 rfl (lv_at hl 0 rfl) ?_
    refine lv_iconst (v := 1) S.1 S.2.1 dL_law_866 (by decide) ?_
    refine lv_iadd S.1 S.2.1 dL_law_867 ?_
    refine lv_topi (fun x_1 ex_1 => ?_)
    have ex_1 : x_1 = 1 := by rw [ex_1]; decide
    subst ex_1
    refine va_sld S.1 S.2.1 hX hbl hbA hS (by unfold vp_in; decide) dL_law_868 ?_
    refine W.eq (g2 := F0 m 869 ls [.int (sc 1), .ref x]) rfl ?_
    refine b_ai (wr := [(im1, .inr (1, [.int 0, .int 0, .int 0, .ref g0, .ref g1, .ref g2, .ref g3, .ref g4, .ref g5, .ref g6, .ref g7, .ref g8])), (y, .inr (9, [.int 0, .int 0, .ref y_lane, .ref y_many, .ref y_item, .ref y_city, .ref y_fresh, .int 0, .ref y_tape, .int 0, .int 0, .int 0, .int 0, .int 0, .int 0, .int 0, .int 0, .int 0, .int 0, .int 0, .ref y_cost, .ref y_away, .ref y_fee, .ref y_goesTo, .ref y_priceWas, .ref y_isKept, .ref y_kept, .ref y_trace, .int 0])), (y_isKept, .inl (cZ, 2, .inl (fun _ => 0)))]) (b_runV (q0 := 0) (ci := 8) (As := [.int (sc 1)]) (c_X8_restore_ok l D cI cZ cC cS sq H.size x xs xt xc xd xr xi xv xw xh xm xa gi im0 e0 e1 e2 e3 e4 e5 e6 e7 e8 (sc 1) (by omega) (by rw [show (sc 1).toNatClampNeg = 0 from by have h2 : (sc 1).toNatClampNeg = (sc 1).toInt.toNat := rfl; omega]; exact hgi0)) S gL_law_X8_restore rfl hdV_X8_restore ⟨Nat.le_of_ble_eq_true rfl, Nat.le_of_ble_eq_true rfl⟩ ⟨Nat.le_of_ble_eq_true rfl, Nat.le_of_ble_eq_true rfl⟩ hK hP hD rfl rfl [0, 1, 2] rfl (by decide) rfl hl.1 rfl (Nat.le_of_ble_eq_true rfl) dL_law_869) hP hD hS hA [0, 1, 2] [3, 4, 5] rfl rfl (by decide) (by decide) (fun r_2 w_3 H locs hw_4 hP hD hS => ?_)
    obtain ⟨rfl, rfl⟩ := hw_4
    have hP : va_P D vwCl [(im1, .inr (1, [.int 0, .int 0, .int 0, .ref g0, .ref g1, .ref g2, .ref g3, .ref g4, .ref g5, .ref g6, .ref g7, .ref g8])), (y, .inr (9, [.int 0, .int 0, .ref y_lane, .ref y_many, .ref y_item, .ref y_city, .ref y_fresh, .int 0, .ref y_tape, .int 0, .int 0, .int 0, .int 0, .int 0, .int 0, .int 0, .int 0, .int 0, .int 0, .int 0, .ref y_cost, .ref y_away, .ref y_fee, .ref y_goesTo, .ref y_priceWas, .ref y_isKept, .ref y_kept, .ref y_trace, .int 0])), (y_isKept, .inl (cZ, 2, .inl (fun _ => 0))), (x, .inr (8, [.ref xs, .ref xt, .ref xc, .ref xd, .ref xr, .ref xi, .ref xv, .ref xw, .ref xh, .ref xm, .ref xa, .int 0, .int 0])), (xi, .inl (cC, 2, .inr (.inr (.inr (.inr gi))))), (im0, .inr (1, [.int 0, .int 0, .int 0, .ref e0, .ref e1, .ref e2, .ref e3, .ref e4, .ref e5, .ref e6, .ref e7, .ref e8]))] H := hP
    have hD : va_D A [(im1, .inr (1, [.int 0, .int 0, .int 0, .ref g0, .ref g1, .ref g2, .ref g3, .ref g4, .ref g5, .ref g6, .ref g7, .ref g8])), (y, .inr (9, [.int 0, .int 0, .ref y_lane, .ref y_many, .ref y_item, .ref y_city, .ref y_fresh, .int 0, .ref y_tape, .int 0, .int 0, .int 0, .int 0, .int 0, .int 0, .int 0, .int 0, .int 0, .int 0, .int 0, .ref y_cost, .ref y_away, .ref y_fee, .ref y_goesTo, .ref y_priceWas, .ref y_isKept, .ref y_kept, .ref y_trace, .int 0])), (y_isKept, .inl (cZ, 2, .inl (fun _ => 0))), (x, .inr (8, [.ref xs, .ref xt, .ref xc, .ref xd, .ref xr, .ref xi, .ref xv, .ref xw, .ref xh, .ref xm, .ref xa, .int 0, .int 0])), (xi, .inl (cC, 2, .inr (.inr (.inr (.inr gi))))), (im0, .inr (1, [.int 0, .int 0, .int 0, .ref e0, .ref e1, .ref e2, .ref e3, .ref e4, .ref e5, .ref e6, .ref e7, .ref e8]))] := hD
    refine lv_aload_n S.1 S.2.1 dL_law_872 rfl (lv_at hl 1 rfl) ?_
    refine lv_aload_n S.1 S.2.1 dL_law_873 rfl (lv_at hl 3 rfl) ?_
    refine lv_iload_n S.1 S.2.1 dL_law_874 rfl (lv_at hl 0 rfl) ?_
    refine lv_iconst (v := 1) S.1 S.2.1 dL_law_875 (by decide) ?_
    refine lv_iadd S.1 S.2.1 dL_law_876 ?_
    refine lv_topi (fun x_5 ex_5 => ?_)
    have ex_5 : x_5 = 1 := by rw [ex_5]; decide
    subst ex_5
    refine va_sld S.1 S.2.1 hX hbl hbA hS (by unfold vp_in; decide) dL_law_877 ?_
    refine W.eq (g2 := F0 m 878 ls [.int (sc 1), .ref y, .int (-1000002)]) rfl ?_
    refine b_ai (wr := [(im1, .inr (1, [.int 0, .int 0, .int 0, .ref g0, .ref g1, .ref g2, .ref g3, .ref g4, .ref g5, .ref g6, .ref g7, .ref g8])), (x, .inr (8, [.ref xs, .ref xt, .ref xc, .ref xd, .ref xr, .ref xi, .ref xv, .ref xw, .ref xh, .ref xm, .ref xa, .int 0, .int 0])), (xi, .inl (cC, 2, .inr (.inr (.inr (.inr gi))))), (im0, .inr (1, [.int 0, .int 0, .int 0, .ref e0, .ref e1, .ref e2, .ref e3, .ref e4, .ref e5, .ref e6, .ref e7, .ref e8]))]) (b_runV (q0 := 1) (ci := 9) (As := [.int (sc 1)]) (c_X9_restore_ok l D cI cZ cC cS sq H.size y y_lane y_many y_item y_city y_fresh y_tape y_cost y_away y_fee y_goesTo y_priceWas y_isKept y_kept y_trace (sc 1) (by omega)) S gL_law_X9_restore rfl hdV_X9_restore ⟨Nat.le_of_ble_eq_true rfl, Nat.le_of_ble_eq_true rfl⟩ ⟨Nat.le_of_ble_eq_true rfl, Nat.le_of_ble_eq_true rfl⟩ hK hP hD rfl rfl [1, 2] rfl (by decide) rfl hl.1 rfl (Nat.le_of_ble_eq_true rfl) dL_law_878) hP hD hS hA [1, 2] [0, 3, 4, 5] rfl rfl (by decide) (by decide) (fun r_6 w_7 H locs hw_8 hP hD hS => ?_)
    obtain ⟨rfl, rfl⟩ := hw_8
    have hP : va_P D vwCl [(im1, .inr (1, [.int 0, .int 0, .int 0, .ref g0, .ref g1, .ref g2, .ref g3, .ref g4, .ref g5, .ref g6, .ref g7, .ref g8])), (x, .inr (8, [.ref xs, .ref xt, .ref xc, .ref xd, .ref xr, .ref xi, .ref xv, .ref xw, .ref xh, .ref xm, .ref xa, .int 0, .int 0])), (xi, .inl (cC, 2, .inr (.inr (.inr (.inr gi))))), (im0, .inr (1, [.int 0, .int 0, .int 0, .ref e0, .ref e1, .ref e2, .ref e3, .ref e4, .ref e5, .ref e6, .ref e7, .ref e8]))] H := hP
    have hD : va_D A [(im1, .inr (1, [.int 0, .int 0, .int 0, .ref g0, .ref g1, .ref g2, .ref g3, .ref g4, .ref g5, .ref g6, .ref g7, .ref g8])), (x, .inr (8, [.ref xs, .ref xt, .ref xc, .ref xd, .ref xr, .ref xi, .ref xv, .ref xw, .ref xh, .ref xm, .ref xa, .int 0, .int 0])), (xi, .inl (cC, 2, .inr (.inr (.inr (.inr gi))))), (im0, .inr (1, [.int 0, .int 0, .int 0, .ref e0, .ref e1, .ref e2, .ref e3, .ref e4, .ref e5, .ref e6, .ref e7, .ref e8]))] := hD
    refine lv_icmp_eq (tgt := 1034) S.1 S.2.1 dL_law_881 (by decide) (fun c_9 => ?_) (fun c_9 => absurd c_9 (by decide))
    exact law_tail C hS (lv_sub hl [0, 3] rfl) (by decide) (by decide)
  · refine lv_aload_n S.1 S.2.1 dL_law_863 rfl (lv_at hl 2 rfl) ?_
    refine lv_aload_n S.1 S.2.1 dL_law_864 rfl (lv_at hl 3 rfl) ?_
    refine lv_iload_n S.1 S.2.1 dL_law_865 rfl (lv_at hl 0 rfl) ?_
    refine lv_iconst (v := 1) S.1 S.2.1 dL_law_866 (by decide) ?_
    refine lv_iadd S.1 S.2.1 dL_law_867 ?_
    refine lv_topi (fun x_1 ex_1 => ?_)
    have ex_1 : x_1 = 1 := by rw [ex_1]; decide
    subst ex_1
    refine va_sld S.1 S.2.1 hX hbl hbA hS (by unfold vp_in; decide) dL_law_868 ?_
    refine W.eq (g2 := F0 m 869 ls [.int (sc 1), .ref x]) rfl ?_
    refine b_ai (wr := [(im0, .inr (1, [.int 0, .int 0, .int 0, .ref e0, .ref e1, .ref e2, .ref e3, .ref e4, .ref e5, .ref e6, .ref e7, .ref e8])), (y, .inr (9, [.int 0, .int 0, .ref y_lane, .ref y_many, .ref y_item, .ref y_city, .ref y_fresh, .int 0, .ref y_tape, .int 0, .int 0, .int 0, .int 0, .int 0, .int 0, .int 0, .int 0, .int 0, .int 0, .int 0, .ref y_cost, .ref y_away, .ref y_fee, .ref y_goesTo, .ref y_priceWas, .ref y_isKept, .ref y_kept, .ref y_trace, .int 0])), (y_isKept, .inl (cZ, 2, .inl (fun _ => 0)))]) (b_runV (q0 := 0) (ci := 8) (As := [.int (sc 1)]) (c_X8_restore_ok l D cI cZ cC cS sq H.size x xs xt xc xd xr xi xv xw xh xm xa gi im1 g0 g1 g2 g3 g4 g5 g6 g7 g8 (sc 1) (by omega) (by rw [show (sc 1).toNatClampNeg = 1 from by have h2 : (sc 1).toNatClampNeg = (sc 1).toInt.toNat := rfl; omega]; exact hgi1)) S gL_law_X8_restore rfl hdV_X8_restore ⟨Nat.le_of_ble_eq_true rfl, Nat.le_of_ble_eq_true rfl⟩ ⟨Nat.le_of_ble_eq_true rfl, Nat.le_of_ble_eq_true rfl⟩ hK hP hD rfl rfl [0, 1, 3] rfl (by decide) rfl hl.1 rfl (Nat.le_of_ble_eq_true rfl) dL_law_869) hP hD hS hA [0, 1, 3] [2, 4, 5] rfl rfl (by decide) (by decide) (fun r_2 w_3 H locs hw_4 hP hD hS => ?_)
    obtain ⟨rfl, rfl⟩ := hw_4
    have hP : va_P D vwCl [(im0, .inr (1, [.int 0, .int 0, .int 0, .ref e0, .ref e1, .ref e2, .ref e3, .ref e4, .ref e5, .ref e6, .ref e7, .ref e8])), (y, .inr (9, [.int 0, .int 0, .ref y_lane, .ref y_many, .ref y_item, .ref y_city, .ref y_fresh, .int 0, .ref y_tape, .int 0, .int 0, .int 0, .int 0, .int 0, .int 0, .int 0, .int 0, .int 0, .int 0, .int 0, .ref y_cost, .ref y_away, .ref y_fee, .ref y_goesTo, .ref y_priceWas, .ref y_isKept, .ref y_kept, .ref y_trace, .int 0])), (y_isKept, .inl (cZ, 2, .inl (fun _ => 0))), (x, .inr (8, [.ref xs, .ref xt, .ref xc, .ref xd, .ref xr, .ref xi, .ref xv, .ref xw, .ref xh, .ref xm, .ref xa, .int 0, .int 0])), (xi, .inl (cC, 2, .inr (.inr (.inr (.inr gi))))), (im1, .inr (1, [.int 0, .int 0, .int 0, .ref g0, .ref g1, .ref g2, .ref g3, .ref g4, .ref g5, .ref g6, .ref g7, .ref g8]))] H := hP
    have hD : va_D A [(im0, .inr (1, [.int 0, .int 0, .int 0, .ref e0, .ref e1, .ref e2, .ref e3, .ref e4, .ref e5, .ref e6, .ref e7, .ref e8])), (y, .inr (9, [.int 0, .int 0, .ref y_lane, .ref y_many, .ref y_item, .ref y_city, .ref y_fresh, .int 0, .ref y_tape, .int 0, .int 0, .int 0, .int 0, .int 0, .int 0, .int 0, .int 0, .int 0, .int 0, .int 0, .ref y_cost, .ref y_away, .ref y_fee, .ref y_goesTo, .ref y_priceWas, .ref y_isKept, .ref y_kept, .ref y_trace, .int 0])), (y_isKept, .inl (cZ, 2, .inl (fun _ => 0))), (x, .inr (8, [.ref xs, .ref xt, .ref xc, .ref xd, .ref xr, .ref xi, .ref xv, .ref xw, .ref xh, .ref xm, .ref xa, .int 0, .int 0])), (xi, .inl (cC, 2, .inr (.inr (.inr (.inr gi))))), (im1, .inr (1, [.int 0, .int 0, .int 0, .ref g0, .ref g1, .ref g2, .ref g3, .ref g4, .ref g5, .ref g6, .ref g7, .ref g8]))] := hD
    refine lv_aload_n S.1 S.2.1 dL_law_872 rfl (lv_at hl 1 rfl) ?_
    refine lv_aload_n S.1 S.2.1 dL_law_873 rfl (lv_at hl 3 rfl) ?_
    refine lv_iload_n S.1 S.2.1 dL_law_874 rfl (lv_at hl 0 rfl) ?_
    refine lv_iconst (v := 1) S.1 S.2.1 dL_law_875 (by decide) ?_
    refine lv_iadd S.1 S.2.1 dL_law_876 ?_
    refine lv_topi (fun x_5 ex_5 => ?_)
    have ex_5 : x_5 = 1 := by rw [ex_5]; decide
    subst ex_5
    refine va_sld S.1 S.2.1 hX hbl hbA hS (by unfold vp_in; decide) dL_law_877 ?_
    refine W.eq (g2 := F0 m 878 ls [.int (sc 1), .ref y, .int (-1000002)]) rfl ?_
    refine b_ai (wr := [(im0, .inr (1, [.int 0, .int 0, .int 0, .ref e0, .ref e1, .ref e2, .ref e3, .ref e4, .ref e5, .ref e6, .ref e7, .ref e8])), (x, .inr (8, [.ref xs, .ref xt, .ref xc, .ref xd, .ref xr, .ref xi, .ref xv, .ref xw, .ref xh, .ref xm, .ref xa, .int 0, .int 0])), (xi, .inl (cC, 2, .inr (.inr (.inr (.inr gi))))), (im1, .inr (1, [.int 0, .int 0, .int 0, .ref g0, .ref g1, .ref g2, .ref g3, .ref g4, .ref g5, .ref g6, .ref g7, .ref g8]))]) (b_runV (q0 := 1) (ci := 9) (As := [.int (sc 1)]) (c_X9_restore_ok l D cI cZ cC cS sq H.size y y_lane y_many y_item y_city y_fresh y_tape y_cost y_away y_fee y_goesTo y_priceWas y_isKept y_kept y_trace (sc 1) (by omega)) S gL_law_X9_restore rfl hdV_X9_restore ⟨Nat.le_of_ble_eq_true rfl, Nat.le_of_ble_eq_true rfl⟩ ⟨Nat.le_of_ble_eq_true rfl, Nat.le_of_ble_eq_true rfl⟩ hK hP hD rfl rfl [1, 2] rfl (by decide) rfl hl.1 rfl (Nat.le_of_ble_eq_true rfl) dL_law_878) hP hD hS hA [1, 2] [0, 3, 4, 5] rfl rfl (by decide) (by decide) (fun r_6 w_7 H locs hw_8 hP hD hS => ?_)
    obtain ⟨rfl, rfl⟩ := hw_8
    have hP : va_P D vwCl [(im0, .inr (1, [.int 0, .int 0, .int 0, .ref e0, .ref e1, .ref e2, .ref e3, .ref e4, .ref e5, .ref e6, .ref e7, .ref e8])), (x, .inr (8, [.ref xs, .ref xt, .ref xc, .ref xd, .ref xr, .ref xi, .ref xv, .ref xw, .ref xh, .ref xm, .ref xa, .int 0, .int 0])), (xi, .inl (cC, 2, .inr (.inr (.inr (.inr gi))))), (im1, .inr (1, [.int 0, .int 0, .int 0, .ref g0, .ref g1, .ref g2, .ref g3, .ref g4, .ref g5, .ref g6, .ref g7, .ref g8]))] H := hP
    have hD : va_D A [(im0, .inr (1, [.int 0, .int 0, .int 0, .ref e0, .ref e1, .ref e2, .ref e3, .ref e4, .ref e5, .ref e6, .ref e7, .ref e8])), (x, .inr (8, [.ref xs, .ref xt, .ref xc, .ref xd, .ref xr, .ref xi, .ref xv, .ref xw, .ref xh, .ref xm, .ref xa, .int 0, .int 0])), (xi, .inl (cC, 2, .inr (.inr (.inr (.inr gi))))), (im1, .inr (1, [.int 0, .int 0, .int 0, .ref g0, .ref g1, .ref g2, .ref g3, .ref g4, .ref g5, .ref g6, .ref g7, .ref g8]))] := hD
    refine lv_icmp_eq (tgt := 1034) S.1 S.2.1 dL_law_881 (by decide) (fun c_9 => ?_) (fun c_9 => absurd c_9 (by decide))
    exact law_tail C hS (lv_sub hl [0, 3] rfl) (by decide) (by decide)
set_option maxHeartbeats 4000000 in
set_option maxRecDepth 100000 in
theorem law_feed {p : Program} (l : Launch) {e : Env} {s : State} {m : MethodId} {below : List Frame} {meth : Method} {c : Code} (D : va_G) (cI cZ cC cS : ClassId) (sq : Nat) {b : Nat} {sc : Nat → Int32} {A : Nat → Prop} (C : lC p s m meth c b sc A) (hK : kW D (tyW cI cZ cC cS) sq s) (x : Nat) (xs : Nat) (xt : Nat) (xc : Nat) (xd : Nat) (xr : Nat) (xi : Nat) (xv : Nat) (xw : Nat) (xh : Nat) (xm : Nat) (xa : Nat) (y : Nat) (y_lane : Nat) (y_many : Nat) (y_item : Nat) (y_city : Nat) (y_fresh : Nat) (y_tape : Nat) (y_cost : Nat) (y_away : Nat) (y_fee : Nat) (y_goesTo : Nat) (y_priceWas : Nat) (y_isKept : Nat) (y_kept : Nat) (y_trace : Nat) (by_ : Nat) {H : Heap} {locs : List Loc} {ls : Array Slot} (hP : va_P D vwCl [(x, .inr (8, [.ref xs, .ref xt, .ref xc, .ref xd, .ref xr, .ref xi, .ref xv, .ref xw, .ref xh, .ref xm, .ref xa, .int 0, .int 0])), (xt, .inr (5, [.ref by_, .int 0, .int 0, .int 0, .int 0, .int 0])), (by_, .inl (cI, 400, .inl (fun _ => 0))), (y, .inr (9, [.int 0, .int 0, .ref y_lane, .ref y_many, .ref y_item, .ref y_city, .ref y_fresh, .int 0, .ref y_tape, .int 0, .int 0, .int 0, .int 0, .int 0, .int 0, .int 0, .int 0, .int 0, .int 0, .int 0, .ref y_cost, .ref y_away, .ref y_fee, .ref y_goesTo, .ref y_priceWas, .ref y_isKept, .ref y_kept, .ref y_trace, .int 0])), (y_tape, .inl (cI, 400, .inl (fun _ => 0)))] H) (hD : va_D A [(x, .inr (8, [.ref xs, .ref xt, .ref xc, .ref xd, .ref xr, .ref xi, .ref xv, .ref xw, .ref xh, .ref xm, .ref xa, .int 0, .int 0])), (xt, .inr (5, [.ref by_, .int 0, .int 0, .int 0, .int 0, .int 0])), (by_, .inl (cI, 400, .inl (fun _ => 0))), (y, .inr (9, [.int 0, .int 0, .ref y_lane, .ref y_many, .ref y_item, .ref y_city, .ref y_fresh, .int 0, .ref y_tape, .int 0, .int 0, .int 0, .int 0, .int 0, .int 0, .int 0, .int 0, .int 0, .int 0, .int 0, .ref y_cost, .ref y_away, .ref y_fee, .ref y_goesTo, .ref y_priceWas, .ref y_isKept, .ref y_kept, .ref y_trace, .int 0])), (y_tape, .inl (cI, 400, .inl (fun _ => 0)))]) (hS : va_S A s.heap H locs) (hl : lv_has ls 4 [(3, .int 0), (2, .ref y), (1, .ref x), (0, .ref b)]) : W p l e room_1 s m #[Value.ref b] below meth c H locs 98 12032 (lw_Z below #[Value.ref b] s) (F0 m 332 ls []) := by
  obtain ⟨S, hr_, hk_, hX, hbl, hA, hAf⟩ := id C
  have hbA : ¬ A b := fun z => absurd (hAf b z) (Nat.not_le.mpr hbl)
  rcases (show ((sc 3).toInt < 1) ∨ (8 < (sc 3).toInt) ∨ ((sc 3).toInt = 1) ∨ ((sc 3).toInt = 2) ∨ ((sc 3).toInt = 3) ∨ ((sc 3).toInt = 4) ∨ ((sc 3).toInt = 5) ∨ ((sc 3).toInt = 6) ∨ ((sc 3).toInt = 7) ∨ ((sc 3).toInt = 8) by omega) with hn | hn | h0 | h0 | h0 | h0 | h0 | h0 | h0 | h0
  · refine lv_aload_n S.1 S.2.1 dL_law_332 rfl (lv_at hl 2 rfl) ?_
    refine lv_aload_n S.1 S.2.1 dL_law_333 rfl (lv_at hl 3 rfl) ?_
    refine lv_iload_n S.1 S.2.1 dL_law_334 rfl (lv_at hl 0 rfl) ?_
    refine lv_iconst (v := 1) S.1 S.2.1 dL_law_335 (by decide) ?_
    refine lv_iadd S.1 S.2.1 dL_law_336 ?_
    refine lv_topi (fun x_1 ex_1 => ?_)
    have ex_1 : x_1 = 1 := by rw [ex_1]; decide
    subst ex_1
    refine va_sld S.1 S.2.1 hX hbl hbA hS (by unfold vp_in; decide) dL_law_337 ?_
    refine W.eq (g2 := F0 m 338 ls [.int (sc 1), .ref x]) rfl ?_
    refine lv_i2l (v := (sc 1).toInt64) S.1 S.2.1 dL_law_338 rfl ?_
    refine lv_bipush (v := 32) S.1 S.2.1 dL_law_339 (by decide) ?_
    refine lv_lshl S.1 S.2.1 dL_law_341 rfl ?_
    refine lv_topl (fun z_2 ez_2 => ?_)
    refine lv_aload_n S.1 S.2.1 dL_law_342 rfl (lv_at hl 3 rfl) ?_
    refine lv_iload_n S.1 S.2.1 dL_law_343 rfl (lv_at hl 0 rfl) ?_
    refine lv_iconst (v := 2) S.1 S.2.1 dL_law_344 (by decide) ?_
    refine lv_iadd S.1 S.2.1 dL_law_345 ?_
    refine lv_topi (fun x_3 ex_3 => ?_)
    have ex_3 : x_3 = 2 := by rw [ex_3]; decide
    subst ex_3
    refine va_sld S.1 S.2.1 hX hbl hbA hS (by unfold vp_in; decide) dL_law_346 ?_
    refine W.eq (g2 := F0 m 347 ls [.int (sc 2), .long z_2, .ref x]) rfl ?_
    refine lv_i2l (v := (sc 2).toInt64) S.1 S.2.1 dL_law_347 rfl ?_
    refine lv_ldc2 (v := (4294967295)) S.1 S.2.1 S.2.2.2.1 (S.2.2.2.2 (.constantLong RL 32 (4294967295)) (by decide +kernel)) dL_law_348 ?_
    refine lv_land S.1 S.2.1 dL_law_351 ?_
    refine lv_topl (fun z_4 ez_4 => ?_)
    refine lv_lor S.1 S.2.1 dL_law_352 ?_
    refine lv_topl (fun z_5 ez_5 => ?_)
    refine lv_aload_n S.1 S.2.1 dL_law_353 rfl (lv_at hl 3 rfl) ?_
    refine lv_iload_n S.1 S.2.1 dL_law_354 rfl (lv_at hl 0 rfl) ?_
    refine lv_iconst (v := 3) S.1 S.2.1 dL_law_355 (by decide) ?_
    refine lv_iadd S.1 S.2.1 dL_law_356 ?_
    refine lv_topi (fun x_6 ex_6 => ?_)
    have ex_6 : x_6 = 3 := by rw [ex_6]; decide
    subst ex_6
    refine va_sld S.1 S.2.1 hX hbl hbA hS (by unfold vp_in; decide) dL_law_357 ?_
    refine W.eq (g2 := F0 m 358 ls [.int (sc 3), .long z_5, .ref x]) rfl ?_
    refine b_ai (wr := [(xt, .inr (5, [.ref by_, .int 0, .int 0, .int 0, .int 0, .int 0])), (by_, .inl (cI, 400, .inl (fun _ => 0))), (y, .inr (9, [.int 0, .int 0, .ref y_lane, .ref y_many, .ref y_item, .ref y_city, .ref y_fresh, .int 0, .ref y_tape, .int 0, .int 0, .int 0, .int 0, .int 0, .int 0, .int 0, .int 0, .int 0, .int 0, .int 0, .ref y_cost, .ref y_away, .ref y_fee, .ref y_goesTo, .ref y_priceWas, .ref y_isKept, .ref y_kept, .ref y_trace, .int 0])), (y_tape, .inl (cI, 400, .inl (fun _ => 0)))]) (b_runV (q0 := 0) (ci := 8) (As := [.long z_5, .int (sc 3)]) (c_X8_feed_lo l D cI cZ cC cS sq H.size x xs xt xc xd xr xi xv xw xh xm xa z_5 (sc 3) (by assumption)) S gL_law_X8_feed rfl hdV_X8_feed ⟨Nat.le_of_ble_eq_true rfl, Nat.le_of_ble_eq_true rfl⟩ ⟨Nat.le_of_ble_eq_true rfl, Nat.le_of_ble_eq_true rfl⟩ hK hP hD rfl rfl [0] rfl (by decide) rfl hl.1 rfl (Nat.le_of_ble_eq_true rfl) dL_law_358) hP hD hS hA [0] [1, 2, 3, 4] rfl rfl (by decide) (by decide) (fun r_7 w_8 H locs hw_9 hP hD hS => ?_)
    obtain ⟨rfl, rfl⟩ := hw_9
    have hP : va_P D vwCl [(xt, .inr (5, [.ref by_, .int 0, .int 0, .int 0, .int 0, .int 0])), (by_, .inl (cI, 400, .inl (fun _ => 0))), (y, .inr (9, [.int 0, .int 0, .ref y_lane, .ref y_many, .ref y_item, .ref y_city, .ref y_fresh, .int 0, .ref y_tape, .int 0, .int 0, .int 0, .int 0, .int 0, .int 0, .int 0, .int 0, .int 0, .int 0, .int 0, .ref y_cost, .ref y_away, .ref y_fee, .ref y_goesTo, .ref y_priceWas, .ref y_isKept, .ref y_kept, .ref y_trace, .int 0])), (y_tape, .inl (cI, 400, .inl (fun _ => 0))), (x, .inr (8, [.ref xs, .ref xt, .ref xc, .ref xd, .ref xr, .ref xi, .ref xv, .ref xw, .ref xh, .ref xm, .ref xa, .int 0, .int 0]))] H := hP
    have hD : va_D A [(xt, .inr (5, [.ref by_, .int 0, .int 0, .int 0, .int 0, .int 0])), (by_, .inl (cI, 400, .inl (fun _ => 0))), (y, .inr (9, [.int 0, .int 0, .ref y_lane, .ref y_many, .ref y_item, .ref y_city, .ref y_fresh, .int 0, .ref y_tape, .int 0, .int 0, .int 0, .int 0, .int 0, .int 0, .int 0, .int 0, .int 0, .int 0, .int 0, .ref y_cost, .ref y_away, .ref y_fee, .ref y_goesTo, .ref y_priceWas, .ref y_isKept, .ref y_kept, .ref y_trace, .int 0])), (y_tape, .inl (cI, 400, .inl (fun _ => 0))), (x, .inr (8, [.ref xs, .ref xt, .ref xc, .ref xd, .ref xr, .ref xi, .ref xv, .ref xw, .ref xh, .ref xm, .ref xa, .int 0, .int 0]))] := hD
    refine lv_aload_n S.1 S.2.1 dL_law_361 rfl (lv_at hl 1 rfl) ?_
    refine lv_aload_n S.1 S.2.1 dL_law_362 rfl (lv_at hl 3 rfl) ?_
    refine lv_iload_n S.1 S.2.1 dL_law_363 rfl (lv_at hl 0 rfl) ?_
    refine lv_iconst (v := 1) S.1 S.2.1 dL_law_364 (by decide) ?_
    refine lv_iadd S.1 S.2.1 dL_law_365 ?_
    refine lv_topi (fun x_10 ex_10 => ?_)
    have ex_10 : x_10 = 1 := by rw [ex_10]; decide
    subst ex_10
    refine va_sld S.1 S.2.1 hX hbl hbA hS (by unfold vp_in; decide) dL_law_366 ?_
    refine W.eq (g2 := F0 m 367 ls [.int (sc 1), .ref y, .int (-1000001)]) rfl ?_
    refine lv_i2l (v := (sc 1).toInt64) S.1 S.2.1 dL_law_367 rfl ?_
    refine lv_bipush (v := 32) S.1 S.2.1 dL_law_368 (by decide) ?_
    refine lv_lshl S.1 S.2.1 dL_law_370 rfl ?_
    refine lv_topl (fun z_11 ez_11 => ?_)
    refine lv_aload_n S.1 S.2.1 dL_law_371 rfl (lv_at hl 3 rfl) ?_
    refine lv_iload_n S.1 S.2.1 dL_law_372 rfl (lv_at hl 0 rfl) ?_
    refine lv_iconst (v := 2) S.1 S.2.1 dL_law_373 (by decide) ?_
    refine lv_iadd S.1 S.2.1 dL_law_374 ?_
    refine lv_topi (fun x_12 ex_12 => ?_)
    have ex_12 : x_12 = 2 := by rw [ex_12]; decide
    subst ex_12
    refine va_sld S.1 S.2.1 hX hbl hbA hS (by unfold vp_in; decide) dL_law_375 ?_
    refine W.eq (g2 := F0 m 376 ls [.int (sc 2), .long z_11, .ref y, .int (-1000001)]) rfl ?_
    refine lv_i2l (v := (sc 2).toInt64) S.1 S.2.1 dL_law_376 rfl ?_
    refine lv_ldc2 (v := (4294967295)) S.1 S.2.1 S.2.2.2.1 (S.2.2.2.2 (.constantLong RL 32 (4294967295)) (by decide +kernel)) dL_law_377 ?_
    refine lv_land S.1 S.2.1 dL_law_380 ?_
    refine lv_topl (fun z_13 ez_13 => ?_)
    refine lv_lor S.1 S.2.1 dL_law_381 ?_
    refine lv_topl (fun z_14 ez_14 => ?_)
    refine lv_aload_n S.1 S.2.1 dL_law_382 rfl (lv_at hl 3 rfl) ?_
    refine lv_iload_n S.1 S.2.1 dL_law_383 rfl (lv_at hl 0 rfl) ?_
    refine lv_iconst (v := 3) S.1 S.2.1 dL_law_384 (by decide) ?_
    refine lv_iadd S.1 S.2.1 dL_law_385 ?_
    refine lv_topi (fun x_15 ex_15 => ?_)
    have ex_15 : x_15 = 3 := by rw [ex_15]; decide
    subst ex_15
    refine va_sld S.1 S.2.1 hX hbl hbA hS (by unfold vp_in; decide) dL_law_386 ?_
    refine W.eq (g2 := F0 m 387 ls [.int (sc 3), .long z_14, .ref y, .int (-1000001)]) rfl ?_
    refine b_ai (wr := [(xt, .inr (5, [.ref by_, .int 0, .int 0, .int 0, .int 0, .int 0])), (by_, .inl (cI, 400, .inl (fun _ => 0))), (y_tape, .inl (cI, 400, .inl (fun _ => 0))), (x, .inr (8, [.ref xs, .ref xt, .ref xc, .ref xd, .ref xr, .ref xi, .ref xv, .ref xw, .ref xh, .ref xm, .ref xa, .int 0, .int 0]))]) (b_runV (q0 := 2) (ci := 9) (As := [.long z_14, .int (sc 3)]) (c_X9_feed_bad l D cI cZ cC cS sq H.size y y_lane y_many y_item y_city y_fresh y_tape y_cost y_away y_fee y_goesTo y_priceWas y_isKept y_kept y_trace z_14 (sc 3) (Or.inl hn)) S gL_law_X9_feed rfl hdV_X9_feed ⟨Nat.le_of_ble_eq_true rfl, Nat.le_of_ble_eq_true rfl⟩ ⟨Nat.le_of_ble_eq_true rfl, Nat.le_of_ble_eq_true rfl⟩ hK hP hD rfl rfl [2] rfl (by decide) rfl hl.1 rfl (Nat.le_of_ble_eq_true rfl) dL_law_387) hP hD hS hA [2] [0, 1, 3, 4] rfl rfl (by decide) (by decide) (fun r_16 w_17 H locs hw_18 hP hD hS => ?_)
    obtain ⟨rfl, rfl⟩ := hw_18
    have hP : va_P D vwCl [(xt, .inr (5, [.ref by_, .int 0, .int 0, .int 0, .int 0, .int 0])), (by_, .inl (cI, 400, .inl (fun _ => 0))), (y_tape, .inl (cI, 400, .inl (fun _ => 0))), (x, .inr (8, [.ref xs, .ref xt, .ref xc, .ref xd, .ref xr, .ref xi, .ref xv, .ref xw, .ref xh, .ref xm, .ref xa, .int 0, .int 0]))] H := hP
    have hD : va_D A [(xt, .inr (5, [.ref by_, .int 0, .int 0, .int 0, .int 0, .int 0])), (by_, .inl (cI, 400, .inl (fun _ => 0))), (y_tape, .inl (cI, 400, .inl (fun _ => 0))), (x, .inr (8, [.ref xs, .ref xt, .ref xc, .ref xd, .ref xr, .ref xi, .ref xv, .ref xw, .ref xh, .ref xm, .ref xa, .int 0, .int 0]))] := hD
    refine lv_icmp_eq (tgt := 1034) S.1 S.2.1 dL_law_390 (by decide) (fun c_19 => ?_) (fun c_19 => absurd c_19 (by decide))
    exact law_tail C hS (lv_sub hl [0, 3] rfl) (by decide) (by decide)
  · refine lv_aload_n S.1 S.2.1 dL_law_332 rfl (lv_at hl 2 rfl) ?_
    refine lv_aload_n S.1 S.2.1 dL_law_333 rfl (lv_at hl 3 rfl) ?_
    refine lv_iload_n S.1 S.2.1 dL_law_334 rfl (lv_at hl 0 rfl) ?_
    refine lv_iconst (v := 1) S.1 S.2.1 dL_law_335 (by decide) ?_
    refine lv_iadd S.1 S.2.1 dL_law_336 ?_
    refine lv_topi (fun x_1 ex_1 => ?_)
    have ex_1 : x_1 = 1 := by rw [ex_1]; decide
    subst ex_1
    refine va_sld S.1 S.2.1 hX hbl hbA hS (by unfold vp_in; decide) dL_law_337 ?_
    refine W.eq (g2 := F0 m 338 ls [.int (sc 1), .ref x]) rfl ?_
    refine lv_i2l (v := (sc 1).toInt64) S.1 S.2.1 dL_law_338 rfl ?_
    refine lv_bipush (v := 32) S.1 S.2.1 dL_law_339 (by decide) ?_
    refine lv_lshl S.1 S.2.1 dL_law_341 rfl ?_
    refine lv_topl (fun z_2 ez_2 => ?_)
    refine lv_aload_n S.1 S.2.1 dL_law_342 rfl (lv_at hl 3 rfl) ?_
    refine lv_iload_n S.1 S.2.1 dL_law_343 rfl (lv_at hl 0 rfl) ?_
    refine lv_iconst (v := 2) S.1 S.2.1 dL_law_344 (by decide) ?_
    refine lv_iadd S.1 S.2.1 dL_law_345 ?_
    refine lv_topi (fun x_3 ex_3 => ?_)
    have ex_3 : x_3 = 2 := by rw [ex_3]; decide
    subst ex_3
    refine va_sld S.1 S.2.1 hX hbl hbA hS (by unfold vp_in; decide) dL_law_346 ?_
    refine W.eq (g2 := F0 m 347 ls [.int (sc 2), .long z_2, .ref x]) rfl ?_
    refine lv_i2l (v := (sc 2).toInt64) S.1 S.2.1 dL_law_347 rfl ?_
    refine lv_ldc2 (v := (4294967295)) S.1 S.2.1 S.2.2.2.1 (S.2.2.2.2 (.constantLong RL 32 (4294967295)) (by decide +kernel)) dL_law_348 ?_
    refine lv_land S.1 S.2.1 dL_law_351 ?_
    refine lv_topl (fun z_4 ez_4 => ?_)
    refine lv_lor S.1 S.2.1 dL_law_352 ?_
    refine lv_topl (fun z_5 ez_5 => ?_)
    refine lv_aload_n S.1 S.2.1 dL_law_353 rfl (lv_at hl 3 rfl) ?_
    refine lv_iload_n S.1 S.2.1 dL_law_354 rfl (lv_at hl 0 rfl) ?_
    refine lv_iconst (v := 3) S.1 S.2.1 dL_law_355 (by decide) ?_
    refine lv_iadd S.1 S.2.1 dL_law_356 ?_
    refine lv_topi (fun x_6 ex_6 => ?_)
    have ex_6 : x_6 = 3 := by rw [ex_6]; decide
    subst ex_6
    refine va_sld S.1 S.2.1 hX hbl hbA hS (by unfold vp_in; decide) dL_law_357 ?_
    refine W.eq (g2 := F0 m 358 ls [.int (sc 3), .long z_5, .ref x]) rfl ?_
    refine b_ai (wr := [(xt, .inr (5, [.ref by_, .int 0, .int 0, .int 0, .int 0, .int 0])), (by_, .inl (cI, 400, .inl (fun _ => 0))), (y, .inr (9, [.int 0, .int 0, .ref y_lane, .ref y_many, .ref y_item, .ref y_city, .ref y_fresh, .int 0, .ref y_tape, .int 0, .int 0, .int 0, .int 0, .int 0, .int 0, .int 0, .int 0, .int 0, .int 0, .int 0, .ref y_cost, .ref y_away, .ref y_fee, .ref y_goesTo, .ref y_priceWas, .ref y_isKept, .ref y_kept, .ref y_trace, .int 0])), (y_tape, .inl (cI, 400, .inl (fun _ => 0)))]) (b_runV (q0 := 0) (ci := 8) (As := [.long z_5, .int (sc 3)]) (c_X8_feed_hi l D cI cZ cC cS sq H.size x xs xt xc xd xr xi xv xw xh xm xa z_5 (sc 3) (by assumption)) S gL_law_X8_feed rfl hdV_X8_feed ⟨Nat.le_of_ble_eq_true rfl, Nat.le_of_ble_eq_true rfl⟩ ⟨Nat.le_of_ble_eq_true rfl, Nat.le_of_ble_eq_true rfl⟩ hK hP hD rfl rfl [0] rfl (by decide) rfl hl.1 rfl (Nat.le_of_ble_eq_true rfl) dL_law_358) hP hD hS hA [0] [1, 2, 3, 4] rfl rfl (by decide) (by decide) (fun r_7 w_8 H locs hw_9 hP hD hS => ?_)
    obtain ⟨rfl, rfl⟩ := hw_9
    have hP : va_P D vwCl [(xt, .inr (5, [.ref by_, .int 0, .int 0, .int 0, .int 0, .int 0])), (by_, .inl (cI, 400, .inl (fun _ => 0))), (y, .inr (9, [.int 0, .int 0, .ref y_lane, .ref y_many, .ref y_item, .ref y_city, .ref y_fresh, .int 0, .ref y_tape, .int 0, .int 0, .int 0, .int 0, .int 0, .int 0, .int 0, .int 0, .int 0, .int 0, .int 0, .ref y_cost, .ref y_away, .ref y_fee, .ref y_goesTo, .ref y_priceWas, .ref y_isKept, .ref y_kept, .ref y_trace, .int 0])), (y_tape, .inl (cI, 400, .inl (fun _ => 0))), (x, .inr (8, [.ref xs, .ref xt, .ref xc, .ref xd, .ref xr, .ref xi, .ref xv, .ref xw, .ref xh, .ref xm, .ref xa, .int 0, .int 0]))] H := hP
    have hD : va_D A [(xt, .inr (5, [.ref by_, .int 0, .int 0, .int 0, .int 0, .int 0])), (by_, .inl (cI, 400, .inl (fun _ => 0))), (y, .inr (9, [.int 0, .int 0, .ref y_lane, .ref y_many, .ref y_item, .ref y_city, .ref y_fresh, .int 0, .ref y_tape, .int 0, .int 0, .int 0, .int 0, .int 0, .int 0, .int 0, .int 0, .int 0, .int 0, .int 0, .ref y_cost, .ref y_away, .ref y_fee, .ref y_goesTo, .ref y_priceWas, .ref y_isKept, .ref y_kept, .ref y_trace, .int 0])), (y_tape, .inl (cI, 400, .inl (fun _ => 0))), (x, .inr (8, [.ref xs, .ref xt, .ref xc, .ref xd, .ref xr, .ref xi, .ref xv, .ref xw, .ref xh, .ref xm, .ref xa, .int 0, .int 0]))] := hD
    refine lv_aload_n S.1 S.2.1 dL_law_361 rfl (lv_at hl 1 rfl) ?_
    refine lv_aload_n S.1 S.2.1 dL_law_362 rfl (lv_at hl 3 rfl) ?_
    refine lv_iload_n S.1 S.2.1 dL_law_363 rfl (lv_at hl 0 rfl) ?_
    refine lv_iconst (v := 1) S.1 S.2.1 dL_law_364 (by decide) ?_
    refine lv_iadd S.1 S.2.1 dL_law_365 ?_
    refine lv_topi (fun x_10 ex_10 => ?_)
    have ex_10 : x_10 = 1 := by rw [ex_10]; decide
    subst ex_10
    refine va_sld S.1 S.2.1 hX hbl hbA hS (by unfold vp_in; decide) dL_law_366 ?_
    refine W.eq (g2 := F0 m 367 ls [.int (sc 1), .ref y, .int (-1000001)]) rfl ?_
    refine lv_i2l (v := (sc 1).toInt64) S.1 S.2.1 dL_law_367 rfl ?_
    refine lv_bipush (v := 32) S.1 S.2.1 dL_law_368 (by decide) ?_
    refine lv_lshl S.1 S.2.1 dL_law_370 rfl ?_
    refine lv_topl (fun z_11 ez_11 => ?_)
    refine lv_aload_n S.1 S.2.1 dL_law_371 rfl (lv_at hl 3 rfl) ?_
    refine lv_iload_n S.1 S.2.1 dL_law_372 rfl (lv_at hl 0 rfl) ?_
    refine lv_iconst (v := 2) S.1 S.2.1 dL_law_373 (by decide) ?_
    refine lv_iadd S.1 S.2.1 dL_law_374 ?_
    refine lv_topi (fun x_12 ex_12 => ?_)
    have ex_12 : x_12 = 2 := by rw [ex_12]; decide
    subst ex_12
    refine va_sld S.1 S.2.1 hX hbl hbA hS (by unfold vp_in; decide) dL_law_375 ?_
    refine W.eq (g2 := F0 m 376 ls [.int (sc 2), .long z_11, .ref y, .int (-1000001)]) rfl ?_
    refine lv_i2l (v := (sc 2).toInt64) S.1 S.2.1 dL_law_376 rfl ?_
    refine lv_ldc2 (v := (4294967295)) S.1 S.2.1 S.2.2.2.1 (S.2.2.2.2 (.constantLong RL 32 (4294967295)) (by decide +kernel)) dL_law_377 ?_
    refine lv_land S.1 S.2.1 dL_law_380 ?_
    refine lv_topl (fun z_13 ez_13 => ?_)
    refine lv_lor S.1 S.2.1 dL_law_381 ?_
    refine lv_topl (fun z_14 ez_14 => ?_)
    refine lv_aload_n S.1 S.2.1 dL_law_382 rfl (lv_at hl 3 rfl) ?_
    refine lv_iload_n S.1 S.2.1 dL_law_383 rfl (lv_at hl 0 rfl) ?_
    refine lv_iconst (v := 3) S.1 S.2.1 dL_law_384 (by decide) ?_
    refine lv_iadd S.1 S.2.1 dL_law_385 ?_
    refine lv_topi (fun x_15 ex_15 => ?_)
    have ex_15 : x_15 = 3 := by rw [ex_15]; decide
    subst ex_15
    refine va_sld S.1 S.2.1 hX hbl hbA hS (by unfold vp_in; decide) dL_law_386 ?_
    refine W.eq (g2 := F0 m 387 ls [.int (sc 3), .long z_14, .ref y, .int (-1000001)]) rfl ?_
    refine b_ai (wr := [(xt, .inr (5, [.ref by_, .int 0, .int 0, .int 0, .int 0, .int 0])), (by_, .inl (cI, 400, .inl (fun _ => 0))), (y_tape, .inl (cI, 400, .inl (fun _ => 0))), (x, .inr (8, [.ref xs, .ref xt, .ref xc, .ref xd, .ref xr, .ref xi, .ref xv, .ref xw, .ref xh, .ref xm, .ref xa, .int 0, .int 0]))]) (b_runV (q0 := 2) (ci := 9) (As := [.long z_14, .int (sc 3)]) (c_X9_feed_bad l D cI cZ cC cS sq H.size y y_lane y_many y_item y_city y_fresh y_tape y_cost y_away y_fee y_goesTo y_priceWas y_isKept y_kept y_trace z_14 (sc 3) (Or.inr hn)) S gL_law_X9_feed rfl hdV_X9_feed ⟨Nat.le_of_ble_eq_true rfl, Nat.le_of_ble_eq_true rfl⟩ ⟨Nat.le_of_ble_eq_true rfl, Nat.le_of_ble_eq_true rfl⟩ hK hP hD rfl rfl [2] rfl (by decide) rfl hl.1 rfl (Nat.le_of_ble_eq_true rfl) dL_law_387) hP hD hS hA [2] [0, 1, 3, 4] rfl rfl (by decide) (by decide) (fun r_16 w_17 H locs hw_18 hP hD hS => ?_)
    obtain ⟨rfl, rfl⟩ := hw_18
    have hP : va_P D vwCl [(xt, .inr (5, [.ref by_, .int 0, .int 0, .int 0, .int 0, .int 0])), (by_, .inl (cI, 400, .inl (fun _ => 0))), (y_tape, .inl (cI, 400, .inl (fun _ => 0))), (x, .inr (8, [.ref xs, .ref xt, .ref xc, .ref xd, .ref xr, .ref xi, .ref xv, .ref xw, .ref xh, .ref xm, .ref xa, .int 0, .int 0]))] H := hP
    have hD : va_D A [(xt, .inr (5, [.ref by_, .int 0, .int 0, .int 0, .int 0, .int 0])), (by_, .inl (cI, 400, .inl (fun _ => 0))), (y_tape, .inl (cI, 400, .inl (fun _ => 0))), (x, .inr (8, [.ref xs, .ref xt, .ref xc, .ref xd, .ref xr, .ref xi, .ref xv, .ref xw, .ref xh, .ref xm, .ref xa, .int 0, .int 0]))] := hD
    refine lv_icmp_eq (tgt := 1034) S.1 S.2.1 dL_law_390 (by decide) (fun c_19 => ?_) (fun c_19 => absurd c_19 (by decide))
    exact law_tail C hS (lv_sub hl [0, 3] rfl) (by decide) (by decide)
  · have h3 : sc 3 = 1 := Int32.toInt_inj.mp (h0.trans rfl)
    refine lv_aload_n S.1 S.2.1 dL_law_332 rfl (lv_at hl 2 rfl) ?_
    refine lv_aload_n S.1 S.2.1 dL_law_333 rfl (lv_at hl 3 rfl) ?_
    refine lv_iload_n S.1 S.2.1 dL_law_334 rfl (lv_at hl 0 rfl) ?_
    refine lv_iconst (v := 1) S.1 S.2.1 dL_law_335 (by decide) ?_
    refine lv_iadd S.1 S.2.1 dL_law_336 ?_
    refine lv_topi (fun x_1 ex_1 => ?_)
    have ex_1 : x_1 = 1 := by rw [ex_1]; decide
    subst ex_1
    refine va_sld S.1 S.2.1 hX hbl hbA hS (by unfold vp_in; decide) dL_law_337 ?_
    refine W.eq (g2 := F0 m 338 ls [.int (sc 1), .ref x]) rfl ?_
    refine lv_i2l (v := (sc 1).toInt64) S.1 S.2.1 dL_law_338 rfl ?_
    refine lv_bipush (v := 32) S.1 S.2.1 dL_law_339 (by decide) ?_
    refine lv_lshl S.1 S.2.1 dL_law_341 rfl ?_
    refine lv_topl (fun z_2 ez_2 => ?_)
    refine lv_aload_n S.1 S.2.1 dL_law_342 rfl (lv_at hl 3 rfl) ?_
    refine lv_iload_n S.1 S.2.1 dL_law_343 rfl (lv_at hl 0 rfl) ?_
    refine lv_iconst (v := 2) S.1 S.2.1 dL_law_344 (by decide) ?_
    refine lv_iadd S.1 S.2.1 dL_law_345 ?_
    refine lv_topi (fun x_3 ex_3 => ?_)
    have ex_3 : x_3 = 2 := by rw [ex_3]; decide
    subst ex_3
    refine va_sld S.1 S.2.1 hX hbl hbA hS (by unfold vp_in; decide) dL_law_346 ?_
    refine W.eq (g2 := F0 m 347 ls [.int (sc 2), .long z_2, .ref x]) rfl ?_
    refine lv_i2l (v := (sc 2).toInt64) S.1 S.2.1 dL_law_347 rfl ?_
    refine lv_ldc2 (v := (4294967295)) S.1 S.2.1 S.2.2.2.1 (S.2.2.2.2 (.constantLong RL 32 (4294967295)) (by decide +kernel)) dL_law_348 ?_
    refine lv_land S.1 S.2.1 dL_law_351 ?_
    refine lv_topl (fun z_4 ez_4 => ?_)
    refine lv_lor S.1 S.2.1 dL_law_352 ?_
    refine lv_topl (fun z_5 ez_5 => ?_)
    refine lv_aload_n S.1 S.2.1 dL_law_353 rfl (lv_at hl 3 rfl) ?_
    refine lv_iload_n S.1 S.2.1 dL_law_354 rfl (lv_at hl 0 rfl) ?_
    refine lv_iconst (v := 3) S.1 S.2.1 dL_law_355 (by decide) ?_
    refine lv_iadd S.1 S.2.1 dL_law_356 ?_
    refine lv_topi (fun x_6 ex_6 => ?_)
    have ex_6 : x_6 = 3 := by rw [ex_6]; decide
    subst ex_6
    refine va_sld S.1 S.2.1 hX hbl hbA hS (by unfold vp_in; decide) dL_law_357 ?_
    refine W.eq (g2 := F0 m 358 ls [.int (sc 3), .long z_5, .ref x]) rfl ?_
    rw [h3]
    refine b_ai (wr := [(y, .inr (9, [.int 0, .int 0, .ref y_lane, .ref y_many, .ref y_item, .ref y_city, .ref y_fresh, .int 0, .ref y_tape, .int 0, .int 0, .int 0, .int 0, .int 0, .int 0, .int 0, .int 0, .int 0, .int 0, .int 0, .ref y_cost, .ref y_away, .ref y_fee, .ref y_goesTo, .ref y_priceWas, .ref y_isKept, .ref y_kept, .ref y_trace, .int 0])), (y_tape, .inl (cI, 400, .inl (fun _ => 0)))]) (b_runV (q0 := 0) (ci := 8) (As := [.long z_5, .int 1]) (c_X8_feed_1 l D cI cZ cC cS sq H.size x xs xt xc xd xr xi xv xw xh xm xa by_ (fun _ => 0) z_5) S gL_law_X8_feed rfl hdV_X8_feed ⟨Nat.le_of_ble_eq_true rfl, Nat.le_of_ble_eq_true rfl⟩ ⟨Nat.le_of_ble_eq_true rfl, Nat.le_of_ble_eq_true rfl⟩ hK hP hD rfl rfl [0, 1, 2] rfl (by decide) rfl hl.1 rfl (Nat.le_of_ble_eq_true rfl) dL_law_358) hP hD hS hA [0, 1, 2] [3, 4] rfl rfl (by decide) (by decide) (fun r_7 w_8 H locs hw_9 hP hD hS => ?_)
    obtain ⟨rfl, rfl⟩ := hw_9
    have hP : va_P D vwCl [(y, .inr (9, [.int 0, .int 0, .ref y_lane, .ref y_many, .ref y_item, .ref y_city, .ref y_fresh, .int 0, .ref y_tape, .int 0, .int 0, .int 0, .int 0, .int 0, .int 0, .int 0, .int 0, .int 0, .int 0, .int 0, .ref y_cost, .ref y_away, .ref y_fee, .ref y_goesTo, .ref y_priceWas, .ref y_isKept, .ref y_kept, .ref y_trace, .int 0])), (y_tape, .inl (cI, 400, .inl (fun _ => 0))), (x, .inr (8, [.ref xs, .ref xt, .ref xc, .ref xd, .ref xr, .ref xi, .ref xv, .ref xw, .ref xh, .ref xm, .ref xa, .int 0, .int 0]))] H := hP
    have hD : va_D A [(y, .inr (9, [.int 0, .int 0, .ref y_lane, .ref y_many, .ref y_item, .ref y_city, .ref y_fresh, .int 0, .ref y_tape, .int 0, .int 0, .int 0, .int 0, .int 0, .int 0, .int 0, .int 0, .int 0, .int 0, .int 0, .ref y_cost, .ref y_away, .ref y_fee, .ref y_goesTo, .ref y_priceWas, .ref y_isKept, .ref y_kept, .ref y_trace, .int 0])), (y_tape, .inl (cI, 400, .inl (fun _ => 0))), (x, .inr (8, [.ref xs, .ref xt, .ref xc, .ref xd, .ref xr, .ref xi, .ref xv, .ref xw, .ref xh, .ref xm, .ref xa, .int 0, .int 0]))] := hD
    refine lv_aload_n S.1 S.2.1 dL_law_361 rfl (lv_at hl 1 rfl) ?_
    refine lv_aload_n S.1 S.2.1 dL_law_362 rfl (lv_at hl 3 rfl) ?_
    refine lv_iload_n S.1 S.2.1 dL_law_363 rfl (lv_at hl 0 rfl) ?_
    refine lv_iconst (v := 1) S.1 S.2.1 dL_law_364 (by decide) ?_
    refine lv_iadd S.1 S.2.1 dL_law_365 ?_
    refine lv_topi (fun x_10 ex_10 => ?_)
    have ex_10 : x_10 = 1 := by rw [ex_10]; decide
    subst ex_10
    refine va_sld S.1 S.2.1 hX hbl hbA hS (by unfold vp_in; decide) dL_law_366 ?_
    refine W.eq (g2 := F0 m 367 ls [.int (sc 1), .ref y, .int 1]) rfl ?_
    refine lv_i2l (v := (sc 1).toInt64) S.1 S.2.1 dL_law_367 rfl ?_
    refine lv_bipush (v := 32) S.1 S.2.1 dL_law_368 (by decide) ?_
    refine lv_lshl S.1 S.2.1 dL_law_370 rfl ?_
    refine lv_topl (fun z_11 ez_11 => ?_)
    refine lv_aload_n S.1 S.2.1 dL_law_371 rfl (lv_at hl 3 rfl) ?_
    refine lv_iload_n S.1 S.2.1 dL_law_372 rfl (lv_at hl 0 rfl) ?_
    refine lv_iconst (v := 2) S.1 S.2.1 dL_law_373 (by decide) ?_
    refine lv_iadd S.1 S.2.1 dL_law_374 ?_
    refine lv_topi (fun x_12 ex_12 => ?_)
    have ex_12 : x_12 = 2 := by rw [ex_12]; decide
    subst ex_12
    refine va_sld S.1 S.2.1 hX hbl hbA hS (by unfold vp_in; decide) dL_law_375 ?_
    refine W.eq (g2 := F0 m 376 ls [.int (sc 2), .long z_11, .ref y, .int 1]) rfl ?_
    refine lv_i2l (v := (sc 2).toInt64) S.1 S.2.1 dL_law_376 rfl ?_
    refine lv_ldc2 (v := (4294967295)) S.1 S.2.1 S.2.2.2.1 (S.2.2.2.2 (.constantLong RL 32 (4294967295)) (by decide +kernel)) dL_law_377 ?_
    refine lv_land S.1 S.2.1 dL_law_380 ?_
    refine lv_topl (fun z_13 ez_13 => ?_)
    refine lv_lor S.1 S.2.1 dL_law_381 ?_
    refine lv_topl (fun z_14 ez_14 => ?_)
    refine lv_aload_n S.1 S.2.1 dL_law_382 rfl (lv_at hl 3 rfl) ?_
    refine lv_iload_n S.1 S.2.1 dL_law_383 rfl (lv_at hl 0 rfl) ?_
    refine lv_iconst (v := 3) S.1 S.2.1 dL_law_384 (by decide) ?_
    refine lv_iadd S.1 S.2.1 dL_law_385 ?_
    refine lv_topi (fun x_15 ex_15 => ?_)
    have ex_15 : x_15 = 3 := by rw [ex_15]; decide
    subst ex_15
    refine va_sld S.1 S.2.1 hX hbl hbA hS (by unfold vp_in; decide) dL_law_386 ?_
    refine W.eq (g2 := F0 m 387 ls [.int (sc 3), .long z_14, .ref y, .int 1]) rfl ?_
    rw [h3]
    refine b_ai (wr := [(x, .inr (8, [.ref xs, .ref xt, .ref xc, .ref xd, .ref xr, .ref xi, .ref xv, .ref xw, .ref xh, .ref xm, .ref xa, .int 0, .int 0]))]) (b_runV (q0 := 0) (ci := 9) (As := [.long z_14, .int 1]) (c_X9_feed_1 l D cI cZ cC cS sq H.size y y_lane y_many y_item y_city y_fresh y_tape y_cost y_away y_fee y_goesTo y_priceWas y_isKept y_kept y_trace z_14 (fun _ => 0)) S gL_law_X9_feed rfl hdV_X9_feed ⟨Nat.le_of_ble_eq_true rfl, Nat.le_of_ble_eq_true rfl⟩ ⟨Nat.le_of_ble_eq_true rfl, Nat.le_of_ble_eq_true rfl⟩ hK hP hD rfl rfl [0, 1] rfl (by decide) rfl hl.1 rfl (Nat.le_of_ble_eq_true rfl) dL_law_387) hP hD hS hA [0, 1] [2] rfl rfl (by decide) (by decide) (fun r_16 w_17 H locs hw_18 hP hD hS => ?_)
    obtain ⟨rfl, rfl⟩ := hw_18
    have hP : va_P D vwCl [(x, .inr (8, [.ref xs, .ref xt, .ref xc, .ref xd, .ref xr, .ref xi, .ref xv, .ref xw, .ref xh, .ref xm, .ref xa, .int 0, .int 0]))] H := hP
    have hD : va_D A [(x, .inr (8, [.ref xs, .ref xt, .ref xc, .ref xd, .ref xr, .ref xi, .ref xv, .ref xw, .ref xh, .ref xm, .ref xa, .int 0, .int 0]))] := hD
    refine lv_icmp_eq (tgt := 1034) S.1 S.2.1 dL_law_390 (by decide) (fun c_19 => ?_) (fun c_19 => absurd c_19 (by decide))
    exact law_tail C hS (lv_sub hl [0, 3] rfl) (by decide) (by decide)
  · have h3 : sc 3 = 2 := Int32.toInt_inj.mp (h0.trans rfl)
    refine lv_aload_n S.1 S.2.1 dL_law_332 rfl (lv_at hl 2 rfl) ?_
    refine lv_aload_n S.1 S.2.1 dL_law_333 rfl (lv_at hl 3 rfl) ?_
    refine lv_iload_n S.1 S.2.1 dL_law_334 rfl (lv_at hl 0 rfl) ?_
    refine lv_iconst (v := 1) S.1 S.2.1 dL_law_335 (by decide) ?_
    refine lv_iadd S.1 S.2.1 dL_law_336 ?_
    refine lv_topi (fun x_1 ex_1 => ?_)
    have ex_1 : x_1 = 1 := by rw [ex_1]; decide
    subst ex_1
    refine va_sld S.1 S.2.1 hX hbl hbA hS (by unfold vp_in; decide) dL_law_337 ?_
    refine W.eq (g2 := F0 m 338 ls [.int (sc 1), .ref x]) rfl ?_
    refine lv_i2l (v := (sc 1).toInt64) S.1 S.2.1 dL_law_338 rfl ?_
    refine lv_bipush (v := 32) S.1 S.2.1 dL_law_339 (by decide) ?_
    refine lv_lshl S.1 S.2.1 dL_law_341 rfl ?_
    refine lv_topl (fun z_2 ez_2 => ?_)
    refine lv_aload_n S.1 S.2.1 dL_law_342 rfl (lv_at hl 3 rfl) ?_
    refine lv_iload_n S.1 S.2.1 dL_law_343 rfl (lv_at hl 0 rfl) ?_
    refine lv_iconst (v := 2) S.1 S.2.1 dL_law_344 (by decide) ?_
    refine lv_iadd S.1 S.2.1 dL_law_345 ?_
    refine lv_topi (fun x_3 ex_3 => ?_)
    have ex_3 : x_3 = 2 := by rw [ex_3]; decide
    subst ex_3
    refine va_sld S.1 S.2.1 hX hbl hbA hS (by unfold vp_in; decide) dL_law_346 ?_
    refine W.eq (g2 := F0 m 347 ls [.int (sc 2), .long z_2, .ref x]) rfl ?_
    refine lv_i2l (v := (sc 2).toInt64) S.1 S.2.1 dL_law_347 rfl ?_
    refine lv_ldc2 (v := (4294967295)) S.1 S.2.1 S.2.2.2.1 (S.2.2.2.2 (.constantLong RL 32 (4294967295)) (by decide +kernel)) dL_law_348 ?_
    refine lv_land S.1 S.2.1 dL_law_351 ?_
    refine lv_topl (fun z_4 ez_4 => ?_)
    refine lv_lor S.1 S.2.1 dL_law_352 ?_
    refine lv_topl (fun z_5 ez_5 => ?_)
    refine lv_aload_n S.1 S.2.1 dL_law_353 rfl (lv_at hl 3 rfl) ?_
    refine lv_iload_n S.1 S.2.1 dL_law_354 rfl (lv_at hl 0 rfl) ?_
    refine lv_iconst (v := 3) S.1 S.2.1 dL_law_355 (by decide) ?_
    refine lv_iadd S.1 S.2.1 dL_law_356 ?_
    refine lv_topi (fun x_6 ex_6 => ?_)
    have ex_6 : x_6 = 3 := by rw [ex_6]; decide
    subst ex_6
    refine va_sld S.1 S.2.1 hX hbl hbA hS (by unfold vp_in; decide) dL_law_357 ?_
    refine W.eq (g2 := F0 m 358 ls [.int (sc 3), .long z_5, .ref x]) rfl ?_
    rw [h3]
    refine b_ai (wr := [(y, .inr (9, [.int 0, .int 0, .ref y_lane, .ref y_many, .ref y_item, .ref y_city, .ref y_fresh, .int 0, .ref y_tape, .int 0, .int 0, .int 0, .int 0, .int 0, .int 0, .int 0, .int 0, .int 0, .int 0, .int 0, .ref y_cost, .ref y_away, .ref y_fee, .ref y_goesTo, .ref y_priceWas, .ref y_isKept, .ref y_kept, .ref y_trace, .int 0])), (y_tape, .inl (cI, 400, .inl (fun _ => 0)))]) (b_runV (q0 := 0) (ci := 8) (As := [.long z_5, .int 2]) (c_X8_feed_2 l D cI cZ cC cS sq H.size x xs xt xc xd xr xi xv xw xh xm xa by_ (fun _ => 0) z_5) S gL_law_X8_feed rfl hdV_X8_feed ⟨Nat.le_of_ble_eq_true rfl, Nat.le_of_ble_eq_true rfl⟩ ⟨Nat.le_of_ble_eq_true rfl, Nat.le_of_ble_eq_true rfl⟩ hK hP hD rfl rfl [0, 1, 2] rfl (by decide) rfl hl.1 rfl (Nat.le_of_ble_eq_true rfl) dL_law_358) hP hD hS hA [0, 1, 2] [3, 4] rfl rfl (by decide) (by decide) (fun r_7 w_8 H locs hw_9 hP hD hS => ?_)
    obtain ⟨rfl, rfl⟩ := hw_9
    have hP : va_P D vwCl [(y, .inr (9, [.int 0, .int 0, .ref y_lane, .ref y_many, .ref y_item, .ref y_city, .ref y_fresh, .int 0, .ref y_tape, .int 0, .int 0, .int 0, .int 0, .int 0, .int 0, .int 0, .int 0, .int 0, .int 0, .int 0, .ref y_cost, .ref y_away, .ref y_fee, .ref y_goesTo, .ref y_priceWas, .ref y_isKept, .ref y_kept, .ref y_trace, .int 0])), (y_tape, .inl (cI, 400, .inl (fun _ => 0))), (x, .inr (8, [.ref xs, .ref xt, .ref xc, .ref xd, .ref xr, .ref xi, .ref xv, .ref xw, .ref xh, .ref xm, .ref xa, .int 0, .int 0]))] H := hP
    have hD : va_D A [(y, .inr (9, [.int 0, .int 0, .ref y_lane, .ref y_many, .ref y_item, .ref y_city, .ref y_fresh, .int 0, .ref y_tape, .int 0, .int 0, .int 0, .int 0, .int 0, .int 0, .int 0, .int 0, .int 0, .int 0, .int 0, .ref y_cost, .ref y_away, .ref y_fee, .ref y_goesTo, .ref y_priceWas, .ref y_isKept, .ref y_kept, .ref y_trace, .int 0])), (y_tape, .inl (cI, 400, .inl (fun _ => 0))), (x, .inr (8, [.ref xs, .ref xt, .ref xc, .ref xd, .ref xr, .ref xi, .ref xv, .ref xw, .ref xh, .ref xm, .ref xa, .int 0, .int 0]))] := hD
    refine lv_aload_n S.1 S.2.1 dL_law_361 rfl (lv_at hl 1 rfl) ?_
    refine lv_aload_n S.1 S.2.1 dL_law_362 rfl (lv_at hl 3 rfl) ?_
    refine lv_iload_n S.1 S.2.1 dL_law_363 rfl (lv_at hl 0 rfl) ?_
    refine lv_iconst (v := 1) S.1 S.2.1 dL_law_364 (by decide) ?_
    refine lv_iadd S.1 S.2.1 dL_law_365 ?_
    refine lv_topi (fun x_10 ex_10 => ?_)
    have ex_10 : x_10 = 1 := by rw [ex_10]; decide
    subst ex_10
    refine va_sld S.1 S.2.1 hX hbl hbA hS (by unfold vp_in; decide) dL_law_366 ?_
    refine W.eq (g2 := F0 m 367 ls [.int (sc 1), .ref y, .int 2]) rfl ?_
    refine lv_i2l (v := (sc 1).toInt64) S.1 S.2.1 dL_law_367 rfl ?_
    refine lv_bipush (v := 32) S.1 S.2.1 dL_law_368 (by decide) ?_
    refine lv_lshl S.1 S.2.1 dL_law_370 rfl ?_
    refine lv_topl (fun z_11 ez_11 => ?_)
    refine lv_aload_n S.1 S.2.1 dL_law_371 rfl (lv_at hl 3 rfl) ?_
    refine lv_iload_n S.1 S.2.1 dL_law_372 rfl (lv_at hl 0 rfl) ?_
    refine lv_iconst (v := 2) S.1 S.2.1 dL_law_373 (by decide) ?_
    refine lv_iadd S.1 S.2.1 dL_law_374 ?_
    refine lv_topi (fun x_12 ex_12 => ?_)
    have ex_12 : x_12 = 2 := by rw [ex_12]; decide
    subst ex_12
    refine va_sld S.1 S.2.1 hX hbl hbA hS (by unfold vp_in; decide) dL_law_375 ?_
    refine W.eq (g2 := F0 m 376 ls [.int (sc 2), .long z_11, .ref y, .int 2]) rfl ?_
    refine lv_i2l (v := (sc 2).toInt64) S.1 S.2.1 dL_law_376 rfl ?_
    refine lv_ldc2 (v := (4294967295)) S.1 S.2.1 S.2.2.2.1 (S.2.2.2.2 (.constantLong RL 32 (4294967295)) (by decide +kernel)) dL_law_377 ?_
    refine lv_land S.1 S.2.1 dL_law_380 ?_
    refine lv_topl (fun z_13 ez_13 => ?_)
    refine lv_lor S.1 S.2.1 dL_law_381 ?_
    refine lv_topl (fun z_14 ez_14 => ?_)
    refine lv_aload_n S.1 S.2.1 dL_law_382 rfl (lv_at hl 3 rfl) ?_
    refine lv_iload_n S.1 S.2.1 dL_law_383 rfl (lv_at hl 0 rfl) ?_
    refine lv_iconst (v := 3) S.1 S.2.1 dL_law_384 (by decide) ?_
    refine lv_iadd S.1 S.2.1 dL_law_385 ?_
    refine lv_topi (fun x_15 ex_15 => ?_)
    have ex_15 : x_15 = 3 := by rw [ex_15]; decide
    subst ex_15
    refine va_sld S.1 S.2.1 hX hbl hbA hS (by unfold vp_in; decide) dL_law_386 ?_
    refine W.eq (g2 := F0 m 387 ls [.int (sc 3), .long z_14, .ref y, .int 2]) rfl ?_
    rw [h3]
    refine b_ai (wr := [(x, .inr (8, [.ref xs, .ref xt, .ref xc, .ref xd, .ref xr, .ref xi, .ref xv, .ref xw, .ref xh, .ref xm, .ref xa, .int 0, .int 0]))]) (b_runV (q0 := 0) (ci := 9) (As := [.long z_14, .int 2]) (c_X9_feed_2 l D cI cZ cC cS sq H.size y y_lane y_many y_item y_city y_fresh y_tape y_cost y_away y_fee y_goesTo y_priceWas y_isKept y_kept y_trace z_14 (fun _ => 0)) S gL_law_X9_feed rfl hdV_X9_feed ⟨Nat.le_of_ble_eq_true rfl, Nat.le_of_ble_eq_true rfl⟩ ⟨Nat.le_of_ble_eq_true rfl, Nat.le_of_ble_eq_true rfl⟩ hK hP hD rfl rfl [0, 1] rfl (by decide) rfl hl.1 rfl (Nat.le_of_ble_eq_true rfl) dL_law_387) hP hD hS hA [0, 1] [2] rfl rfl (by decide) (by decide) (fun r_16 w_17 H locs hw_18 hP hD hS => ?_)
    obtain ⟨rfl, rfl⟩ := hw_18
    have hP : va_P D vwCl [(x, .inr (8, [.ref xs, .ref xt, .ref xc, .ref xd, .ref xr, .ref xi, .ref xv, .ref xw, .ref xh, .ref xm, .ref xa, .int 0, .int 0]))] H := hP
    have hD : va_D A [(x, .inr (8, [.ref xs, .ref xt, .ref xc, .ref xd, .ref xr, .ref xi, .ref xv, .ref xw, .ref xh, .ref xm, .ref xa, .int 0, .int 0]))] := hD
    refine lv_icmp_eq (tgt := 1034) S.1 S.2.1 dL_law_390 (by decide) (fun c_19 => ?_) (fun c_19 => absurd c_19 (by decide))
    exact law_tail C hS (lv_sub hl [0, 3] rfl) (by decide) (by decide)
  · have h3 : sc 3 = 3 := Int32.toInt_inj.mp (h0.trans rfl)
    refine lv_aload_n S.1 S.2.1 dL_law_332 rfl (lv_at hl 2 rfl) ?_
    refine lv_aload_n S.1 S.2.1 dL_law_333 rfl (lv_at hl 3 rfl) ?_
    refine lv_iload_n S.1 S.2.1 dL_law_334 rfl (lv_at hl 0 rfl) ?_
    refine lv_iconst (v := 1) S.1 S.2.1 dL_law_335 (by decide) ?_
    refine lv_iadd S.1 S.2.1 dL_law_336 ?_
    refine lv_topi (fun x_1 ex_1 => ?_)
    have ex_1 : x_1 = 1 := by rw [ex_1]; decide
    subst ex_1
    refine va_sld S.1 S.2.1 hX hbl hbA hS (by unfold vp_in; decide) dL_law_337 ?_
    refine W.eq (g2 := F0 m 338 ls [.int (sc 1), .ref x]) rfl ?_
    refine lv_i2l (v := (sc 1).toInt64) S.1 S.2.1 dL_law_338 rfl ?_
    refine lv_bipush (v := 32) S.1 S.2.1 dL_law_339 (by decide) ?_
    refine lv_lshl S.1 S.2.1 dL_law_341 rfl ?_
    refine lv_topl (fun z_2 ez_2 => ?_)
    refine lv_aload_n S.1 S.2.1 dL_law_342 rfl (lv_at hl 3 rfl) ?_
    refine lv_iload_n S.1 S.2.1 dL_law_343 rfl (lv_at hl 0 rfl) ?_
    refine lv_iconst (v := 2) S.1 S.2.1 dL_law_344 (by decide) ?_
    refine lv_iadd S.1 S.2.1 dL_law_345 ?_
    refine lv_topi (fun x_3 ex_3 => ?_)
    have ex_3 : x_3 = 2 := by rw [ex_3]; decide
    subst ex_3
    refine va_sld S.1 S.2.1 hX hbl hbA hS (by unfold vp_in; decide) dL_law_346 ?_
    refine W.eq (g2 := F0 m 347 ls [.int (sc 2), .long z_2, .ref x]) rfl ?_
    refine lv_i2l (v := (sc 2).toInt64) S.1 S.2.1 dL_law_347 rfl ?_
    refine lv_ldc2 (v := (4294967295)) S.1 S.2.1 S.2.2.2.1 (S.2.2.2.2 (.constantLong RL 32 (4294967295)) (by decide +kernel)) dL_law_348 ?_
    refine lv_land S.1 S.2.1 dL_law_351 ?_
    refine lv_topl (fun z_4 ez_4 => ?_)
    refine lv_lor S.1 S.2.1 dL_law_352 ?_
    refine lv_topl (fun z_5 ez_5 => ?_)
    refine lv_aload_n S.1 S.2.1 dL_law_353 rfl (lv_at hl 3 rfl) ?_
    refine lv_iload_n S.1 S.2.1 dL_law_354 rfl (lv_at hl 0 rfl) ?_
    refine lv_iconst (v := 3) S.1 S.2.1 dL_law_355 (by decide) ?_
    refine lv_iadd S.1 S.2.1 dL_law_356 ?_
    refine lv_topi (fun x_6 ex_6 => ?_)
    have ex_6 : x_6 = 3 := by rw [ex_6]; decide
    subst ex_6
    refine va_sld S.1 S.2.1 hX hbl hbA hS (by unfold vp_in; decide) dL_law_357 ?_
    refine W.eq (g2 := F0 m 358 ls [.int (sc 3), .long z_5, .ref x]) rfl ?_
    rw [h3]
    refine b_ai (wr := [(y, .inr (9, [.int 0, .int 0, .ref y_lane, .ref y_many, .ref y_item, .ref y_city, .ref y_fresh, .int 0, .ref y_tape, .int 0, .int 0, .int 0, .int 0, .int 0, .int 0, .int 0, .int 0, .int 0, .int 0, .int 0, .ref y_cost, .ref y_away, .ref y_fee, .ref y_goesTo, .ref y_priceWas, .ref y_isKept, .ref y_kept, .ref y_trace, .int 0])), (y_tape, .inl (cI, 400, .inl (fun _ => 0)))]) (b_runV (q0 := 0) (ci := 8) (As := [.long z_5, .int 3]) (c_X8_feed_3 l D cI cZ cC cS sq H.size x xs xt xc xd xr xi xv xw xh xm xa by_ (fun _ => 0) z_5) S gL_law_X8_feed rfl hdV_X8_feed ⟨Nat.le_of_ble_eq_true rfl, Nat.le_of_ble_eq_true rfl⟩ ⟨Nat.le_of_ble_eq_true rfl, Nat.le_of_ble_eq_true rfl⟩ hK hP hD rfl rfl [0, 1, 2] rfl (by decide) rfl hl.1 rfl (Nat.le_of_ble_eq_true rfl) dL_law_358) hP hD hS hA [0, 1, 2] [3, 4] rfl rfl (by decide) (by decide) (fun r_7 w_8 H locs hw_9 hP hD hS => ?_)
    obtain ⟨rfl, rfl⟩ := hw_9
    have hP : va_P D vwCl [(y, .inr (9, [.int 0, .int 0, .ref y_lane, .ref y_many, .ref y_item, .ref y_city, .ref y_fresh, .int 0, .ref y_tape, .int 0, .int 0, .int 0, .int 0, .int 0, .int 0, .int 0, .int 0, .int 0, .int 0, .int 0, .ref y_cost, .ref y_away, .ref y_fee, .ref y_goesTo, .ref y_priceWas, .ref y_isKept, .ref y_kept, .ref y_trace, .int 0])), (y_tape, .inl (cI, 400, .inl (fun _ => 0))), (x, .inr (8, [.ref xs, .ref xt, .ref xc, .ref xd, .ref xr, .ref xi, .ref xv, .ref xw, .ref xh, .ref xm, .ref xa, .int 0, .int 0]))] H := hP
    have hD : va_D A [(y, .inr (9, [.int 0, .int 0, .ref y_lane, .ref y_many, .ref y_item, .ref y_city, .ref y_fresh, .int 0, .ref y_tape, .int 0, .int 0, .int 0, .int 0, .int 0, .int 0, .int 0, .int 0, .int 0, .int 0, .int 0, .ref y_cost, .ref y_away, .ref y_fee, .ref y_goesTo, .ref y_priceWas, .ref y_isKept, .ref y_kept, .ref y_trace, .int 0])), (y_tape, .inl (cI, 400, .inl (fun _ => 0))), (x, .inr (8, [.ref xs, .ref xt, .ref xc, .ref xd, .ref xr, .ref xi, .ref xv, .ref xw, .ref xh, .ref xm, .ref xa, .int 0, .int 0]))] := hD
    refine lv_aload_n S.1 S.2.1 dL_law_361 rfl (lv_at hl 1 rfl) ?_
    refine lv_aload_n S.1 S.2.1 dL_law_362 rfl (lv_at hl 3 rfl) ?_
    refine lv_iload_n S.1 S.2.1 dL_law_363 rfl (lv_at hl 0 rfl) ?_
    refine lv_iconst (v := 1) S.1 S.2.1 dL_law_364 (by decide) ?_
    refine lv_iadd S.1 S.2.1 dL_law_365 ?_
    refine lv_topi (fun x_10 ex_10 => ?_)
    have ex_10 : x_10 = 1 := by rw [ex_10]; decide
    subst ex_10
    refine va_sld S.1 S.2.1 hX hbl hbA hS (by unfold vp_in; decide) dL_law_366 ?_
    refine W.eq (g2 := F0 m 367 ls [.int (sc 1), .ref y, .int 3]) rfl ?_
    refine lv_i2l (v := (sc 1).toInt64) S.1 S.2.1 dL_law_367 rfl ?_
    refine lv_bipush (v := 32) S.1 S.2.1 dL_law_368 (by decide) ?_
    refine lv_lshl S.1 S.2.1 dL_law_370 rfl ?_
    refine lv_topl (fun z_11 ez_11 => ?_)
    refine lv_aload_n S.1 S.2.1 dL_law_371 rfl (lv_at hl 3 rfl) ?_
    refine lv_iload_n S.1 S.2.1 dL_law_372 rfl (lv_at hl 0 rfl) ?_
    refine lv_iconst (v := 2) S.1 S.2.1 dL_law_373 (by decide) ?_
    refine lv_iadd S.1 S.2.1 dL_law_374 ?_
    refine lv_topi (fun x_12 ex_12 => ?_)
    have ex_12 : x_12 = 2 := by rw [ex_12]; decide
    subst ex_12
    refine va_sld S.1 S.2.1 hX hbl hbA hS (by unfold vp_in; decide) dL_law_375 ?_
    refine W.eq (g2 := F0 m 376 ls [.int (sc 2), .long z_11, .ref y, .int 3]) rfl ?_
    refine lv_i2l (v := (sc 2).toInt64) S.1 S.2.1 dL_law_376 rfl ?_
    refine lv_ldc2 (v := (4294967295)) S.1 S.2.1 S.2.2.2.1 (S.2.2.2.2 (.constantLong RL 32 (4294967295)) (by decide +kernel)) dL_law_377 ?_
    refine lv_land S.1 S.2.1 dL_law_380 ?_
    refine lv_topl (fun z_13 ez_13 => ?_)
    refine lv_lor S.1 S.2.1 dL_law_381 ?_
    refine lv_topl (fun z_14 ez_14 => ?_)
    refine lv_aload_n S.1 S.2.1 dL_law_382 rfl (lv_at hl 3 rfl) ?_
    refine lv_iload_n S.1 S.2.1 dL_law_383 rfl (lv_at hl 0 rfl) ?_
    refine lv_iconst (v := 3) S.1 S.2.1 dL_law_384 (by decide) ?_
    refine lv_iadd S.1 S.2.1 dL_law_385 ?_
    refine lv_topi (fun x_15 ex_15 => ?_)
    have ex_15 : x_15 = 3 := by rw [ex_15]; decide
    subst ex_15
    refine va_sld S.1 S.2.1 hX hbl hbA hS (by unfold vp_in; decide) dL_law_386 ?_
    refine W.eq (g2 := F0 m 387 ls [.int (sc 3), .long z_14, .ref y, .int 3]) rfl ?_
    rw [h3]
    refine b_ai (wr := [(x, .inr (8, [.ref xs, .ref xt, .ref xc, .ref xd, .ref xr, .ref xi, .ref xv, .ref xw, .ref xh, .ref xm, .ref xa, .int 0, .int 0]))]) (b_runV (q0 := 0) (ci := 9) (As := [.long z_14, .int 3]) (c_X9_feed_3 l D cI cZ cC cS sq H.size y y_lane y_many y_item y_city y_fresh y_tape y_cost y_away y_fee y_goesTo y_priceWas y_isKept y_kept y_trace z_14 (fun _ => 0)) S gL_law_X9_feed rfl hdV_X9_feed ⟨Nat.le_of_ble_eq_true rfl, Nat.le_of_ble_eq_true rfl⟩ ⟨Nat.le_of_ble_eq_true rfl, Nat.le_of_ble_eq_true rfl⟩ hK hP hD rfl rfl [0, 1] rfl (by decide) rfl hl.1 rfl (Nat.le_of_ble_eq_true rfl) dL_law_387) hP hD hS hA [0, 1] [2] rfl rfl (by decide) (by decide) (fun r_16 w_17 H locs hw_18 hP hD hS => ?_)
    obtain ⟨rfl, rfl⟩ := hw_18
    have hP : va_P D vwCl [(x, .inr (8, [.ref xs, .ref xt, .ref xc, .ref xd, .ref xr, .ref xi, .ref xv, .ref xw, .ref xh, .ref xm, .ref xa, .int 0, .int 0]))] H := hP
    have hD : va_D A [(x, .inr (8, [.ref xs, .ref xt, .ref xc, .ref xd, .ref xr, .ref xi, .ref xv, .ref xw, .ref xh, .ref xm, .ref xa, .int 0, .int 0]))] := hD
    refine lv_icmp_eq (tgt := 1034) S.1 S.2.1 dL_law_390 (by decide) (fun c_19 => ?_) (fun c_19 => absurd c_19 (by decide))
    exact law_tail C hS (lv_sub hl [0, 3] rfl) (by decide) (by decide)
  · have h3 : sc 3 = 4 := Int32.toInt_inj.mp (h0.trans rfl)
    refine lv_aload_n S.1 S.2.1 dL_law_332 rfl (lv_at hl 2 rfl) ?_
    refine lv_aload_n S.1 S.2.1 dL_law_333 rfl (lv_at hl 3 rfl) ?_
    refine lv_iload_n S.1 S.2.1 dL_law_334 rfl (lv_at hl 0 rfl) ?_
    refine lv_iconst (v := 1) S.1 S.2.1 dL_law_335 (by decide) ?_
    refine lv_iadd S.1 S.2.1 dL_law_336 ?_
    refine lv_topi (fun x_1 ex_1 => ?_)
    have ex_1 : x_1 = 1 := by rw [ex_1]; decide
    subst ex_1
    refine va_sld S.1 S.2.1 hX hbl hbA hS (by unfold vp_in; decide) dL_law_337 ?_
    refine W.eq (g2 := F0 m 338 ls [.int (sc 1), .ref x]) rfl ?_
    refine lv_i2l (v := (sc 1).toInt64) S.1 S.2.1 dL_law_338 rfl ?_
    refine lv_bipush (v := 32) S.1 S.2.1 dL_law_339 (by decide) ?_
    refine lv_lshl S.1 S.2.1 dL_law_341 rfl ?_
    refine lv_topl (fun z_2 ez_2 => ?_)
    refine lv_aload_n S.1 S.2.1 dL_law_342 rfl (lv_at hl 3 rfl) ?_
    refine lv_iload_n S.1 S.2.1 dL_law_343 rfl (lv_at hl 0 rfl) ?_
    refine lv_iconst (v := 2) S.1 S.2.1 dL_law_344 (by decide) ?_
    refine lv_iadd S.1 S.2.1 dL_law_345 ?_
    refine lv_topi (fun x_3 ex_3 => ?_)
    have ex_3 : x_3 = 2 := by rw [ex_3]; decide
    subst ex_3
    refine va_sld S.1 S.2.1 hX hbl hbA hS (by unfold vp_in; decide) dL_law_346 ?_
    refine W.eq (g2 := F0 m 347 ls [.int (sc 2), .long z_2, .ref x]) rfl ?_
    refine lv_i2l (v := (sc 2).toInt64) S.1 S.2.1 dL_law_347 rfl ?_
    refine lv_ldc2 (v := (4294967295)) S.1 S.2.1 S.2.2.2.1 (S.2.2.2.2 (.constantLong RL 32 (4294967295)) (by decide +kernel)) dL_law_348 ?_
    refine lv_land S.1 S.2.1 dL_law_351 ?_
    refine lv_topl (fun z_4 ez_4 => ?_)
    refine lv_lor S.1 S.2.1 dL_law_352 ?_
    refine lv_topl (fun z_5 ez_5 => ?_)
    refine lv_aload_n S.1 S.2.1 dL_law_353 rfl (lv_at hl 3 rfl) ?_
    refine lv_iload_n S.1 S.2.1 dL_law_354 rfl (lv_at hl 0 rfl) ?_
    refine lv_iconst (v := 3) S.1 S.2.1 dL_law_355 (by decide) ?_
    refine lv_iadd S.1 S.2.1 dL_law_356 ?_
    refine lv_topi (fun x_6 ex_6 => ?_)
    have ex_6 : x_6 = 3 := by rw [ex_6]; decide
    subst ex_6
    refine va_sld S.1 S.2.1 hX hbl hbA hS (by unfold vp_in; decide) dL_law_357 ?_
    refine W.eq (g2 := F0 m 358 ls [.int (sc 3), .long z_5, .ref x]) rfl ?_
    rw [h3]
    refine b_ai (wr := [(y, .inr (9, [.int 0, .int 0, .ref y_lane, .ref y_many, .ref y_item, .ref y_city, .ref y_fresh, .int 0, .ref y_tape, .int 0, .int 0, .int 0, .int 0, .int 0, .int 0, .int 0, .int 0, .int 0, .int 0, .int 0, .ref y_cost, .ref y_away, .ref y_fee, .ref y_goesTo, .ref y_priceWas, .ref y_isKept, .ref y_kept, .ref y_trace, .int 0])), (y_tape, .inl (cI, 400, .inl (fun _ => 0)))]) (b_runV (q0 := 0) (ci := 8) (As := [.long z_5, .int 4]) (c_X8_feed_4 l D cI cZ cC cS sq H.size x xs xt xc xd xr xi xv xw xh xm xa by_ (fun _ => 0) z_5) S gL_law_X8_feed rfl hdV_X8_feed ⟨Nat.le_of_ble_eq_true rfl, Nat.le_of_ble_eq_true rfl⟩ ⟨Nat.le_of_ble_eq_true rfl, Nat.le_of_ble_eq_true rfl⟩ hK hP hD rfl rfl [0, 1, 2] rfl (by decide) rfl hl.1 rfl (Nat.le_of_ble_eq_true rfl) dL_law_358) hP hD hS hA [0, 1, 2] [3, 4] rfl rfl (by decide) (by decide) (fun r_7 w_8 H locs hw_9 hP hD hS => ?_)
    obtain ⟨rfl, rfl⟩ := hw_9
    have hP : va_P D vwCl [(y, .inr (9, [.int 0, .int 0, .ref y_lane, .ref y_many, .ref y_item, .ref y_city, .ref y_fresh, .int 0, .ref y_tape, .int 0, .int 0, .int 0, .int 0, .int 0, .int 0, .int 0, .int 0, .int 0, .int 0, .int 0, .ref y_cost, .ref y_away, .ref y_fee, .ref y_goesTo, .ref y_priceWas, .ref y_isKept, .ref y_kept, .ref y_trace, .int 0])), (y_tape, .inl (cI, 400, .inl (fun _ => 0))), (x, .inr (8, [.ref xs, .ref xt, .ref xc, .ref xd, .ref xr, .ref xi, .ref xv, .ref xw, .ref xh, .ref xm, .ref xa, .int 0, .int 0]))] H := hP
    have hD : va_D A [(y, .inr (9, [.int 0, .int 0, .ref y_lane, .ref y_many, .ref y_item, .ref y_city, .ref y_fresh, .int 0, .ref y_tape, .int 0, .int 0, .int 0, .int 0, .int 0, .int 0, .int 0, .int 0, .int 0, .int 0, .int 0, .ref y_cost, .ref y_away, .ref y_fee, .ref y_goesTo, .ref y_priceWas, .ref y_isKept, .ref y_kept, .ref y_trace, .int 0])), (y_tape, .inl (cI, 400, .inl (fun _ => 0))), (x, .inr (8, [.ref xs, .ref xt, .ref xc, .ref xd, .ref xr, .ref xi, .ref xv, .ref xw, .ref xh, .ref xm, .ref xa, .int 0, .int 0]))] := hD
    refine lv_aload_n S.1 S.2.1 dL_law_361 rfl (lv_at hl 1 rfl) ?_
    refine lv_aload_n S.1 S.2.1 dL_law_362 rfl (lv_at hl 3 rfl) ?_
    refine lv_iload_n S.1 S.2.1 dL_law_363 rfl (lv_at hl 0 rfl) ?_
    refine lv_iconst (v := 1) S.1 S.2.1 dL_law_364 (by decide) ?_
    refine lv_iadd S.1 S.2.1 dL_law_365 ?_
    refine lv_topi (fun x_10 ex_10 => ?_)
    have ex_10 : x_10 = 1 := by rw [ex_10]; decide
    subst ex_10
    refine va_sld S.1 S.2.1 hX hbl hbA hS (by unfold vp_in; decide) dL_law_366 ?_
    refine W.eq (g2 := F0 m 367 ls [.int (sc 1), .ref y, .int 4]) rfl ?_
    refine lv_i2l (v := (sc 1).toInt64) S.1 S.2.1 dL_law_367 rfl ?_
    refine lv_bipush (v := 32) S.1 S.2.1 dL_law_368 (by decide) ?_
    refine lv_lshl S.1 S.2.1 dL_law_370 rfl ?_
    refine lv_topl (fun z_11 ez_11 => ?_)
    refine lv_aload_n S.1 S.2.1 dL_law_371 rfl (lv_at hl 3 rfl) ?_
    refine lv_iload_n S.1 S.2.1 dL_law_372 rfl (lv_at hl 0 rfl) ?_
    refine lv_iconst (v := 2) S.1 S.2.1 dL_law_373 (by decide) ?_
    refine lv_iadd S.1 S.2.1 dL_law_374 ?_
    refine lv_topi (fun x_12 ex_12 => ?_)
    have ex_12 : x_12 = 2 := by rw [ex_12]; decide
    subst ex_12
    refine va_sld S.1 S.2.1 hX hbl hbA hS (by unfold vp_in; decide) dL_law_375 ?_
    refine W.eq (g2 := F0 m 376 ls [.int (sc 2), .long z_11, .ref y, .int 4]) rfl ?_
    refine lv_i2l (v := (sc 2).toInt64) S.1 S.2.1 dL_law_376 rfl ?_
    refine lv_ldc2 (v := (4294967295)) S.1 S.2.1 S.2.2.2.1 (S.2.2.2.2 (.constantLong RL 32 (4294967295)) (by decide +kernel)) dL_law_377 ?_
    refine lv_land S.1 S.2.1 dL_law_380 ?_
    refine lv_topl (fun z_13 ez_13 => ?_)
    refine lv_lor S.1 S.2.1 dL_law_381 ?_
    refine lv_topl (fun z_14 ez_14 => ?_)
    refine lv_aload_n S.1 S.2.1 dL_law_382 rfl (lv_at hl 3 rfl) ?_
    refine lv_iload_n S.1 S.2.1 dL_law_383 rfl (lv_at hl 0 rfl) ?_
    refine lv_iconst (v := 3) S.1 S.2.1 dL_law_384 (by decide) ?_
    refine lv_iadd S.1 S.2.1 dL_law_385 ?_
    refine lv_topi (fun x_15 ex_15 => ?_)
    have ex_15 : x_15 = 3 := by rw [ex_15]; decide
    subst ex_15
    refine va_sld S.1 S.2.1 hX hbl hbA hS (by unfold vp_in; decide) dL_law_386 ?_
    refine W.eq (g2 := F0 m 387 ls [.int (sc 3), .long z_14, .ref y, .int 4]) rfl ?_
    rw [h3]
    refine b_ai (wr := [(x, .inr (8, [.ref xs, .ref xt, .ref xc, .ref xd, .ref xr, .ref xi, .ref xv, .ref xw, .ref xh, .ref xm, .ref xa, .int 0, .int 0]))]) (b_runV (q0 := 0) (ci := 9) (As := [.long z_14, .int 4]) (c_X9_feed_4 l D cI cZ cC cS sq H.size y y_lane y_many y_item y_city y_fresh y_tape y_cost y_away y_fee y_goesTo y_priceWas y_isKept y_kept y_trace z_14 (fun _ => 0)) S gL_law_X9_feed rfl hdV_X9_feed ⟨Nat.le_of_ble_eq_true rfl, Nat.le_of_ble_eq_true rfl⟩ ⟨Nat.le_of_ble_eq_true rfl, Nat.le_of_ble_eq_true rfl⟩ hK hP hD rfl rfl [0, 1] rfl (by decide) rfl hl.1 rfl (Nat.le_of_ble_eq_true rfl) dL_law_387) hP hD hS hA [0, 1] [2] rfl rfl (by decide) (by decide) (fun r_16 w_17 H locs hw_18 hP hD hS => ?_)
    obtain ⟨rfl, rfl⟩ := hw_18
    have hP : va_P D vwCl [(x, .inr (8, [.ref xs, .ref xt, .ref xc, .ref xd, .ref xr, .ref xi, .ref xv, .ref xw, .ref xh, .ref xm, .ref xa, .int 0, .int 0]))] H := hP
    have hD : va_D A [(x, .inr (8, [.ref xs, .ref xt, .ref xc, .ref xd, .ref xr, .ref xi, .ref xv, .ref xw, .ref xh, .ref xm, .ref xa, .int 0, .int 0]))] := hD
    refine lv_icmp_eq (tgt := 1034) S.1 S.2.1 dL_law_390 (by decide) (fun c_19 => ?_) (fun c_19 => absurd c_19 (by decide))
    exact law_tail C hS (lv_sub hl [0, 3] rfl) (by decide) (by decide)
  · have h3 : sc 3 = 5 := Int32.toInt_inj.mp (h0.trans rfl)
    refine lv_aload_n S.1 S.2.1 dL_law_332 rfl (lv_at hl 2 rfl) ?_
    refine lv_aload_n S.1 S.2.1 dL_law_333 rfl (lv_at hl 3 rfl) ?_
    refine lv_iload_n S.1 S.2.1 dL_law_334 rfl (lv_at hl 0 rfl) ?_
    refine lv_iconst (v := 1) S.1 S.2.1 dL_law_335 (by decide) ?_
    refine lv_iadd S.1 S.2.1 dL_law_336 ?_
    refine lv_topi (fun x_1 ex_1 => ?_)
    have ex_1 : x_1 = 1 := by rw [ex_1]; decide
    subst ex_1
    refine va_sld S.1 S.2.1 hX hbl hbA hS (by unfold vp_in; decide) dL_law_337 ?_
    refine W.eq (g2 := F0 m 338 ls [.int (sc 1), .ref x]) rfl ?_
    refine lv_i2l (v := (sc 1).toInt64) S.1 S.2.1 dL_law_338 rfl ?_
    refine lv_bipush (v := 32) S.1 S.2.1 dL_law_339 (by decide) ?_
    refine lv_lshl S.1 S.2.1 dL_law_341 rfl ?_
    refine lv_topl (fun z_2 ez_2 => ?_)
    refine lv_aload_n S.1 S.2.1 dL_law_342 rfl (lv_at hl 3 rfl) ?_
    refine lv_iload_n S.1 S.2.1 dL_law_343 rfl (lv_at hl 0 rfl) ?_
    refine lv_iconst (v := 2) S.1 S.2.1 dL_law_344 (by decide) ?_
    refine lv_iadd S.1 S.2.1 dL_law_345 ?_
    refine lv_topi (fun x_3 ex_3 => ?_)
    have ex_3 : x_3 = 2 := by rw [ex_3]; decide
    subst ex_3
    refine va_sld S.1 S.2.1 hX hbl hbA hS (by unfold vp_in; decide) dL_law_346 ?_
    refine W.eq (g2 := F0 m 347 ls [.int (sc 2), .long z_2, .ref x]) rfl ?_
    refine lv_i2l (v := (sc 2).toInt64) S.1 S.2.1 dL_law_347 rfl ?_
    refine lv_ldc2 (v := (4294967295)) S.1 S.2.1 S.2.2.2.1 (S.2.2.2.2 (.constantLong RL 32 (4294967295)) (by decide +kernel)) dL_law_348 ?_
    refine lv_land S.1 S.2.1 dL_law_351 ?_
    refine lv_topl (fun z_4 ez_4 => ?_)
    refine lv_lor S.1 S.2.1 dL_law_352 ?_
    refine lv_topl (fun z_5 ez_5 => ?_)
    refine lv_aload_n S.1 S.2.1 dL_law_353 rfl (lv_at hl 3 rfl) ?_
    refine lv_iload_n S.1 S.2.1 dL_law_354 rfl (lv_at hl 0 rfl) ?_
    refine lv_iconst (v := 3) S.1 S.2.1 dL_law_355 (by decide) ?_
    refine lv_iadd S.1 S.2.1 dL_law_356 ?_
    refine lv_topi (fun x_6 ex_6 => ?_)
    have ex_6 : x_6 = 3 := by rw [ex_6]; decide
    subst ex_6
    refine va_sld S.1 S.2.1 hX hbl hbA hS (by unfold vp_in; decide) dL_law_357 ?_
    refine W.eq (g2 := F0 m 358 ls [.int (sc 3), .long z_5, .ref x]) rfl ?_
    rw [h3]
    refine b_ai (wr := [(y, .inr (9, [.int 0, .int 0, .ref y_lane, .ref y_many, .ref y_item, .ref y_city, .ref y_fresh, .int 0, .ref y_tape, .int 0, .int 0, .int 0, .int 0, .int 0, .int 0, .int 0, .int 0, .int 0, .int 0, .int 0, .ref y_cost, .ref y_away, .ref y_fee, .ref y_goesTo, .ref y_priceWas, .ref y_isKept, .ref y_kept, .ref y_trace, .int 0])), (y_tape, .inl (cI, 400, .inl (fun _ => 0)))]) (b_runV (q0 := 0) (ci := 8) (As := [.long z_5, .int 5]) (c_X8_feed_5 l D cI cZ cC cS sq H.size x xs xt xc xd xr xi xv xw xh xm xa by_ (fun _ => 0) z_5) S gL_law_X8_feed rfl hdV_X8_feed ⟨Nat.le_of_ble_eq_true rfl, Nat.le_of_ble_eq_true rfl⟩ ⟨Nat.le_of_ble_eq_true rfl, Nat.le_of_ble_eq_true rfl⟩ hK hP hD rfl rfl [0, 1, 2] rfl (by decide) rfl hl.1 rfl (Nat.le_of_ble_eq_true rfl) dL_law_358) hP hD hS hA [0, 1, 2] [3, 4] rfl rfl (by decide) (by decide) (fun r_7 w_8 H locs hw_9 hP hD hS => ?_)
    obtain ⟨rfl, rfl⟩ := hw_9
    have hP : va_P D vwCl [(y, .inr (9, [.int 0, .int 0, .ref y_lane, .ref y_many, .ref y_item, .ref y_city, .ref y_fresh, .int 0, .ref y_tape, .int 0, .int 0, .int 0, .int 0, .int 0, .int 0, .int 0, .int 0, .int 0, .int 0, .int 0, .ref y_cost, .ref y_away, .ref y_fee, .ref y_goesTo, .ref y_priceWas, .ref y_isKept, .ref y_kept, .ref y_trace, .int 0])), (y_tape, .inl (cI, 400, .inl (fun _ => 0))), (x, .inr (8, [.ref xs, .ref xt, .ref xc, .ref xd, .ref xr, .ref xi, .ref xv, .ref xw, .ref xh, .ref xm, .ref xa, .int 0, .int 0]))] H := hP
    have hD : va_D A [(y, .inr (9, [.int 0, .int 0, .ref y_lane, .ref y_many, .ref y_item, .ref y_city, .ref y_fresh, .int 0, .ref y_tape, .int 0, .int 0, .int 0, .int 0, .int 0, .int 0, .int 0, .int 0, .int 0, .int 0, .int 0, .ref y_cost, .ref y_away, .ref y_fee, .ref y_goesTo, .ref y_priceWas, .ref y_isKept, .ref y_kept, .ref y_trace, .int 0])), (y_tape, .inl (cI, 400, .inl (fun _ => 0))), (x, .inr (8, [.ref xs, .ref xt, .ref xc, .ref xd, .ref xr, .ref xi, .ref xv, .ref xw, .ref xh, .ref xm, .ref xa, .int 0, .int 0]))] := hD
    refine lv_aload_n S.1 S.2.1 dL_law_361 rfl (lv_at hl 1 rfl) ?_
    refine lv_aload_n S.1 S.2.1 dL_law_362 rfl (lv_at hl 3 rfl) ?_
    refine lv_iload_n S.1 S.2.1 dL_law_363 rfl (lv_at hl 0 rfl) ?_
    refine lv_iconst (v := 1) S.1 S.2.1 dL_law_364 (by decide) ?_
    refine lv_iadd S.1 S.2.1 dL_law_365 ?_
    refine lv_topi (fun x_10 ex_10 => ?_)
    have ex_10 : x_10 = 1 := by rw [ex_10]; decide
    subst ex_10
    refine va_sld S.1 S.2.1 hX hbl hbA hS (by unfold vp_in; decide) dL_law_366 ?_
    refine W.eq (g2 := F0 m 367 ls [.int (sc 1), .ref y, .int 5]) rfl ?_
    refine lv_i2l (v := (sc 1).toInt64) S.1 S.2.1 dL_law_367 rfl ?_
    refine lv_bipush (v := 32) S.1 S.2.1 dL_law_368 (by decide) ?_
    refine lv_lshl S.1 S.2.1 dL_law_370 rfl ?_
    refine lv_topl (fun z_11 ez_11 => ?_)
    refine lv_aload_n S.1 S.2.1 dL_law_371 rfl (lv_at hl 3 rfl) ?_
    refine lv_iload_n S.1 S.2.1 dL_law_372 rfl (lv_at hl 0 rfl) ?_
    refine lv_iconst (v := 2) S.1 S.2.1 dL_law_373 (by decide) ?_
    refine lv_iadd S.1 S.2.1 dL_law_374 ?_
    refine lv_topi (fun x_12 ex_12 => ?_)
    have ex_12 : x_12 = 2 := by rw [ex_12]; decide
    subst ex_12
    refine va_sld S.1 S.2.1 hX hbl hbA hS (by unfold vp_in; decide) dL_law_375 ?_
    refine W.eq (g2 := F0 m 376 ls [.int (sc 2), .long z_11, .ref y, .int 5]) rfl ?_
    refine lv_i2l (v := (sc 2).toInt64) S.1 S.2.1 dL_law_376 rfl ?_
    refine lv_ldc2 (v := (4294967295)) S.1 S.2.1 S.2.2.2.1 (S.2.2.2.2 (.constantLong RL 32 (4294967295)) (by decide +kernel)) dL_law_377 ?_
    refine lv_land S.1 S.2.1 dL_law_380 ?_
    refine lv_topl (fun z_13 ez_13 => ?_)
    refine lv_lor S.1 S.2.1 dL_law_381 ?_
    refine lv_topl (fun z_14 ez_14 => ?_)
    refine lv_aload_n S.1 S.2.1 dL_law_382 rfl (lv_at hl 3 rfl) ?_
    refine lv_iload_n S.1 S.2.1 dL_law_383 rfl (lv_at hl 0 rfl) ?_
    refine lv_iconst (v := 3) S.1 S.2.1 dL_law_384 (by decide) ?_
    refine lv_iadd S.1 S.2.1 dL_law_385 ?_
    refine lv_topi (fun x_15 ex_15 => ?_)
    have ex_15 : x_15 = 3 := by rw [ex_15]; decide
    subst ex_15
    refine va_sld S.1 S.2.1 hX hbl hbA hS (by unfold vp_in; decide) dL_law_386 ?_
    refine W.eq (g2 := F0 m 387 ls [.int (sc 3), .long z_14, .ref y, .int 5]) rfl ?_
    rw [h3]
    refine b_ai (wr := [(x, .inr (8, [.ref xs, .ref xt, .ref xc, .ref xd, .ref xr, .ref xi, .ref xv, .ref xw, .ref xh, .ref xm, .ref xa, .int 0, .int 0]))]) (b_runV (q0 := 0) (ci := 9) (As := [.long z_14, .int 5]) (c_X9_feed_5 l D cI cZ cC cS sq H.size y y_lane y_many y_item y_city y_fresh y_tape y_cost y_away y_fee y_goesTo y_priceWas y_isKept y_kept y_trace z_14 (fun _ => 0)) S gL_law_X9_feed rfl hdV_X9_feed ⟨Nat.le_of_ble_eq_true rfl, Nat.le_of_ble_eq_true rfl⟩ ⟨Nat.le_of_ble_eq_true rfl, Nat.le_of_ble_eq_true rfl⟩ hK hP hD rfl rfl [0, 1] rfl (by decide) rfl hl.1 rfl (Nat.le_of_ble_eq_true rfl) dL_law_387) hP hD hS hA [0, 1] [2] rfl rfl (by decide) (by decide) (fun r_16 w_17 H locs hw_18 hP hD hS => ?_)
    obtain ⟨rfl, rfl⟩ := hw_18
    have hP : va_P D vwCl [(x, .inr (8, [.ref xs, .ref xt, .ref xc, .ref xd, .ref xr, .ref xi, .ref xv, .ref xw, .ref xh, .ref xm, .ref xa, .int 0, .int 0]))] H := hP
    have hD : va_D A [(x, .inr (8, [.ref xs, .ref xt, .ref xc, .ref xd, .ref xr, .ref xi, .ref xv, .ref xw, .ref xh, .ref xm, .ref xa, .int 0, .int 0]))] := hD
    refine lv_icmp_eq (tgt := 1034) S.1 S.2.1 dL_law_390 (by decide) (fun c_19 => ?_) (fun c_19 => absurd c_19 (by decide))
    exact law_tail C hS (lv_sub hl [0, 3] rfl) (by decide) (by decide)
  · have h3 : sc 3 = 6 := Int32.toInt_inj.mp (h0.trans rfl)
    refine lv_aload_n S.1 S.2.1 dL_law_332 rfl (lv_at hl 2 rfl) ?_
    refine lv_aload_n S.1 S.2.1 dL_law_333 rfl (lv_at hl 3 rfl) ?_
    refine lv_iload_n S.1 S.2.1 dL_law_334 rfl (lv_at hl 0 rfl) ?_
    refine lv_iconst (v := 1) S.1 S.2.1 dL_law_335 (by decide) ?_
    refine lv_iadd S.1 S.2.1 dL_law_336 ?_
    refine lv_topi (fun x_1 ex_1 => ?_)
    have ex_1 : x_1 = 1 := by rw [ex_1]; decide
    subst ex_1
    refine va_sld S.1 S.2.1 hX hbl hbA hS (by unfold vp_in; decide) dL_law_337 ?_
    refine W.eq (g2 := F0 m 338 ls [.int (sc 1), .ref x]) rfl ?_
    refine lv_i2l (v := (sc 1).toInt64) S.1 S.2.1 dL_law_338 rfl ?_
    refine lv_bipush (v := 32) S.1 S.2.1 dL_law_339 (by decide) ?_
    refine lv_lshl S.1 S.2.1 dL_law_341 rfl ?_
    refine lv_topl (fun z_2 ez_2 => ?_)
    refine lv_aload_n S.1 S.2.1 dL_law_342 rfl (lv_at hl 3 rfl) ?_
    refine lv_iload_n S.1 S.2.1 dL_law_343 rfl (lv_at hl 0 rfl) ?_
    refine lv_iconst (v := 2) S.1 S.2.1 dL_law_344 (by decide) ?_
    refine lv_iadd S.1 S.2.1 dL_law_345 ?_
    refine lv_topi (fun x_3 ex_3 => ?_)
    have ex_3 : x_3 = 2 := by rw [ex_3]; decide
    subst ex_3
    refine va_sld S.1 S.2.1 hX hbl hbA hS (by unfold vp_in; decide) dL_law_346 ?_
    refine W.eq (g2 := F0 m 347 ls [.int (sc 2), .long z_2, .ref x]) rfl ?_
    refine lv_i2l (v := (sc 2).toInt64) S.1 S.2.1 dL_law_347 rfl ?_
    refine lv_ldc2 (v := (4294967295)) S.1 S.2.1 S.2.2.2.1 (S.2.2.2.2 (.constantLong RL 32 (4294967295)) (by decide +kernel)) dL_law_348 ?_
    refine lv_land S.1 S.2.1 dL_law_351 ?_
    refine lv_topl (fun z_4 ez_4 => ?_)
    refine lv_lor S.1 S.2.1 dL_law_352 ?_
    refine lv_topl (fun z_5 ez_5 => ?_)
    refine lv_aload_n S.1 S.2.1 dL_law_353 rfl (lv_at hl 3 rfl) ?_
    refine lv_iload_n S.1 S.2.1 dL_law_354 rfl (lv_at hl 0 rfl) ?_
    refine lv_iconst (v := 3) S.1 S.2.1 dL_law_355 (by decide) ?_
    refine lv_iadd S.1 S.2.1 dL_law_356 ?_
    refine lv_topi (fun x_6 ex_6 => ?_)
    have ex_6 : x_6 = 3 := by rw [ex_6]; decide
    subst ex_6
    refine va_sld S.1 S.2.1 hX hbl hbA hS (by unfold vp_in; decide) dL_law_357 ?_
    refine W.eq (g2 := F0 m 358 ls [.int (sc 3), .long z_5, .ref x]) rfl ?_
    rw [h3]
    refine b_ai (wr := [(y, .inr (9, [.int 0, .int 0, .ref y_lane, .ref y_many, .ref y_item, .ref y_city, .ref y_fresh, .int 0, .ref y_tape, .int 0, .int 0, .int 0, .int 0, .int 0, .int 0, .int 0, .int 0, .int 0, .int 0, .int 0, .ref y_cost, .ref y_away, .ref y_fee, .ref y_goesTo, .ref y_priceWas, .ref y_isKept, .ref y_kept, .ref y_trace, .int 0])), (y_tape, .inl (cI, 400, .inl (fun _ => 0)))]) (b_runV (q0 := 0) (ci := 8) (As := [.long z_5, .int 6]) (c_X8_feed_6 l D cI cZ cC cS sq H.size x xs xt xc xd xr xi xv xw xh xm xa by_ (fun _ => 0) z_5) S gL_law_X8_feed rfl hdV_X8_feed ⟨Nat.le_of_ble_eq_true rfl, Nat.le_of_ble_eq_true rfl⟩ ⟨Nat.le_of_ble_eq_true rfl, Nat.le_of_ble_eq_true rfl⟩ hK hP hD rfl rfl [0, 1, 2] rfl (by decide) rfl hl.1 rfl (Nat.le_of_ble_eq_true rfl) dL_law_358) hP hD hS hA [0, 1, 2] [3, 4] rfl rfl (by decide) (by decide) (fun r_7 w_8 H locs hw_9 hP hD hS => ?_)
    obtain ⟨rfl, rfl⟩ := hw_9
    have hP : va_P D vwCl [(y, .inr (9, [.int 0, .int 0, .ref y_lane, .ref y_many, .ref y_item, .ref y_city, .ref y_fresh, .int 0, .ref y_tape, .int 0, .int 0, .int 0, .int 0, .int 0, .int 0, .int 0, .int 0, .int 0, .int 0, .int 0, .ref y_cost, .ref y_away, .ref y_fee, .ref y_goesTo, .ref y_priceWas, .ref y_isKept, .ref y_kept, .ref y_trace, .int 0])), (y_tape, .inl (cI, 400, .inl (fun _ => 0))), (x, .inr (8, [.ref xs, .ref xt, .ref xc, .ref xd, .ref xr, .ref xi, .ref xv, .ref xw, .ref xh, .ref xm, .ref xa, .int 0, .int 0]))] H := hP
    have hD : va_D A [(y, .inr (9, [.int 0, .int 0, .ref y_lane, .ref y_many, .ref y_item, .ref y_city, .ref y_fresh, .int 0, .ref y_tape, .int 0, .int 0, .int 0, .int 0, .int 0, .int 0, .int 0, .int 0, .int 0, .int 0, .int 0, .ref y_cost, .ref y_away, .ref y_fee, .ref y_goesTo, .ref y_priceWas, .ref y_isKept, .ref y_kept, .ref y_trace, .int 0])), (y_tape, .inl (cI, 400, .inl (fun _ => 0))), (x, .inr (8, [.ref xs, .ref xt, .ref xc, .ref xd, .ref xr, .ref xi, .ref xv, .ref xw, .ref xh, .ref xm, .ref xa, .int 0, .int 0]))] := hD
    refine lv_aload_n S.1 S.2.1 dL_law_361 rfl (lv_at hl 1 rfl) ?_
    refine lv_aload_n S.1 S.2.1 dL_law_362 rfl (lv_at hl 3 rfl) ?_
    refine lv_iload_n S.1 S.2.1 dL_law_363 rfl (lv_at hl 0 rfl) ?_
    refine lv_iconst (v := 1) S.1 S.2.1 dL_law_364 (by decide) ?_
    refine lv_iadd S.1 S.2.1 dL_law_365 ?_
    refine lv_topi (fun x_10 ex_10 => ?_)
    have ex_10 : x_10 = 1 := by rw [ex_10]; decide
    subst ex_10
    refine va_sld S.1 S.2.1 hX hbl hbA hS (by unfold vp_in; decide) dL_law_366 ?_
    refine W.eq (g2 := F0 m 367 ls [.int (sc 1), .ref y, .int 6]) rfl ?_
    refine lv_i2l (v := (sc 1).toInt64) S.1 S.2.1 dL_law_367 rfl ?_
    refine lv_bipush (v := 32) S.1 S.2.1 dL_law_368 (by decide) ?_
    refine lv_lshl S.1 S.2.1 dL_law_370 rfl ?_
    refine lv_topl (fun z_11 ez_11 => ?_)
    refine lv_aload_n S.1 S.2.1 dL_law_371 rfl (lv_at hl 3 rfl) ?_
    refine lv_iload_n S.1 S.2.1 dL_law_372 rfl (lv_at hl 0 rfl) ?_
    refine lv_iconst (v := 2) S.1 S.2.1 dL_law_373 (by decide) ?_
    refine lv_iadd S.1 S.2.1 dL_law_374 ?_
    refine lv_topi (fun x_12 ex_12 => ?_)
    have ex_12 : x_12 = 2 := by rw [ex_12]; decide
    subst ex_12
    refine va_sld S.1 S.2.1 hX hbl hbA hS (by unfold vp_in; decide) dL_law_375 ?_
    refine W.eq (g2 := F0 m 376 ls [.int (sc 2), .long z_11, .ref y, .int 6]) rfl ?_
    refine lv_i2l (v := (sc 2).toInt64) S.1 S.2.1 dL_law_376 rfl ?_
    refine lv_ldc2 (v := (4294967295)) S.1 S.2.1 S.2.2.2.1 (S.2.2.2.2 (.constantLong RL 32 (4294967295)) (by decide +kernel)) dL_law_377 ?_
    refine lv_land S.1 S.2.1 dL_law_380 ?_
    refine lv_topl (fun z_13 ez_13 => ?_)
    refine lv_lor S.1 S.2.1 dL_law_381 ?_
    refine lv_topl (fun z_14 ez_14 => ?_)
    refine lv_aload_n S.1 S.2.1 dL_law_382 rfl (lv_at hl 3 rfl) ?_
    refine lv_iload_n S.1 S.2.1 dL_law_383 rfl (lv_at hl 0 rfl) ?_
    refine lv_iconst (v := 3) S.1 S.2.1 dL_law_384 (by decide) ?_
    refine lv_iadd S.1 S.2.1 dL_law_385 ?_
    refine lv_topi (fun x_15 ex_15 => ?_)
    have ex_15 : x_15 = 3 := by rw [ex_15]; decide
    subst ex_15
    refine va_sld S.1 S.2.1 hX hbl hbA hS (by unfold vp_in; decide) dL_law_386 ?_
    refine W.eq (g2 := F0 m 387 ls [.int (sc 3), .long z_14, .ref y, .int 6]) rfl ?_
    rw [h3]
    refine b_ai (wr := [(x, .inr (8, [.ref xs, .ref xt, .ref xc, .ref xd, .ref xr, .ref xi, .ref xv, .ref xw, .ref xh, .ref xm, .ref xa, .int 0, .int 0]))]) (b_runV (q0 := 0) (ci := 9) (As := [.long z_14, .int 6]) (c_X9_feed_6 l D cI cZ cC cS sq H.size y y_lane y_many y_item y_city y_fresh y_tape y_cost y_away y_fee y_goesTo y_priceWas y_isKept y_kept y_trace z_14 (fun _ => 0)) S gL_law_X9_feed rfl hdV_X9_feed ⟨Nat.le_of_ble_eq_true rfl, Nat.le_of_ble_eq_true rfl⟩ ⟨Nat.le_of_ble_eq_true rfl, Nat.le_of_ble_eq_true rfl⟩ hK hP hD rfl rfl [0, 1] rfl (by decide) rfl hl.1 rfl (Nat.le_of_ble_eq_true rfl) dL_law_387) hP hD hS hA [0, 1] [2] rfl rfl (by decide) (by decide) (fun r_16 w_17 H locs hw_18 hP hD hS => ?_)
    obtain ⟨rfl, rfl⟩ := hw_18
    have hP : va_P D vwCl [(x, .inr (8, [.ref xs, .ref xt, .ref xc, .ref xd, .ref xr, .ref xi, .ref xv, .ref xw, .ref xh, .ref xm, .ref xa, .int 0, .int 0]))] H := hP
    have hD : va_D A [(x, .inr (8, [.ref xs, .ref xt, .ref xc, .ref xd, .ref xr, .ref xi, .ref xv, .ref xw, .ref xh, .ref xm, .ref xa, .int 0, .int 0]))] := hD
    refine lv_icmp_eq (tgt := 1034) S.1 S.2.1 dL_law_390 (by decide) (fun c_19 => ?_) (fun c_19 => absurd c_19 (by decide))
    exact law_tail C hS (lv_sub hl [0, 3] rfl) (by decide) (by decide)
  · have h3 : sc 3 = 7 := Int32.toInt_inj.mp (h0.trans rfl)
    refine lv_aload_n S.1 S.2.1 dL_law_332 rfl (lv_at hl 2 rfl) ?_
    refine lv_aload_n S.1 S.2.1 dL_law_333 rfl (lv_at hl 3 rfl) ?_
    refine lv_iload_n S.1 S.2.1 dL_law_334 rfl (lv_at hl 0 rfl) ?_
    refine lv_iconst (v := 1) S.1 S.2.1 dL_law_335 (by decide) ?_
    refine lv_iadd S.1 S.2.1 dL_law_336 ?_
    refine lv_topi (fun x_1 ex_1 => ?_)
    have ex_1 : x_1 = 1 := by rw [ex_1]; decide
    subst ex_1
    refine va_sld S.1 S.2.1 hX hbl hbA hS (by unfold vp_in; decide) dL_law_337 ?_
    refine W.eq (g2 := F0 m 338 ls [.int (sc 1), .ref x]) rfl ?_
    refine lv_i2l (v := (sc 1).toInt64) S.1 S.2.1 dL_law_338 rfl ?_
    refine lv_bipush (v := 32) S.1 S.2.1 dL_law_339 (by decide) ?_
    refine lv_lshl S.1 S.2.1 dL_law_341 rfl ?_
    refine lv_topl (fun z_2 ez_2 => ?_)
    refine lv_aload_n S.1 S.2.1 dL_law_342 rfl (lv_at hl 3 rfl) ?_
    refine lv_iload_n S.1 S.2.1 dL_law_343 rfl (lv_at hl 0 rfl) ?_
    refine lv_iconst (v := 2) S.1 S.2.1 dL_law_344 (by decide) ?_
    refine lv_iadd S.1 S.2.1 dL_law_345 ?_
    refine lv_topi (fun x_3 ex_3 => ?_)
    have ex_3 : x_3 = 2 := by rw [ex_3]; decide
    subst ex_3
    refine va_sld S.1 S.2.1 hX hbl hbA hS (by unfold vp_in; decide) dL_law_346 ?_
    refine W.eq (g2 := F0 m 347 ls [.int (sc 2), .long z_2, .ref x]) rfl ?_
    refine lv_i2l (v := (sc 2).toInt64) S.1 S.2.1 dL_law_347 rfl ?_
    refine lv_ldc2 (v := (4294967295)) S.1 S.2.1 S.2.2.2.1 (S.2.2.2.2 (.constantLong RL 32 (4294967295)) (by decide +kernel)) dL_law_348 ?_
    refine lv_land S.1 S.2.1 dL_law_351 ?_
    refine lv_topl (fun z_4 ez_4 => ?_)
    refine lv_lor S.1 S.2.1 dL_law_352 ?_
    refine lv_topl (fun z_5 ez_5 => ?_)
    refine lv_aload_n S.1 S.2.1 dL_law_353 rfl (lv_at hl 3 rfl) ?_
    refine lv_iload_n S.1 S.2.1 dL_law_354 rfl (lv_at hl 0 rfl) ?_
    refine lv_iconst (v := 3) S.1 S.2.1 dL_law_355 (by decide) ?_
    refine lv_iadd S.1 S.2.1 dL_law_356 ?_
    refine lv_topi (fun x_6 ex_6 => ?_)
    have ex_6 : x_6 = 3 := by rw [ex_6]; decide
    subst ex_6
    refine va_sld S.1 S.2.1 hX hbl hbA hS (by unfold vp_in; decide) dL_law_357 ?_
    refine W.eq (g2 := F0 m 358 ls [.int (sc 3), .long z_5, .ref x]) rfl ?_
    rw [h3]
    refine b_ai (wr := [(y, .inr (9, [.int 0, .int 0, .ref y_lane, .ref y_many, .ref y_item, .ref y_city, .ref y_fresh, .int 0, .ref y_tape, .int 0, .int 0, .int 0, .int 0, .int 0, .int 0, .int 0, .int 0, .int 0, .int 0, .int 0, .ref y_cost, .ref y_away, .ref y_fee, .ref y_goesTo, .ref y_priceWas, .ref y_isKept, .ref y_kept, .ref y_trace, .int 0])), (y_tape, .inl (cI, 400, .inl (fun _ => 0)))]) (b_runV (q0 := 0) (ci := 8) (As := [.long z_5, .int 7]) (c_X8_feed_7 l D cI cZ cC cS sq H.size x xs xt xc xd xr xi xv xw xh xm xa by_ (fun _ => 0) z_5) S gL_law_X8_feed rfl hdV_X8_feed ⟨Nat.le_of_ble_eq_true rfl, Nat.le_of_ble_eq_true rfl⟩ ⟨Nat.le_of_ble_eq_true rfl, Nat.le_of_ble_eq_true rfl⟩ hK hP hD rfl rfl [0, 1, 2] rfl (by decide) rfl hl.1 rfl (Nat.le_of_ble_eq_true rfl) dL_law_358) hP hD hS hA [0, 1, 2] [3, 4] rfl rfl (by decide) (by decide) (fun r_7 w_8 H locs hw_9 hP hD hS => ?_)
    obtain ⟨rfl, rfl⟩ := hw_9
    have hP : va_P D vwCl [(y, .inr (9, [.int 0, .int 0, .ref y_lane, .ref y_many, .ref y_item, .ref y_city, .ref y_fresh, .int 0, .ref y_tape, .int 0, .int 0, .int 0, .int 0, .int 0, .int 0, .int 0, .int 0, .int 0, .int 0, .int 0, .ref y_cost, .ref y_away, .ref y_fee, .ref y_goesTo, .ref y_priceWas, .ref y_isKept, .ref y_kept, .ref y_trace, .int 0])), (y_tape, .inl (cI, 400, .inl (fun _ => 0))), (x, .inr (8, [.ref xs, .ref xt, .ref xc, .ref xd, .ref xr, .ref xi, .ref xv, .ref xw, .ref xh, .ref xm, .ref xa, .int 0, .int 0]))] H := hP
    have hD : va_D A [(y, .inr (9, [.int 0, .int 0, .ref y_lane, .ref y_many, .ref y_item, .ref y_city, .ref y_fresh, .int 0, .ref y_tape, .int 0, .int 0, .int 0, .int 0, .int 0, .int 0, .int 0, .int 0, .int 0, .int 0, .int 0, .ref y_cost, .ref y_away, .ref y_fee, .ref y_goesTo, .ref y_priceWas, .ref y_isKept, .ref y_kept, .ref y_trace, .int 0])), (y_tape, .inl (cI, 400, .inl (fun _ => 0))), (x, .inr (8, [.ref xs, .ref xt, .ref xc, .ref xd, .ref xr, .ref xi, .ref xv, .ref xw, .ref xh, .ref xm, .ref xa, .int 0, .int 0]))] := hD
    refine lv_aload_n S.1 S.2.1 dL_law_361 rfl (lv_at hl 1 rfl) ?_
    refine lv_aload_n S.1 S.2.1 dL_law_362 rfl (lv_at hl 3 rfl) ?_
    refine lv_iload_n S.1 S.2.1 dL_law_363 rfl (lv_at hl 0 rfl) ?_
    refine lv_iconst (v := 1) S.1 S.2.1 dL_law_364 (by decide) ?_
    refine lv_iadd S.1 S.2.1 dL_law_365 ?_
    refine lv_topi (fun x_10 ex_10 => ?_)
    have ex_10 : x_10 = 1 := by rw [ex_10]; decide
    subst ex_10
    refine va_sld S.1 S.2.1 hX hbl hbA hS (by unfold vp_in; decide) dL_law_366 ?_
    refine W.eq (g2 := F0 m 367 ls [.int (sc 1), .ref y, .int 7]) rfl ?_
    refine lv_i2l (v := (sc 1).toInt64) S.1 S.2.1 dL_law_367 rfl ?_
    refine lv_bipush (v := 32) S.1 S.2.1 dL_law_368 (by decide) ?_
    refine lv_lshl S.1 S.2.1 dL_law_370 rfl ?_
    refine lv_topl (fun z_11 ez_11 => ?_)
    refine lv_aload_n S.1 S.2.1 dL_law_371 rfl (lv_at hl 3 rfl) ?_
    refine lv_iload_n S.1 S.2.1 dL_law_372 rfl (lv_at hl 0 rfl) ?_
    refine lv_iconst (v := 2) S.1 S.2.1 dL_law_373 (by decide) ?_
    refine lv_iadd S.1 S.2.1 dL_law_374 ?_
    refine lv_topi (fun x_12 ex_12 => ?_)
    have ex_12 : x_12 = 2 := by rw [ex_12]; decide
    subst ex_12
    refine va_sld S.1 S.2.1 hX hbl hbA hS (by unfold vp_in; decide) dL_law_375 ?_
    refine W.eq (g2 := F0 m 376 ls [.int (sc 2), .long z_11, .ref y, .int 7]) rfl ?_
    refine lv_i2l (v := (sc 2).toInt64) S.1 S.2.1 dL_law_376 rfl ?_
    refine lv_ldc2 (v := (4294967295)) S.1 S.2.1 S.2.2.2.1 (S.2.2.2.2 (.constantLong RL 32 (4294967295)) (by decide +kernel)) dL_law_377 ?_
    refine lv_land S.1 S.2.1 dL_law_380 ?_
    refine lv_topl (fun z_13 ez_13 => ?_)
    refine lv_lor S.1 S.2.1 dL_law_381 ?_
    refine lv_topl (fun z_14 ez_14 => ?_)
    refine lv_aload_n S.1 S.2.1 dL_law_382 rfl (lv_at hl 3 rfl) ?_
    refine lv_iload_n S.1 S.2.1 dL_law_383 rfl (lv_at hl 0 rfl) ?_
    refine lv_iconst (v := 3) S.1 S.2.1 dL_law_384 (by decide) ?_
    refine lv_iadd S.1 S.2.1 dL_law_385 ?_
    refine lv_topi (fun x_15 ex_15 => ?_)
    have ex_15 : x_15 = 3 := by rw [ex_15]; decide
    subst ex_15
    refine va_sld S.1 S.2.1 hX hbl hbA hS (by unfold vp_in; decide) dL_law_386 ?_
    refine W.eq (g2 := F0 m 387 ls [.int (sc 3), .long z_14, .ref y, .int 7]) rfl ?_
    rw [h3]
    refine b_ai (wr := [(x, .inr (8, [.ref xs, .ref xt, .ref xc, .ref xd, .ref xr, .ref xi, .ref xv, .ref xw, .ref xh, .ref xm, .ref xa, .int 0, .int 0]))]) (b_runV (q0 := 0) (ci := 9) (As := [.long z_14, .int 7]) (c_X9_feed_7 l D cI cZ cC cS sq H.size y y_lane y_many y_item y_city y_fresh y_tape y_cost y_away y_fee y_goesTo y_priceWas y_isKept y_kept y_trace z_14 (fun _ => 0)) S gL_law_X9_feed rfl hdV_X9_feed ⟨Nat.le_of_ble_eq_true rfl, Nat.le_of_ble_eq_true rfl⟩ ⟨Nat.le_of_ble_eq_true rfl, Nat.le_of_ble_eq_true rfl⟩ hK hP hD rfl rfl [0, 1] rfl (by decide) rfl hl.1 rfl (Nat.le_of_ble_eq_true rfl) dL_law_387) hP hD hS hA [0, 1] [2] rfl rfl (by decide) (by decide) (fun r_16 w_17 H locs hw_18 hP hD hS => ?_)
    obtain ⟨rfl, rfl⟩ := hw_18
    have hP : va_P D vwCl [(x, .inr (8, [.ref xs, .ref xt, .ref xc, .ref xd, .ref xr, .ref xi, .ref xv, .ref xw, .ref xh, .ref xm, .ref xa, .int 0, .int 0]))] H := hP
    have hD : va_D A [(x, .inr (8, [.ref xs, .ref xt, .ref xc, .ref xd, .ref xr, .ref xi, .ref xv, .ref xw, .ref xh, .ref xm, .ref xa, .int 0, .int 0]))] := hD
    refine lv_icmp_eq (tgt := 1034) S.1 S.2.1 dL_law_390 (by decide) (fun c_19 => ?_) (fun c_19 => absurd c_19 (by decide))
    exact law_tail C hS (lv_sub hl [0, 3] rfl) (by decide) (by decide)
  · have h3 : sc 3 = 8 := Int32.toInt_inj.mp (h0.trans rfl)
    refine lv_aload_n S.1 S.2.1 dL_law_332 rfl (lv_at hl 2 rfl) ?_
    refine lv_aload_n S.1 S.2.1 dL_law_333 rfl (lv_at hl 3 rfl) ?_
    refine lv_iload_n S.1 S.2.1 dL_law_334 rfl (lv_at hl 0 rfl) ?_
    refine lv_iconst (v := 1) S.1 S.2.1 dL_law_335 (by decide) ?_
    refine lv_iadd S.1 S.2.1 dL_law_336 ?_
    refine lv_topi (fun x_1 ex_1 => ?_)
    have ex_1 : x_1 = 1 := by rw [ex_1]; decide
    subst ex_1
    refine va_sld S.1 S.2.1 hX hbl hbA hS (by unfold vp_in; decide) dL_law_337 ?_
    refine W.eq (g2 := F0 m 338 ls [.int (sc 1), .ref x]) rfl ?_
    refine lv_i2l (v := (sc 1).toInt64) S.1 S.2.1 dL_law_338 rfl ?_
    refine lv_bipush (v := 32) S.1 S.2.1 dL_law_339 (by decide) ?_
    refine lv_lshl S.1 S.2.1 dL_law_341 rfl ?_
    refine lv_topl (fun z_2 ez_2 => ?_)
    refine lv_aload_n S.1 S.2.1 dL_law_342 rfl (lv_at hl 3 rfl) ?_
    refine lv_iload_n S.1 S.2.1 dL_law_343 rfl (lv_at hl 0 rfl) ?_
    refine lv_iconst (v := 2) S.1 S.2.1 dL_law_344 (by decide) ?_
    refine lv_iadd S.1 S.2.1 dL_law_345 ?_
    refine lv_topi (fun x_3 ex_3 => ?_)
    have ex_3 : x_3 = 2 := by rw [ex_3]; decide
    subst ex_3
    refine va_sld S.1 S.2.1 hX hbl hbA hS (by unfold vp_in; decide) dL_law_346 ?_
    refine W.eq (g2 := F0 m 347 ls [.int (sc 2), .long z_2, .ref x]) rfl ?_
    refine lv_i2l (v := (sc 2).toInt64) S.1 S.2.1 dL_law_347 rfl ?_
    refine lv_ldc2 (v := (4294967295)) S.1 S.2.1 S.2.2.2.1 (S.2.2.2.2 (.constantLong RL 32 (4294967295)) (by decide +kernel)) dL_law_348 ?_
    refine lv_land S.1 S.2.1 dL_law_351 ?_
    refine lv_topl (fun z_4 ez_4 => ?_)
    refine lv_lor S.1 S.2.1 dL_law_352 ?_
    refine lv_topl (fun z_5 ez_5 => ?_)
    refine lv_aload_n S.1 S.2.1 dL_law_353 rfl (lv_at hl 3 rfl) ?_
    refine lv_iload_n S.1 S.2.1 dL_law_354 rfl (lv_at hl 0 rfl) ?_
    refine lv_iconst (v := 3) S.1 S.2.1 dL_law_355 (by decide) ?_
    refine lv_iadd S.1 S.2.1 dL_law_356 ?_
    refine lv_topi (fun x_6 ex_6 => ?_)
    have ex_6 : x_6 = 3 := by rw [ex_6]; decide
    subst ex_6
    refine va_sld S.1 S.2.1 hX hbl hbA hS (by unfold vp_in; decide) dL_law_357 ?_
    refine W.eq (g2 := F0 m 358 ls [.int (sc 3), .long z_5, .ref x]) rfl ?_
    rw [h3]
    refine b_ai (wr := [(y, .inr (9, [.int 0, .int 0, .ref y_lane, .ref y_many, .ref y_item, .ref y_city, .ref y_fresh, .int 0, .ref y_tape, .int 0, .int 0, .int 0, .int 0, .int 0, .int 0, .int 0, .int 0, .int 0, .int 0, .int 0, .ref y_cost, .ref y_away, .ref y_fee, .ref y_goesTo, .ref y_priceWas, .ref y_isKept, .ref y_kept, .ref y_trace, .int 0])), (y_tape, .inl (cI, 400, .inl (fun _ => 0)))]) (b_runV (q0 := 0) (ci := 8) (As := [.long z_5, .int 8]) (c_X8_feed_8 l D cI cZ cC cS sq H.size x xs xt xc xd xr xi xv xw xh xm xa by_ (fun _ => 0) z_5) S gL_law_X8_feed rfl hdV_X8_feed ⟨Nat.le_of_ble_eq_true rfl, Nat.le_of_ble_eq_true rfl⟩ ⟨Nat.le_of_ble_eq_true rfl, Nat.le_of_ble_eq_true rfl⟩ hK hP hD rfl rfl [0, 1, 2] rfl (by decide) rfl hl.1 rfl (Nat.le_of_ble_eq_true rfl) dL_law_358) hP hD hS hA [0, 1, 2] [3, 4] rfl rfl (by decide) (by decide) (fun r_7 w_8 H locs hw_9 hP hD hS => ?_)
    obtain ⟨rfl, rfl⟩ := hw_9
    have hP : va_P D vwCl [(y, .inr (9, [.int 0, .int 0, .ref y_lane, .ref y_many, .ref y_item, .ref y_city, .ref y_fresh, .int 0, .ref y_tape, .int 0, .int 0, .int 0, .int 0, .int 0, .int 0, .int 0, .int 0, .int 0, .int 0, .int 0, .ref y_cost, .ref y_away, .ref y_fee, .ref y_goesTo, .ref y_priceWas, .ref y_isKept, .ref y_kept, .ref y_trace, .int 0])), (y_tape, .inl (cI, 400, .inl (fun _ => 0))), (x, .inr (8, [.ref xs, .ref xt, .ref xc, .ref xd, .ref xr, .ref xi, .ref xv, .ref xw, .ref xh, .ref xm, .ref xa, .int 0, .int 0]))] H := hP
    have hD : va_D A [(y, .inr (9, [.int 0, .int 0, .ref y_lane, .ref y_many, .ref y_item, .ref y_city, .ref y_fresh, .int 0, .ref y_tape, .int 0, .int 0, .int 0, .int 0, .int 0, .int 0, .int 0, .int 0, .int 0, .int 0, .int 0, .ref y_cost, .ref y_away, .ref y_fee, .ref y_goesTo, .ref y_priceWas, .ref y_isKept, .ref y_kept, .ref y_trace, .int 0])), (y_tape, .inl (cI, 400, .inl (fun _ => 0))), (x, .inr (8, [.ref xs, .ref xt, .ref xc, .ref xd, .ref xr, .ref xi, .ref xv, .ref xw, .ref xh, .ref xm, .ref xa, .int 0, .int 0]))] := hD
    refine lv_aload_n S.1 S.2.1 dL_law_361 rfl (lv_at hl 1 rfl) ?_
    refine lv_aload_n S.1 S.2.1 dL_law_362 rfl (lv_at hl 3 rfl) ?_
    refine lv_iload_n S.1 S.2.1 dL_law_363 rfl (lv_at hl 0 rfl) ?_
    refine lv_iconst (v := 1) S.1 S.2.1 dL_law_364 (by decide) ?_
    refine lv_iadd S.1 S.2.1 dL_law_365 ?_
    refine lv_topi (fun x_10 ex_10 => ?_)
    have ex_10 : x_10 = 1 := by rw [ex_10]; decide
    subst ex_10
    refine va_sld S.1 S.2.1 hX hbl hbA hS (by unfold vp_in; decide) dL_law_366 ?_
    refine W.eq (g2 := F0 m 367 ls [.int (sc 1), .ref y, .int 8]) rfl ?_
    refine lv_i2l (v := (sc 1).toInt64) S.1 S.2.1 dL_law_367 rfl ?_
    refine lv_bipush (v := 32) S.1 S.2.1 dL_law_368 (by decide) ?_
    refine lv_lshl S.1 S.2.1 dL_law_370 rfl ?_
    refine lv_topl (fun z_11 ez_11 => ?_)
    refine lv_aload_n S.1 S.2.1 dL_law_371 rfl (lv_at hl 3 rfl) ?_
    refine lv_iload_n S.1 S.2.1 dL_law_372 rfl (lv_at hl 0 rfl) ?_
    refine lv_iconst (v := 2) S.1 S.2.1 dL_law_373 (by decide) ?_
    refine lv_iadd S.1 S.2.1 dL_law_374 ?_
    refine lv_topi (fun x_12 ex_12 => ?_)
    have ex_12 : x_12 = 2 := by rw [ex_12]; decide
    subst ex_12
    refine va_sld S.1 S.2.1 hX hbl hbA hS (by unfold vp_in; decide) dL_law_375 ?_
    refine W.eq (g2 := F0 m 376 ls [.int (sc 2), .long z_11, .ref y, .int 8]) rfl ?_
    refine lv_i2l (v := (sc 2).toInt64) S.1 S.2.1 dL_law_376 rfl ?_
    refine lv_ldc2 (v := (4294967295)) S.1 S.2.1 S.2.2.2.1 (S.2.2.2.2 (.constantLong RL 32 (4294967295)) (by decide +kernel)) dL_law_377 ?_
    refine lv_land S.1 S.2.1 dL_law_380 ?_
    refine lv_topl (fun z_13 ez_13 => ?_)
    refine lv_lor S.1 S.2.1 dL_law_381 ?_
    refine lv_topl (fun z_14 ez_14 => ?_)
    refine lv_aload_n S.1 S.2.1 dL_law_382 rfl (lv_at hl 3 rfl) ?_
    refine lv_iload_n S.1 S.2.1 dL_law_383 rfl (lv_at hl 0 rfl) ?_
    refine lv_iconst (v := 3) S.1 S.2.1 dL_law_384 (by decide) ?_
    refine lv_iadd S.1 S.2.1 dL_law_385 ?_
    refine lv_topi (fun x_15 ex_15 => ?_)
    have ex_15 : x_15 = 3 := by rw [ex_15]; decide
    subst ex_15
    refine va_sld S.1 S.2.1 hX hbl hbA hS (by unfold vp_in; decide) dL_law_386 ?_
    refine W.eq (g2 := F0 m 387 ls [.int (sc 3), .long z_14, .ref y, .int 8]) rfl ?_
    rw [h3]
    refine b_ai (wr := [(x, .inr (8, [.ref xs, .ref xt, .ref xc, .ref xd, .ref xr, .ref xi, .ref xv, .ref xw, .ref xh, .ref xm, .ref xa, .int 0, .int 0]))]) (b_runV (q0 := 0) (ci := 9) (As := [.long z_14, .int 8]) (c_X9_feed_8 l D cI cZ cC cS sq H.size y y_lane y_many y_item y_city y_fresh y_tape y_cost y_away y_fee y_goesTo y_priceWas y_isKept y_kept y_trace z_14 (fun _ => 0)) S gL_law_X9_feed rfl hdV_X9_feed ⟨Nat.le_of_ble_eq_true rfl, Nat.le_of_ble_eq_true rfl⟩ ⟨Nat.le_of_ble_eq_true rfl, Nat.le_of_ble_eq_true rfl⟩ hK hP hD rfl rfl [0, 1] rfl (by decide) rfl hl.1 rfl (Nat.le_of_ble_eq_true rfl) dL_law_387) hP hD hS hA [0, 1] [2] rfl rfl (by decide) (by decide) (fun r_16 w_17 H locs hw_18 hP hD hS => ?_)
    obtain ⟨rfl, rfl⟩ := hw_18
    have hP : va_P D vwCl [(x, .inr (8, [.ref xs, .ref xt, .ref xc, .ref xd, .ref xr, .ref xi, .ref xv, .ref xw, .ref xh, .ref xm, .ref xa, .int 0, .int 0]))] H := hP
    have hD : va_D A [(x, .inr (8, [.ref xs, .ref xt, .ref xc, .ref xd, .ref xr, .ref xi, .ref xv, .ref xw, .ref xh, .ref xm, .ref xa, .int 0, .int 0]))] := hD
    refine lv_icmp_eq (tgt := 1034) S.1 S.2.1 dL_law_390 (by decide) (fun c_19 => ?_) (fun c_19 => absurd c_19 (by decide))
    exact law_tail C hS (lv_sub hl [0, 3] rfl) (by decide) (by decide)
set_option maxHeartbeats 4000000 in
set_option maxRecDepth 100000 in
theorem law_count {p : Program} (l : Launch) {e : Env} {s : State} {m : MethodId} {below : List Frame} {meth : Method} {c : Code} (D : va_G) (cI cZ cC cS : ClassId) (sq : Nat) {b : Nat} {sc : Nat → Int32} {A : Nat → Prop} (C : lC p s m meth c b sc A) (hK : kW D (tyW cI cZ cC cS) sq s) (x : Nat) (xs : Nat) (xt : Nat) (xc : Nat) (xd : Nat) (xr : Nat) (xi : Nat) (xv : Nat) (xw : Nat) (xh : Nat) (xm : Nat) (xa : Nat) (y : Nat) (y_lane : Nat) (y_many : Nat) (y_item : Nat) (y_city : Nat) (y_fresh : Nat) (y_tape : Nat) (y_cost : Nat) (y_away : Nat) (y_fee : Nat) (y_goesTo : Nat) (y_priceWas : Nat) (y_isKept : Nat) (y_kept : Nat) (y_trace : Nat) (gs : Nat → Option Nat) (sh0 : Nat) (it0 : Nat) (sh1 : Nat) (it1 : Nat) (sh2 : Nat) (it2 : Nat) (sh3 : Nat) (it3 : Nat) (sh4 : Nat) (it4 : Nat) (sh5 : Nat) (it5 : Nat) (sh6 : Nat) (it6 : Nat) (sh7 : Nat) (it7 : Nat) (by_ : Nat) (aCells : Nat) (aPrices : Nat) (aFree : Nat) (aPlaces : Nat) (aHomes : Nat) (aManners : Nat) (aGone : Nat) (aPaid : Nat) (aBlinks : Nat) (la : Nat → Int32) (hg0 : gs 0 = some sh0) (hg1 : gs 1 = some sh1) (hg2 : gs 2 = some sh2) (hg3 : gs 3 = some sh3) (hg4 : gs 4 = some sh4) (hg5 : gs 5 = some sh5) (hg6 : gs 6 = some sh6) (hg7 : gs 7 = some sh7) (hla : ∀ j, j < 8 → la j = -1) {H : Heap} {locs : List Loc} {ls : Array Slot} (hP : va_P D vwCl [(x, .inr (8, [.ref xs, .ref xt, .ref xc, .ref xd, .ref xr, .ref xi, .ref xv, .ref xw, .ref xh, .ref xm, .ref xa, .int 0, .int 0])), (xs, .inl (cS, 8, .inr (.inr (.inr (.inr gs))))), (sh0, .inr (4, [.int (-1), .int 0, .ref it0])), (sh1, .inr (4, [.int (-1), .int 0, .ref it1])), (sh2, .inr (4, [.int (-1), .int 0, .ref it2])), (sh3, .inr (4, [.int (-1), .int 0, .ref it3])), (sh4, .inr (4, [.int (-1), .int 0, .ref it4])), (sh5, .inr (4, [.int (-1), .int 0, .ref it5])), (sh6, .inr (4, [.int (-1), .int 0, .ref it6])), (sh7, .inr (4, [.int (-1), .int 0, .ref it7])), (xt, .inr (5, [.ref by_, .int 0, .int 0, .int 0, .int 0, .int 0])), (xc, .inr (1, [.int 0, .int 0, .int 0, .ref aCells, .ref aPrices, .ref aFree, .ref aPlaces, .ref aHomes, .ref aManners, .ref aGone, .ref aPaid, .ref aBlinks])), (y, .inr (9, [.int 0, .int 0, .ref y_lane, .ref y_many, .ref y_item, .ref y_city, .ref y_fresh, .int 0, .ref y_tape, .int 0, .int 0, .int 0, .int 0, .int 0, .int 0, .int 0, .int 0, .int 0, .int 0, .int 0, .ref y_cost, .ref y_away, .ref y_fee, .ref y_goesTo, .ref y_priceWas, .ref y_isKept, .ref y_kept, .ref y_trace, .int 0])), (y_lane, .inl (cI, 8, .inl la)), (y_city, .inl (cI, 192, .inl (fun _ => 0)))] H) (hD : va_D A [(x, .inr (8, [.ref xs, .ref xt, .ref xc, .ref xd, .ref xr, .ref xi, .ref xv, .ref xw, .ref xh, .ref xm, .ref xa, .int 0, .int 0])), (xs, .inl (cS, 8, .inr (.inr (.inr (.inr gs))))), (sh0, .inr (4, [.int (-1), .int 0, .ref it0])), (sh1, .inr (4, [.int (-1), .int 0, .ref it1])), (sh2, .inr (4, [.int (-1), .int 0, .ref it2])), (sh3, .inr (4, [.int (-1), .int 0, .ref it3])), (sh4, .inr (4, [.int (-1), .int 0, .ref it4])), (sh5, .inr (4, [.int (-1), .int 0, .ref it5])), (sh6, .inr (4, [.int (-1), .int 0, .ref it6])), (sh7, .inr (4, [.int (-1), .int 0, .ref it7])), (xt, .inr (5, [.ref by_, .int 0, .int 0, .int 0, .int 0, .int 0])), (xc, .inr (1, [.int 0, .int 0, .int 0, .ref aCells, .ref aPrices, .ref aFree, .ref aPlaces, .ref aHomes, .ref aManners, .ref aGone, .ref aPaid, .ref aBlinks])), (y, .inr (9, [.int 0, .int 0, .ref y_lane, .ref y_many, .ref y_item, .ref y_city, .ref y_fresh, .int 0, .ref y_tape, .int 0, .int 0, .int 0, .int 0, .int 0, .int 0, .int 0, .int 0, .int 0, .int 0, .int 0, .ref y_cost, .ref y_away, .ref y_fee, .ref y_goesTo, .ref y_priceWas, .ref y_isKept, .ref y_kept, .ref y_trace, .int 0])), (y_lane, .inl (cI, 8, .inl la)), (y_city, .inl (cI, 192, .inl (fun _ => 0)))]) (hS : va_S A s.heap H locs) (hl : lv_has ls 4 [(3, .int 0), (2, .ref y), (1, .ref x), (0, .ref b)]) : W p l e room_1 s m #[Value.ref b] below meth c H locs 98 12032 (lw_Z below #[Value.ref b] s) (F0 m 998 ls []) := by
  obtain ⟨S, hr_, hk_, hX, hbl, hA, hAf⟩ := id C
  have hbA : ¬ A b := fun z => absurd (hAf b z) (Nat.not_le.mpr hbl)
  rcases (show ((sc 1).toInt < 0 ∨ 6 < (sc 1).toInt) ∨ ((sc 1).toInt = 0) ∨ ((sc 1).toInt = 1) ∨ ((sc 1).toInt = 2) ∨ ((sc 1).toInt = 3) ∨ ((sc 1).toInt = 4) ∨ ((sc 1).toInt = 5) ∨ ((sc 1).toInt = 6) by omega) with hr | h0 | h0 | h0 | h0 | h0 | h0 | h0
  · refine lv_aload_n S.1 S.2.1 dL_law_998 rfl (lv_at hl 2 rfl) ?_
    refine lv_aload_n S.1 S.2.1 dL_law_999 rfl (lv_at hl 3 rfl) ?_
    refine lv_iload_n S.1 S.2.1 dL_law_1000 rfl (lv_at hl 0 rfl) ?_
    refine lv_iconst (v := 1) S.1 S.2.1 dL_law_1001 (by decide) ?_
    refine lv_iadd S.1 S.2.1 dL_law_1002 ?_
    refine lv_topi (fun x_1 ex_1 => ?_)
    have ex_1 : x_1 = 1 := by rw [ex_1]; decide
    subst ex_1
    refine va_sld S.1 S.2.1 hX hbl hbA hS (by unfold vp_in; decide) dL_law_1003 ?_
    refine W.eq (g2 := F0 m 1004 ls [.int (sc 1), .ref x]) rfl ?_
    refine b_ai (wr := [(xs, .inl (cS, 8, .inr (.inr (.inr (.inr gs))))), (sh0, .inr (4, [.int (-1), .int 0, .ref it0])), (sh1, .inr (4, [.int (-1), .int 0, .ref it1])), (sh2, .inr (4, [.int (-1), .int 0, .ref it2])), (sh3, .inr (4, [.int (-1), .int 0, .ref it3])), (sh4, .inr (4, [.int (-1), .int 0, .ref it4])), (sh5, .inr (4, [.int (-1), .int 0, .ref it5])), (sh6, .inr (4, [.int (-1), .int 0, .ref it6])), (sh7, .inr (4, [.int (-1), .int 0, .ref it7])), (xt, .inr (5, [.ref by_, .int 0, .int 0, .int 0, .int 0, .int 0])), (xc, .inr (1, [.int 0, .int 0, .int 0, .ref aCells, .ref aPrices, .ref aFree, .ref aPlaces, .ref aHomes, .ref aManners, .ref aGone, .ref aPaid, .ref aBlinks])), (y, .inr (9, [.int 0, .int 0, .ref y_lane, .ref y_many, .ref y_item, .ref y_city, .ref y_fresh, .int 0, .ref y_tape, .int 0, .int 0, .int 0, .int 0, .int 0, .int 0, .int 0, .int 0, .int 0, .int 0, .int 0, .ref y_cost, .ref y_away, .ref y_fee, .ref y_goesTo, .ref y_priceWas, .ref y_isKept, .ref y_kept, .ref y_trace, .int 0])), (y_lane, .inl (cI, 8, .inl la)), (y_city, .inl (cI, 192, .inl (fun _ => 0)))]) (b_runV (q0 := 0) (ci := 8) (As := [.int (sc 1)]) (c_X8_count_d l D cI cZ cC cS sq H.size x xs xt xc xd xr xi xv xw xh xm xa (sc 1) (by assumption)) S gL_law_X8_count rfl hdV_X8_count ⟨Nat.le_of_ble_eq_true rfl, Nat.le_of_ble_eq_true rfl⟩ ⟨Nat.le_of_ble_eq_true rfl, Nat.le_of_ble_eq_true rfl⟩ hK hP hD rfl rfl [0] rfl (by decide) rfl hl.1 rfl (Nat.le_of_ble_eq_true rfl) dL_law_1004) hP hD hS hA [0] [1, 2, 3, 4, 5, 6, 7, 8, 9, 10, 11, 12, 13, 14] rfl rfl (by decide) (by decide) (fun r_2 w_3 H locs hw_4 hP hD hS => ?_)
    obtain ⟨rfl, rfl⟩ := hw_4
    have hP : va_P D vwCl [(xs, .inl (cS, 8, .inr (.inr (.inr (.inr gs))))), (sh0, .inr (4, [.int (-1), .int 0, .ref it0])), (sh1, .inr (4, [.int (-1), .int 0, .ref it1])), (sh2, .inr (4, [.int (-1), .int 0, .ref it2])), (sh3, .inr (4, [.int (-1), .int 0, .ref it3])), (sh4, .inr (4, [.int (-1), .int 0, .ref it4])), (sh5, .inr (4, [.int (-1), .int 0, .ref it5])), (sh6, .inr (4, [.int (-1), .int 0, .ref it6])), (sh7, .inr (4, [.int (-1), .int 0, .ref it7])), (xt, .inr (5, [.ref by_, .int 0, .int 0, .int 0, .int 0, .int 0])), (xc, .inr (1, [.int 0, .int 0, .int 0, .ref aCells, .ref aPrices, .ref aFree, .ref aPlaces, .ref aHomes, .ref aManners, .ref aGone, .ref aPaid, .ref aBlinks])), (y, .inr (9, [.int 0, .int 0, .ref y_lane, .ref y_many, .ref y_item, .ref y_city, .ref y_fresh, .int 0, .ref y_tape, .int 0, .int 0, .int 0, .int 0, .int 0, .int 0, .int 0, .int 0, .int 0, .int 0, .int 0, .ref y_cost, .ref y_away, .ref y_fee, .ref y_goesTo, .ref y_priceWas, .ref y_isKept, .ref y_kept, .ref y_trace, .int 0])), (y_lane, .inl (cI, 8, .inl la)), (y_city, .inl (cI, 192, .inl (fun _ => 0)))] H := hP
    have hD : va_D A [(xs, .inl (cS, 8, .inr (.inr (.inr (.inr gs))))), (sh0, .inr (4, [.int (-1), .int 0, .ref it0])), (sh1, .inr (4, [.int (-1), .int 0, .ref it1])), (sh2, .inr (4, [.int (-1), .int 0, .ref it2])), (sh3, .inr (4, [.int (-1), .int 0, .ref it3])), (sh4, .inr (4, [.int (-1), .int 0, .ref it4])), (sh5, .inr (4, [.int (-1), .int 0, .ref it5])), (sh6, .inr (4, [.int (-1), .int 0, .ref it6])), (sh7, .inr (4, [.int (-1), .int 0, .ref it7])), (xt, .inr (5, [.ref by_, .int 0, .int 0, .int 0, .int 0, .int 0])), (xc, .inr (1, [.int 0, .int 0, .int 0, .ref aCells, .ref aPrices, .ref aFree, .ref aPlaces, .ref aHomes, .ref aManners, .ref aGone, .ref aPaid, .ref aBlinks])), (y, .inr (9, [.int 0, .int 0, .ref y_lane, .ref y_many, .ref y_item, .ref y_city, .ref y_fresh, .int 0, .ref y_tape, .int 0, .int 0, .int 0, .int 0, .int 0, .int 0, .int 0, .int 0, .int 0, .int 0, .int 0, .ref y_cost, .ref y_away, .ref y_fee, .ref y_goesTo, .ref y_priceWas, .ref y_isKept, .ref y_kept, .ref y_trace, .int 0])), (y_lane, .inl (cI, 8, .inl la)), (y_city, .inl (cI, 192, .inl (fun _ => 0)))] := hD
    refine lv_aload_n S.1 S.2.1 dL_law_1007 rfl (lv_at hl 1 rfl) ?_
    refine lv_aload_n S.1 S.2.1 dL_law_1008 rfl (lv_at hl 3 rfl) ?_
    refine lv_iload_n S.1 S.2.1 dL_law_1009 rfl (lv_at hl 0 rfl) ?_
    refine lv_iconst (v := 1) S.1 S.2.1 dL_law_1010 (by decide) ?_
    refine lv_iadd S.1 S.2.1 dL_law_1011 ?_
    refine lv_topi (fun x_5 ex_5 => ?_)
    have ex_5 : x_5 = 1 := by rw [ex_5]; decide
    subst ex_5
    refine va_sld S.1 S.2.1 hX hbl hbA hS (by unfold vp_in; decide) dL_law_1012 ?_
    refine W.eq (g2 := F0 m 1013 ls [.int (sc 1), .ref y, .int (-1000001)]) rfl ?_
    refine b_ai (wr := [(xs, .inl (cS, 8, .inr (.inr (.inr (.inr gs))))), (sh0, .inr (4, [.int (-1), .int 0, .ref it0])), (sh1, .inr (4, [.int (-1), .int 0, .ref it1])), (sh2, .inr (4, [.int (-1), .int 0, .ref it2])), (sh3, .inr (4, [.int (-1), .int 0, .ref it3])), (sh4, .inr (4, [.int (-1), .int 0, .ref it4])), (sh5, .inr (4, [.int (-1), .int 0, .ref it5])), (sh6, .inr (4, [.int (-1), .int 0, .ref it6])), (sh7, .inr (4, [.int (-1), .int 0, .ref it7])), (xt, .inr (5, [.ref by_, .int 0, .int 0, .int 0, .int 0, .int 0])), (xc, .inr (1, [.int 0, .int 0, .int 0, .ref aCells, .ref aPrices, .ref aFree, .ref aPlaces, .ref aHomes, .ref aManners, .ref aGone, .ref aPaid, .ref aBlinks])), (y_lane, .inl (cI, 8, .inl la)), (y_city, .inl (cI, 192, .inl (fun _ => 0)))]) (b_runV (q0 := 11) (ci := 9) (As := [.int (sc 1)]) (c_X9_count_d l D cI cZ cC cS sq H.size y y_lane y_many y_item y_city y_fresh y_tape y_cost y_away y_fee y_goesTo y_priceWas y_isKept y_kept y_trace (sc 1) (by assumption)) S gL_law_X9_count rfl hdV_X9_count ⟨Nat.le_of_ble_eq_true rfl, Nat.le_of_ble_eq_true rfl⟩ ⟨Nat.le_of_ble_eq_true rfl, Nat.le_of_ble_eq_true rfl⟩ hK hP hD rfl rfl [11] rfl (by decide) rfl hl.1 rfl (Nat.le_of_ble_eq_true rfl) dL_law_1013) hP hD hS hA [11] [0, 1, 2, 3, 4, 5, 6, 7, 8, 9, 10, 12, 13] rfl rfl (by decide) (by decide) (fun r_6 w_7 H locs hw_8 hP hD hS => ?_)
    obtain ⟨rfl, rfl⟩ := hw_8
    have hP : va_P D vwCl [(xs, .inl (cS, 8, .inr (.inr (.inr (.inr gs))))), (sh0, .inr (4, [.int (-1), .int 0, .ref it0])), (sh1, .inr (4, [.int (-1), .int 0, .ref it1])), (sh2, .inr (4, [.int (-1), .int 0, .ref it2])), (sh3, .inr (4, [.int (-1), .int 0, .ref it3])), (sh4, .inr (4, [.int (-1), .int 0, .ref it4])), (sh5, .inr (4, [.int (-1), .int 0, .ref it5])), (sh6, .inr (4, [.int (-1), .int 0, .ref it6])), (sh7, .inr (4, [.int (-1), .int 0, .ref it7])), (xt, .inr (5, [.ref by_, .int 0, .int 0, .int 0, .int 0, .int 0])), (xc, .inr (1, [.int 0, .int 0, .int 0, .ref aCells, .ref aPrices, .ref aFree, .ref aPlaces, .ref aHomes, .ref aManners, .ref aGone, .ref aPaid, .ref aBlinks])), (y_lane, .inl (cI, 8, .inl la)), (y_city, .inl (cI, 192, .inl (fun _ => 0)))] H := hP
    have hD : va_D A [(xs, .inl (cS, 8, .inr (.inr (.inr (.inr gs))))), (sh0, .inr (4, [.int (-1), .int 0, .ref it0])), (sh1, .inr (4, [.int (-1), .int 0, .ref it1])), (sh2, .inr (4, [.int (-1), .int 0, .ref it2])), (sh3, .inr (4, [.int (-1), .int 0, .ref it3])), (sh4, .inr (4, [.int (-1), .int 0, .ref it4])), (sh5, .inr (4, [.int (-1), .int 0, .ref it5])), (sh6, .inr (4, [.int (-1), .int 0, .ref it6])), (sh7, .inr (4, [.int (-1), .int 0, .ref it7])), (xt, .inr (5, [.ref by_, .int 0, .int 0, .int 0, .int 0, .int 0])), (xc, .inr (1, [.int 0, .int 0, .int 0, .ref aCells, .ref aPrices, .ref aFree, .ref aPlaces, .ref aHomes, .ref aManners, .ref aGone, .ref aPaid, .ref aBlinks])), (y_lane, .inl (cI, 8, .inl la)), (y_city, .inl (cI, 192, .inl (fun _ => 0)))] := hD
    refine lv_icmp_eq (tgt := 1034) S.1 S.2.1 dL_law_1016 (by decide) (fun c_9 => ?_) (fun c_9 => absurd c_9 (by decide))
    exact law_tail C hS (lv_sub hl [0, 3] rfl) (by decide) (by decide)
  · have h3 : sc 1 = 0 := Int32.toInt_inj.mp (h0.trans rfl)
    refine lv_aload_n S.1 S.2.1 dL_law_998 rfl (lv_at hl 2 rfl) ?_
    refine lv_aload_n S.1 S.2.1 dL_law_999 rfl (lv_at hl 3 rfl) ?_
    refine lv_iload_n S.1 S.2.1 dL_law_1000 rfl (lv_at hl 0 rfl) ?_
    refine lv_iconst (v := 1) S.1 S.2.1 dL_law_1001 (by decide) ?_
    refine lv_iadd S.1 S.2.1 dL_law_1002 ?_
    refine lv_topi (fun x_1 ex_1 => ?_)
    have ex_1 : x_1 = 1 := by rw [ex_1]; decide
    subst ex_1
    refine va_sld S.1 S.2.1 hX hbl hbA hS (by unfold vp_in; decide) dL_law_1003 ?_
    refine W.eq (g2 := F0 m 1004 ls [.int (sc 1), .ref x]) rfl ?_
    rw [h3]
    refine b_ai (wr := [(xt, .inr (5, [.ref by_, .int 0, .int 0, .int 0, .int 0, .int 0])), (xc, .inr (1, [.int 0, .int 0, .int 0, .ref aCells, .ref aPrices, .ref aFree, .ref aPlaces, .ref aHomes, .ref aManners, .ref aGone, .ref aPaid, .ref aBlinks])), (y, .inr (9, [.int 0, .int 0, .ref y_lane, .ref y_many, .ref y_item, .ref y_city, .ref y_fresh, .int 0, .ref y_tape, .int 0, .int 0, .int 0, .int 0, .int 0, .int 0, .int 0, .int 0, .int 0, .int 0, .int 0, .ref y_cost, .ref y_away, .ref y_fee, .ref y_goesTo, .ref y_priceWas, .ref y_isKept, .ref y_kept, .ref y_trace, .int 0])), (y_lane, .inl (cI, 8, .inl la)), (y_city, .inl (cI, 192, .inl (fun _ => 0)))]) (b_runV (q0 := 0) (ci := 8) (As := [.int 0]) (c_X8_count_0 l D cI cZ cC cS sq H.size x xs xt xc xd xr xi xv xw xh xm xa gs sh0 it0 sh1 it1 sh2 it2 sh3 it3 sh4 it4 sh5 it5 sh6 it6 sh7 it7 (by assumption) (by assumption) (by assumption) (by assumption) (by assumption) (by assumption) (by assumption) (by assumption)) S gL_law_X8_count rfl hdV_X8_count ⟨Nat.le_of_ble_eq_true rfl, Nat.le_of_ble_eq_true rfl⟩ ⟨Nat.le_of_ble_eq_true rfl, Nat.le_of_ble_eq_true rfl⟩ hK hP hD rfl rfl [0, 1, 2, 3, 4, 5, 6, 7, 8, 9] rfl (by decide) rfl hl.1 rfl (Nat.le_of_ble_eq_true rfl) dL_law_1004) hP hD hS hA [0, 1, 2, 3, 4, 5, 6, 7, 8, 9] [10, 11, 12, 13, 14] rfl rfl (by decide) (by decide) (fun r_2 w_3 H locs hw_4 hP hD hS => ?_)
    obtain ⟨rfl, rfl⟩ := hw_4
    have hP : va_P D vwCl [(xt, .inr (5, [.ref by_, .int 0, .int 0, .int 0, .int 0, .int 0])), (xc, .inr (1, [.int 0, .int 0, .int 0, .ref aCells, .ref aPrices, .ref aFree, .ref aPlaces, .ref aHomes, .ref aManners, .ref aGone, .ref aPaid, .ref aBlinks])), (y, .inr (9, [.int 0, .int 0, .ref y_lane, .ref y_many, .ref y_item, .ref y_city, .ref y_fresh, .int 0, .ref y_tape, .int 0, .int 0, .int 0, .int 0, .int 0, .int 0, .int 0, .int 0, .int 0, .int 0, .int 0, .ref y_cost, .ref y_away, .ref y_fee, .ref y_goesTo, .ref y_priceWas, .ref y_isKept, .ref y_kept, .ref y_trace, .int 0])), (y_lane, .inl (cI, 8, .inl la)), (y_city, .inl (cI, 192, .inl (fun _ => 0)))] H := hP
    have hD : va_D A [(xt, .inr (5, [.ref by_, .int 0, .int 0, .int 0, .int 0, .int 0])), (xc, .inr (1, [.int 0, .int 0, .int 0, .ref aCells, .ref aPrices, .ref aFree, .ref aPlaces, .ref aHomes, .ref aManners, .ref aGone, .ref aPaid, .ref aBlinks])), (y, .inr (9, [.int 0, .int 0, .ref y_lane, .ref y_many, .ref y_item, .ref y_city, .ref y_fresh, .int 0, .ref y_tape, .int 0, .int 0, .int 0, .int 0, .int 0, .int 0, .int 0, .int 0, .int 0, .int 0, .int 0, .ref y_cost, .ref y_away, .ref y_fee, .ref y_goesTo, .ref y_priceWas, .ref y_isKept, .ref y_kept, .ref y_trace, .int 0])), (y_lane, .inl (cI, 8, .inl la)), (y_city, .inl (cI, 192, .inl (fun _ => 0)))] := hD
    refine lv_aload_n S.1 S.2.1 dL_law_1007 rfl (lv_at hl 1 rfl) ?_
    refine lv_aload_n S.1 S.2.1 dL_law_1008 rfl (lv_at hl 3 rfl) ?_
    refine lv_iload_n S.1 S.2.1 dL_law_1009 rfl (lv_at hl 0 rfl) ?_
    refine lv_iconst (v := 1) S.1 S.2.1 dL_law_1010 (by decide) ?_
    refine lv_iadd S.1 S.2.1 dL_law_1011 ?_
    refine lv_topi (fun x_5 ex_5 => ?_)
    have ex_5 : x_5 = 1 := by rw [ex_5]; decide
    subst ex_5
    refine va_sld S.1 S.2.1 hX hbl hbA hS (by unfold vp_in; decide) dL_law_1012 ?_
    refine W.eq (g2 := F0 m 1013 ls [.int (sc 1), .ref y, .int 0]) rfl ?_
    rw [h3]
    refine b_ai (wr := [(xt, .inr (5, [.ref by_, .int 0, .int 0, .int 0, .int 0, .int 0])), (xc, .inr (1, [.int 0, .int 0, .int 0, .ref aCells, .ref aPrices, .ref aFree, .ref aPlaces, .ref aHomes, .ref aManners, .ref aGone, .ref aPaid, .ref aBlinks])), (y_city, .inl (cI, 192, .inl (fun _ => 0)))]) (b_runV (q0 := 2) (ci := 9) (As := [.int 0]) (c_X9_count_0 l D cI cZ cC cS sq H.size y y_lane y_many y_item y_city y_fresh y_tape y_cost y_away y_fee y_goesTo y_priceWas y_isKept y_kept y_trace la (by assumption)) S gL_law_X9_count rfl hdV_X9_count ⟨Nat.le_of_ble_eq_true rfl, Nat.le_of_ble_eq_true rfl⟩ ⟨Nat.le_of_ble_eq_true rfl, Nat.le_of_ble_eq_true rfl⟩ hK hP hD rfl rfl [2, 3] rfl (by decide) rfl hl.1 rfl (Nat.le_of_ble_eq_true rfl) dL_law_1013) hP hD hS hA [2, 3] [0, 1, 4] rfl rfl (by decide) (by decide) (fun r_6 w_7 H locs hw_8 hP hD hS => ?_)
    obtain ⟨rfl, rfl⟩ := hw_8
    have hP : va_P D vwCl [(xt, .inr (5, [.ref by_, .int 0, .int 0, .int 0, .int 0, .int 0])), (xc, .inr (1, [.int 0, .int 0, .int 0, .ref aCells, .ref aPrices, .ref aFree, .ref aPlaces, .ref aHomes, .ref aManners, .ref aGone, .ref aPaid, .ref aBlinks])), (y_city, .inl (cI, 192, .inl (fun _ => 0)))] H := hP
    have hD : va_D A [(xt, .inr (5, [.ref by_, .int 0, .int 0, .int 0, .int 0, .int 0])), (xc, .inr (1, [.int 0, .int 0, .int 0, .ref aCells, .ref aPrices, .ref aFree, .ref aPlaces, .ref aHomes, .ref aManners, .ref aGone, .ref aPaid, .ref aBlinks])), (y_city, .inl (cI, 192, .inl (fun _ => 0)))] := hD
    refine lv_icmp_eq (tgt := 1034) S.1 S.2.1 dL_law_1016 (by decide) (fun c_9 => ?_) (fun c_9 => absurd c_9 (by decide))
    exact law_tail C hS (lv_sub hl [0, 3] rfl) (by decide) (by decide)
  · have h3 : sc 1 = 1 := Int32.toInt_inj.mp (h0.trans rfl)
    refine lv_aload_n S.1 S.2.1 dL_law_998 rfl (lv_at hl 2 rfl) ?_
    refine lv_aload_n S.1 S.2.1 dL_law_999 rfl (lv_at hl 3 rfl) ?_
    refine lv_iload_n S.1 S.2.1 dL_law_1000 rfl (lv_at hl 0 rfl) ?_
    refine lv_iconst (v := 1) S.1 S.2.1 dL_law_1001 (by decide) ?_
    refine lv_iadd S.1 S.2.1 dL_law_1002 ?_
    refine lv_topi (fun x_1 ex_1 => ?_)
    have ex_1 : x_1 = 1 := by rw [ex_1]; decide
    subst ex_1
    refine va_sld S.1 S.2.1 hX hbl hbA hS (by unfold vp_in; decide) dL_law_1003 ?_
    refine W.eq (g2 := F0 m 1004 ls [.int (sc 1), .ref x]) rfl ?_
    rw [h3]
    refine b_ai (wr := [(xs, .inl (cS, 8, .inr (.inr (.inr (.inr gs))))), (sh0, .inr (4, [.int (-1), .int 0, .ref it0])), (sh1, .inr (4, [.int (-1), .int 0, .ref it1])), (sh2, .inr (4, [.int (-1), .int 0, .ref it2])), (sh3, .inr (4, [.int (-1), .int 0, .ref it3])), (sh4, .inr (4, [.int (-1), .int 0, .ref it4])), (sh5, .inr (4, [.int (-1), .int 0, .ref it5])), (sh6, .inr (4, [.int (-1), .int 0, .ref it6])), (sh7, .inr (4, [.int (-1), .int 0, .ref it7])), (xt, .inr (5, [.ref by_, .int 0, .int 0, .int 0, .int 0, .int 0])), (y, .inr (9, [.int 0, .int 0, .ref y_lane, .ref y_many, .ref y_item, .ref y_city, .ref y_fresh, .int 0, .ref y_tape, .int 0, .int 0, .int 0, .int 0, .int 0, .int 0, .int 0, .int 0, .int 0, .int 0, .int 0, .ref y_cost, .ref y_away, .ref y_fee, .ref y_goesTo, .ref y_priceWas, .ref y_isKept, .ref y_kept, .ref y_trace, .int 0])), (y_lane, .inl (cI, 8, .inl la)), (y_city, .inl (cI, 192, .inl (fun _ => 0)))]) (b_runV (q0 := 0) (ci := 8) (As := [.int 1]) (c_X8_count_1 l D cI cZ cC cS sq H.size x xs xt xc xd xr xi xv xw xh xm xa aCells aPrices aFree aPlaces aHomes aManners aGone aPaid aBlinks) S gL_law_X8_count rfl hdV_X8_count ⟨Nat.le_of_ble_eq_true rfl, Nat.le_of_ble_eq_true rfl⟩ ⟨Nat.le_of_ble_eq_true rfl, Nat.le_of_ble_eq_true rfl⟩ hK hP hD rfl rfl [0, 11] rfl (by decide) rfl hl.1 rfl (Nat.le_of_ble_eq_true rfl) dL_law_1004) hP hD hS hA [0, 11] [1, 2, 3, 4, 5, 6, 7, 8, 9, 10, 12, 13, 14] rfl rfl (by decide) (by decide) (fun r_2 w_3 H locs hw_4 hP hD hS => ?_)
    obtain ⟨rfl, rfl⟩ := hw_4
    have hP : va_P D vwCl [(xs, .inl (cS, 8, .inr (.inr (.inr (.inr gs))))), (sh0, .inr (4, [.int (-1), .int 0, .ref it0])), (sh1, .inr (4, [.int (-1), .int 0, .ref it1])), (sh2, .inr (4, [.int (-1), .int 0, .ref it2])), (sh3, .inr (4, [.int (-1), .int 0, .ref it3])), (sh4, .inr (4, [.int (-1), .int 0, .ref it4])), (sh5, .inr (4, [.int (-1), .int 0, .ref it5])), (sh6, .inr (4, [.int (-1), .int 0, .ref it6])), (sh7, .inr (4, [.int (-1), .int 0, .ref it7])), (xt, .inr (5, [.ref by_, .int 0, .int 0, .int 0, .int 0, .int 0])), (y, .inr (9, [.int 0, .int 0, .ref y_lane, .ref y_many, .ref y_item, .ref y_city, .ref y_fresh, .int 0, .ref y_tape, .int 0, .int 0, .int 0, .int 0, .int 0, .int 0, .int 0, .int 0, .int 0, .int 0, .int 0, .ref y_cost, .ref y_away, .ref y_fee, .ref y_goesTo, .ref y_priceWas, .ref y_isKept, .ref y_kept, .ref y_trace, .int 0])), (y_lane, .inl (cI, 8, .inl la)), (y_city, .inl (cI, 192, .inl (fun _ => 0)))] H := hP
    have hD : va_D A [(xs, .inl (cS, 8, .inr (.inr (.inr (.inr gs))))), (sh0, .inr (4, [.int (-1), .int 0, .ref it0])), (sh1, .inr (4, [.int (-1), .int 0, .ref it1])), (sh2, .inr (4, [.int (-1), .int 0, .ref it2])), (sh3, .inr (4, [.int (-1), .int 0, .ref it3])), (sh4, .inr (4, [.int (-1), .int 0, .ref it4])), (sh5, .inr (4, [.int (-1), .int 0, .ref it5])), (sh6, .inr (4, [.int (-1), .int 0, .ref it6])), (sh7, .inr (4, [.int (-1), .int 0, .ref it7])), (xt, .inr (5, [.ref by_, .int 0, .int 0, .int 0, .int 0, .int 0])), (y, .inr (9, [.int 0, .int 0, .ref y_lane, .ref y_many, .ref y_item, .ref y_city, .ref y_fresh, .int 0, .ref y_tape, .int 0, .int 0, .int 0, .int 0, .int 0, .int 0, .int 0, .int 0, .int 0, .int 0, .int 0, .ref y_cost, .ref y_away, .ref y_fee, .ref y_goesTo, .ref y_priceWas, .ref y_isKept, .ref y_kept, .ref y_trace, .int 0])), (y_lane, .inl (cI, 8, .inl la)), (y_city, .inl (cI, 192, .inl (fun _ => 0)))] := hD
    refine lv_aload_n S.1 S.2.1 dL_law_1007 rfl (lv_at hl 1 rfl) ?_
    refine lv_aload_n S.1 S.2.1 dL_law_1008 rfl (lv_at hl 3 rfl) ?_
    refine lv_iload_n S.1 S.2.1 dL_law_1009 rfl (lv_at hl 0 rfl) ?_
    refine lv_iconst (v := 1) S.1 S.2.1 dL_law_1010 (by decide) ?_
    refine lv_iadd S.1 S.2.1 dL_law_1011 ?_
    refine lv_topi (fun x_5 ex_5 => ?_)
    have ex_5 : x_5 = 1 := by rw [ex_5]; decide
    subst ex_5
    refine va_sld S.1 S.2.1 hX hbl hbA hS (by unfold vp_in; decide) dL_law_1012 ?_
    refine W.eq (g2 := F0 m 1013 ls [.int (sc 1), .ref y, .int 0]) rfl ?_
    rw [h3]
    refine b_ai (wr := [(xs, .inl (cS, 8, .inr (.inr (.inr (.inr gs))))), (sh0, .inr (4, [.int (-1), .int 0, .ref it0])), (sh1, .inr (4, [.int (-1), .int 0, .ref it1])), (sh2, .inr (4, [.int (-1), .int 0, .ref it2])), (sh3, .inr (4, [.int (-1), .int 0, .ref it3])), (sh4, .inr (4, [.int (-1), .int 0, .ref it4])), (sh5, .inr (4, [.int (-1), .int 0, .ref it5])), (sh6, .inr (4, [.int (-1), .int 0, .ref it6])), (sh7, .inr (4, [.int (-1), .int 0, .ref it7])), (xt, .inr (5, [.ref by_, .int 0, .int 0, .int 0, .int 0, .int 0])), (y_lane, .inl (cI, 8, .inl la))]) (b_runV (q0 := 10) (ci := 9) (As := [.int 1]) (c_X9_count_1 l D cI cZ cC cS sq H.size y y_lane y_many y_item y_city y_fresh y_tape y_cost y_away y_fee y_goesTo y_priceWas y_isKept y_kept y_trace) S gL_law_X9_count rfl hdV_X9_count ⟨Nat.le_of_ble_eq_true rfl, Nat.le_of_ble_eq_true rfl⟩ ⟨Nat.le_of_ble_eq_true rfl, Nat.le_of_ble_eq_true rfl⟩ hK hP hD rfl rfl [10, 12] rfl (by decide) rfl hl.1 rfl (Nat.le_of_ble_eq_true rfl) dL_law_1013) hP hD hS hA [10, 12] [0, 1, 2, 3, 4, 5, 6, 7, 8, 9, 11] rfl rfl (by decide) (by decide) (fun r_6 w_7 H locs hw_8 hP hD hS => ?_)
    obtain ⟨rfl, rfl⟩ := hw_8
    have hP : va_P D vwCl [(xs, .inl (cS, 8, .inr (.inr (.inr (.inr gs))))), (sh0, .inr (4, [.int (-1), .int 0, .ref it0])), (sh1, .inr (4, [.int (-1), .int 0, .ref it1])), (sh2, .inr (4, [.int (-1), .int 0, .ref it2])), (sh3, .inr (4, [.int (-1), .int 0, .ref it3])), (sh4, .inr (4, [.int (-1), .int 0, .ref it4])), (sh5, .inr (4, [.int (-1), .int 0, .ref it5])), (sh6, .inr (4, [.int (-1), .int 0, .ref it6])), (sh7, .inr (4, [.int (-1), .int 0, .ref it7])), (xt, .inr (5, [.ref by_, .int 0, .int 0, .int 0, .int 0, .int 0])), (y_lane, .inl (cI, 8, .inl la))] H := hP
    have hD : va_D A [(xs, .inl (cS, 8, .inr (.inr (.inr (.inr gs))))), (sh0, .inr (4, [.int (-1), .int 0, .ref it0])), (sh1, .inr (4, [.int (-1), .int 0, .ref it1])), (sh2, .inr (4, [.int (-1), .int 0, .ref it2])), (sh3, .inr (4, [.int (-1), .int 0, .ref it3])), (sh4, .inr (4, [.int (-1), .int 0, .ref it4])), (sh5, .inr (4, [.int (-1), .int 0, .ref it5])), (sh6, .inr (4, [.int (-1), .int 0, .ref it6])), (sh7, .inr (4, [.int (-1), .int 0, .ref it7])), (xt, .inr (5, [.ref by_, .int 0, .int 0, .int 0, .int 0, .int 0])), (y_lane, .inl (cI, 8, .inl la))] := hD
    refine lv_icmp_eq (tgt := 1034) S.1 S.2.1 dL_law_1016 (by decide) (fun c_9 => ?_) (fun c_9 => absurd c_9 (by decide))
    exact law_tail C hS (lv_sub hl [0, 3] rfl) (by decide) (by decide)
  · have h3 : sc 1 = 2 := Int32.toInt_inj.mp (h0.trans rfl)
    refine lv_aload_n S.1 S.2.1 dL_law_998 rfl (lv_at hl 2 rfl) ?_
    refine lv_aload_n S.1 S.2.1 dL_law_999 rfl (lv_at hl 3 rfl) ?_
    refine lv_iload_n S.1 S.2.1 dL_law_1000 rfl (lv_at hl 0 rfl) ?_
    refine lv_iconst (v := 1) S.1 S.2.1 dL_law_1001 (by decide) ?_
    refine lv_iadd S.1 S.2.1 dL_law_1002 ?_
    refine lv_topi (fun x_1 ex_1 => ?_)
    have ex_1 : x_1 = 1 := by rw [ex_1]; decide
    subst ex_1
    refine va_sld S.1 S.2.1 hX hbl hbA hS (by unfold vp_in; decide) dL_law_1003 ?_
    refine W.eq (g2 := F0 m 1004 ls [.int (sc 1), .ref x]) rfl ?_
    rw [h3]
    refine b_ai (wr := [(xs, .inl (cS, 8, .inr (.inr (.inr (.inr gs))))), (sh0, .inr (4, [.int (-1), .int 0, .ref it0])), (sh1, .inr (4, [.int (-1), .int 0, .ref it1])), (sh2, .inr (4, [.int (-1), .int 0, .ref it2])), (sh3, .inr (4, [.int (-1), .int 0, .ref it3])), (sh4, .inr (4, [.int (-1), .int 0, .ref it4])), (sh5, .inr (4, [.int (-1), .int 0, .ref it5])), (sh6, .inr (4, [.int (-1), .int 0, .ref it6])), (sh7, .inr (4, [.int (-1), .int 0, .ref it7])), (xt, .inr (5, [.ref by_, .int 0, .int 0, .int 0, .int 0, .int 0])), (y, .inr (9, [.int 0, .int 0, .ref y_lane, .ref y_many, .ref y_item, .ref y_city, .ref y_fresh, .int 0, .ref y_tape, .int 0, .int 0, .int 0, .int 0, .int 0, .int 0, .int 0, .int 0, .int 0, .int 0, .int 0, .ref y_cost, .ref y_away, .ref y_fee, .ref y_goesTo, .ref y_priceWas, .ref y_isKept, .ref y_kept, .ref y_trace, .int 0])), (y_lane, .inl (cI, 8, .inl la)), (y_city, .inl (cI, 192, .inl (fun _ => 0)))]) (b_runV (q0 := 0) (ci := 8) (As := [.int 2]) (c_X8_count_2 l D cI cZ cC cS sq H.size x xs xt xc xd xr xi xv xw xh xm xa aCells aPrices aFree aPlaces aHomes aManners aGone aPaid aBlinks) S gL_law_X8_count rfl hdV_X8_count ⟨Nat.le_of_ble_eq_true rfl, Nat.le_of_ble_eq_true rfl⟩ ⟨Nat.le_of_ble_eq_true rfl, Nat.le_of_ble_eq_true rfl⟩ hK hP hD rfl rfl [0, 11] rfl (by decide) rfl hl.1 rfl (Nat.le_of_ble_eq_true rfl) dL_law_1004) hP hD hS hA [0, 11] [1, 2, 3, 4, 5, 6, 7, 8, 9, 10, 12, 13, 14] rfl rfl (by decide) (by decide) (fun r_2 w_3 H locs hw_4 hP hD hS => ?_)
    obtain ⟨rfl, rfl⟩ := hw_4
    have hP : va_P D vwCl [(xs, .inl (cS, 8, .inr (.inr (.inr (.inr gs))))), (sh0, .inr (4, [.int (-1), .int 0, .ref it0])), (sh1, .inr (4, [.int (-1), .int 0, .ref it1])), (sh2, .inr (4, [.int (-1), .int 0, .ref it2])), (sh3, .inr (4, [.int (-1), .int 0, .ref it3])), (sh4, .inr (4, [.int (-1), .int 0, .ref it4])), (sh5, .inr (4, [.int (-1), .int 0, .ref it5])), (sh6, .inr (4, [.int (-1), .int 0, .ref it6])), (sh7, .inr (4, [.int (-1), .int 0, .ref it7])), (xt, .inr (5, [.ref by_, .int 0, .int 0, .int 0, .int 0, .int 0])), (y, .inr (9, [.int 0, .int 0, .ref y_lane, .ref y_many, .ref y_item, .ref y_city, .ref y_fresh, .int 0, .ref y_tape, .int 0, .int 0, .int 0, .int 0, .int 0, .int 0, .int 0, .int 0, .int 0, .int 0, .int 0, .ref y_cost, .ref y_away, .ref y_fee, .ref y_goesTo, .ref y_priceWas, .ref y_isKept, .ref y_kept, .ref y_trace, .int 0])), (y_lane, .inl (cI, 8, .inl la)), (y_city, .inl (cI, 192, .inl (fun _ => 0)))] H := hP
    have hD : va_D A [(xs, .inl (cS, 8, .inr (.inr (.inr (.inr gs))))), (sh0, .inr (4, [.int (-1), .int 0, .ref it0])), (sh1, .inr (4, [.int (-1), .int 0, .ref it1])), (sh2, .inr (4, [.int (-1), .int 0, .ref it2])), (sh3, .inr (4, [.int (-1), .int 0, .ref it3])), (sh4, .inr (4, [.int (-1), .int 0, .ref it4])), (sh5, .inr (4, [.int (-1), .int 0, .ref it5])), (sh6, .inr (4, [.int (-1), .int 0, .ref it6])), (sh7, .inr (4, [.int (-1), .int 0, .ref it7])), (xt, .inr (5, [.ref by_, .int 0, .int 0, .int 0, .int 0, .int 0])), (y, .inr (9, [.int 0, .int 0, .ref y_lane, .ref y_many, .ref y_item, .ref y_city, .ref y_fresh, .int 0, .ref y_tape, .int 0, .int 0, .int 0, .int 0, .int 0, .int 0, .int 0, .int 0, .int 0, .int 0, .int 0, .ref y_cost, .ref y_away, .ref y_fee, .ref y_goesTo, .ref y_priceWas, .ref y_isKept, .ref y_kept, .ref y_trace, .int 0])), (y_lane, .inl (cI, 8, .inl la)), (y_city, .inl (cI, 192, .inl (fun _ => 0)))] := hD
    refine lv_aload_n S.1 S.2.1 dL_law_1007 rfl (lv_at hl 1 rfl) ?_
    refine lv_aload_n S.1 S.2.1 dL_law_1008 rfl (lv_at hl 3 rfl) ?_
    refine lv_iload_n S.1 S.2.1 dL_law_1009 rfl (lv_at hl 0 rfl) ?_
    refine lv_iconst (v := 1) S.1 S.2.1 dL_law_1010 (by decide) ?_
    refine lv_iadd S.1 S.2.1 dL_law_1011 ?_
    refine lv_topi (fun x_5 ex_5 => ?_)
    have ex_5 : x_5 = 1 := by rw [ex_5]; decide
    subst ex_5
    refine va_sld S.1 S.2.1 hX hbl hbA hS (by unfold vp_in; decide) dL_law_1012 ?_
    refine W.eq (g2 := F0 m 1013 ls [.int (sc 1), .ref y, .int 0]) rfl ?_
    rw [h3]
    refine b_ai (wr := [(xs, .inl (cS, 8, .inr (.inr (.inr (.inr gs))))), (sh0, .inr (4, [.int (-1), .int 0, .ref it0])), (sh1, .inr (4, [.int (-1), .int 0, .ref it1])), (sh2, .inr (4, [.int (-1), .int 0, .ref it2])), (sh3, .inr (4, [.int (-1), .int 0, .ref it3])), (sh4, .inr (4, [.int (-1), .int 0, .ref it4])), (sh5, .inr (4, [.int (-1), .int 0, .ref it5])), (sh6, .inr (4, [.int (-1), .int 0, .ref it6])), (sh7, .inr (4, [.int (-1), .int 0, .ref it7])), (xt, .inr (5, [.ref by_, .int 0, .int 0, .int 0, .int 0, .int 0])), (y_lane, .inl (cI, 8, .inl la))]) (b_runV (q0 := 10) (ci := 9) (As := [.int 2]) (c_X9_count_2 l D cI cZ cC cS sq H.size y y_lane y_many y_item y_city y_fresh y_tape y_cost y_away y_fee y_goesTo y_priceWas y_isKept y_kept y_trace) S gL_law_X9_count rfl hdV_X9_count ⟨Nat.le_of_ble_eq_true rfl, Nat.le_of_ble_eq_true rfl⟩ ⟨Nat.le_of_ble_eq_true rfl, Nat.le_of_ble_eq_true rfl⟩ hK hP hD rfl rfl [10, 12] rfl (by decide) rfl hl.1 rfl (Nat.le_of_ble_eq_true rfl) dL_law_1013) hP hD hS hA [10, 12] [0, 1, 2, 3, 4, 5, 6, 7, 8, 9, 11] rfl rfl (by decide) (by decide) (fun r_6 w_7 H locs hw_8 hP hD hS => ?_)
    obtain ⟨rfl, rfl⟩ := hw_8
    have hP : va_P D vwCl [(xs, .inl (cS, 8, .inr (.inr (.inr (.inr gs))))), (sh0, .inr (4, [.int (-1), .int 0, .ref it0])), (sh1, .inr (4, [.int (-1), .int 0, .ref it1])), (sh2, .inr (4, [.int (-1), .int 0, .ref it2])), (sh3, .inr (4, [.int (-1), .int 0, .ref it3])), (sh4, .inr (4, [.int (-1), .int 0, .ref it4])), (sh5, .inr (4, [.int (-1), .int 0, .ref it5])), (sh6, .inr (4, [.int (-1), .int 0, .ref it6])), (sh7, .inr (4, [.int (-1), .int 0, .ref it7])), (xt, .inr (5, [.ref by_, .int 0, .int 0, .int 0, .int 0, .int 0])), (y_lane, .inl (cI, 8, .inl la))] H := hP
    have hD : va_D A [(xs, .inl (cS, 8, .inr (.inr (.inr (.inr gs))))), (sh0, .inr (4, [.int (-1), .int 0, .ref it0])), (sh1, .inr (4, [.int (-1), .int 0, .ref it1])), (sh2, .inr (4, [.int (-1), .int 0, .ref it2])), (sh3, .inr (4, [.int (-1), .int 0, .ref it3])), (sh4, .inr (4, [.int (-1), .int 0, .ref it4])), (sh5, .inr (4, [.int (-1), .int 0, .ref it5])), (sh6, .inr (4, [.int (-1), .int 0, .ref it6])), (sh7, .inr (4, [.int (-1), .int 0, .ref it7])), (xt, .inr (5, [.ref by_, .int 0, .int 0, .int 0, .int 0, .int 0])), (y_lane, .inl (cI, 8, .inl la))] := hD
    refine lv_icmp_eq (tgt := 1034) S.1 S.2.1 dL_law_1016 (by decide) (fun c_9 => ?_) (fun c_9 => absurd c_9 (by decide))
    exact law_tail C hS (lv_sub hl [0, 3] rfl) (by decide) (by decide)
  · have h3 : sc 1 = 3 := Int32.toInt_inj.mp (h0.trans rfl)
    refine lv_aload_n S.1 S.2.1 dL_law_998 rfl (lv_at hl 2 rfl) ?_
    refine lv_aload_n S.1 S.2.1 dL_law_999 rfl (lv_at hl 3 rfl) ?_
    refine lv_iload_n S.1 S.2.1 dL_law_1000 rfl (lv_at hl 0 rfl) ?_
    refine lv_iconst (v := 1) S.1 S.2.1 dL_law_1001 (by decide) ?_
    refine lv_iadd S.1 S.2.1 dL_law_1002 ?_
    refine lv_topi (fun x_1 ex_1 => ?_)
    have ex_1 : x_1 = 1 := by rw [ex_1]; decide
    subst ex_1
    refine va_sld S.1 S.2.1 hX hbl hbA hS (by unfold vp_in; decide) dL_law_1003 ?_
    refine W.eq (g2 := F0 m 1004 ls [.int (sc 1), .ref x]) rfl ?_
    rw [h3]
    refine b_ai (wr := [(xs, .inl (cS, 8, .inr (.inr (.inr (.inr gs))))), (sh0, .inr (4, [.int (-1), .int 0, .ref it0])), (sh1, .inr (4, [.int (-1), .int 0, .ref it1])), (sh2, .inr (4, [.int (-1), .int 0, .ref it2])), (sh3, .inr (4, [.int (-1), .int 0, .ref it3])), (sh4, .inr (4, [.int (-1), .int 0, .ref it4])), (sh5, .inr (4, [.int (-1), .int 0, .ref it5])), (sh6, .inr (4, [.int (-1), .int 0, .ref it6])), (sh7, .inr (4, [.int (-1), .int 0, .ref it7])), (xt, .inr (5, [.ref by_, .int 0, .int 0, .int 0, .int 0, .int 0])), (y, .inr (9, [.int 0, .int 0, .ref y_lane, .ref y_many, .ref y_item, .ref y_city, .ref y_fresh, .int 0, .ref y_tape, .int 0, .int 0, .int 0, .int 0, .int 0, .int 0, .int 0, .int 0, .int 0, .int 0, .int 0, .ref y_cost, .ref y_away, .ref y_fee, .ref y_goesTo, .ref y_priceWas, .ref y_isKept, .ref y_kept, .ref y_trace, .int 0])), (y_lane, .inl (cI, 8, .inl la)), (y_city, .inl (cI, 192, .inl (fun _ => 0)))]) (b_runV (q0 := 0) (ci := 8) (As := [.int 3]) (c_X8_count_3 l D cI cZ cC cS sq H.size x xs xt xc xd xr xi xv xw xh xm xa aCells aPrices aFree aPlaces aHomes aManners aGone aPaid aBlinks) S gL_law_X8_count rfl hdV_X8_count ⟨Nat.le_of_ble_eq_true rfl, Nat.le_of_ble_eq_true rfl⟩ ⟨Nat.le_of_ble_eq_true rfl, Nat.le_of_ble_eq_true rfl⟩ hK hP hD rfl rfl [0, 11] rfl (by decide) rfl hl.1 rfl (Nat.le_of_ble_eq_true rfl) dL_law_1004) hP hD hS hA [0, 11] [1, 2, 3, 4, 5, 6, 7, 8, 9, 10, 12, 13, 14] rfl rfl (by decide) (by decide) (fun r_2 w_3 H locs hw_4 hP hD hS => ?_)
    obtain ⟨rfl, rfl⟩ := hw_4
    have hP : va_P D vwCl [(xs, .inl (cS, 8, .inr (.inr (.inr (.inr gs))))), (sh0, .inr (4, [.int (-1), .int 0, .ref it0])), (sh1, .inr (4, [.int (-1), .int 0, .ref it1])), (sh2, .inr (4, [.int (-1), .int 0, .ref it2])), (sh3, .inr (4, [.int (-1), .int 0, .ref it3])), (sh4, .inr (4, [.int (-1), .int 0, .ref it4])), (sh5, .inr (4, [.int (-1), .int 0, .ref it5])), (sh6, .inr (4, [.int (-1), .int 0, .ref it6])), (sh7, .inr (4, [.int (-1), .int 0, .ref it7])), (xt, .inr (5, [.ref by_, .int 0, .int 0, .int 0, .int 0, .int 0])), (y, .inr (9, [.int 0, .int 0, .ref y_lane, .ref y_many, .ref y_item, .ref y_city, .ref y_fresh, .int 0, .ref y_tape, .int 0, .int 0, .int 0, .int 0, .int 0, .int 0, .int 0, .int 0, .int 0, .int 0, .int 0, .ref y_cost, .ref y_away, .ref y_fee, .ref y_goesTo, .ref y_priceWas, .ref y_isKept, .ref y_kept, .ref y_trace, .int 0])), (y_lane, .inl (cI, 8, .inl la)), (y_city, .inl (cI, 192, .inl (fun _ => 0)))] H := hP
    have hD : va_D A [(xs, .inl (cS, 8, .inr (.inr (.inr (.inr gs))))), (sh0, .inr (4, [.int (-1), .int 0, .ref it0])), (sh1, .inr (4, [.int (-1), .int 0, .ref it1])), (sh2, .inr (4, [.int (-1), .int 0, .ref it2])), (sh3, .inr (4, [.int (-1), .int 0, .ref it3])), (sh4, .inr (4, [.int (-1), .int 0, .ref it4])), (sh5, .inr (4, [.int (-1), .int 0, .ref it5])), (sh6, .inr (4, [.int (-1), .int 0, .ref it6])), (sh7, .inr (4, [.int (-1), .int 0, .ref it7])), (xt, .inr (5, [.ref by_, .int 0, .int 0, .int 0, .int 0, .int 0])), (y, .inr (9, [.int 0, .int 0, .ref y_lane, .ref y_many, .ref y_item, .ref y_city, .ref y_fresh, .int 0, .ref y_tape, .int 0, .int 0, .int 0, .int 0, .int 0, .int 0, .int 0, .int 0, .int 0, .int 0, .int 0, .ref y_cost, .ref y_away, .ref y_fee, .ref y_goesTo, .ref y_priceWas, .ref y_isKept, .ref y_kept, .ref y_trace, .int 0])), (y_lane, .inl (cI, 8, .inl la)), (y_city, .inl (cI, 192, .inl (fun _ => 0)))] := hD
    refine lv_aload_n S.1 S.2.1 dL_law_1007 rfl (lv_at hl 1 rfl) ?_
    refine lv_aload_n S.1 S.2.1 dL_law_1008 rfl (lv_at hl 3 rfl) ?_
    refine lv_iload_n S.1 S.2.1 dL_law_1009 rfl (lv_at hl 0 rfl) ?_
    refine lv_iconst (v := 1) S.1 S.2.1 dL_law_1010 (by decide) ?_
    refine lv_iadd S.1 S.2.1 dL_law_1011 ?_
    refine lv_topi (fun x_5 ex_5 => ?_)
    have ex_5 : x_5 = 1 := by rw [ex_5]; decide
    subst ex_5
    refine va_sld S.1 S.2.1 hX hbl hbA hS (by unfold vp_in; decide) dL_law_1012 ?_
    refine W.eq (g2 := F0 m 1013 ls [.int (sc 1), .ref y, .int 0]) rfl ?_
    rw [h3]
    refine b_ai (wr := [(xs, .inl (cS, 8, .inr (.inr (.inr (.inr gs))))), (sh0, .inr (4, [.int (-1), .int 0, .ref it0])), (sh1, .inr (4, [.int (-1), .int 0, .ref it1])), (sh2, .inr (4, [.int (-1), .int 0, .ref it2])), (sh3, .inr (4, [.int (-1), .int 0, .ref it3])), (sh4, .inr (4, [.int (-1), .int 0, .ref it4])), (sh5, .inr (4, [.int (-1), .int 0, .ref it5])), (sh6, .inr (4, [.int (-1), .int 0, .ref it6])), (sh7, .inr (4, [.int (-1), .int 0, .ref it7])), (xt, .inr (5, [.ref by_, .int 0, .int 0, .int 0, .int 0, .int 0])), (y_lane, .inl (cI, 8, .inl la))]) (b_runV (q0 := 10) (ci := 9) (As := [.int 3]) (c_X9_count_3 l D cI cZ cC cS sq H.size y y_lane y_many y_item y_city y_fresh y_tape y_cost y_away y_fee y_goesTo y_priceWas y_isKept y_kept y_trace) S gL_law_X9_count rfl hdV_X9_count ⟨Nat.le_of_ble_eq_true rfl, Nat.le_of_ble_eq_true rfl⟩ ⟨Nat.le_of_ble_eq_true rfl, Nat.le_of_ble_eq_true rfl⟩ hK hP hD rfl rfl [10, 12] rfl (by decide) rfl hl.1 rfl (Nat.le_of_ble_eq_true rfl) dL_law_1013) hP hD hS hA [10, 12] [0, 1, 2, 3, 4, 5, 6, 7, 8, 9, 11] rfl rfl (by decide) (by decide) (fun r_6 w_7 H locs hw_8 hP hD hS => ?_)
    obtain ⟨rfl, rfl⟩ := hw_8
    have hP : va_P D vwCl [(xs, .inl (cS, 8, .inr (.inr (.inr (.inr gs))))), (sh0, .inr (4, [.int (-1), .int 0, .ref it0])), (sh1, .inr (4, [.int (-1), .int 0, .ref it1])), (sh2, .inr (4, [.int (-1), .int 0, .ref it2])), (sh3, .inr (4, [.int (-1), .int 0, .ref it3])), (sh4, .inr (4, [.int (-1), .int 0, .ref it4])), (sh5, .inr (4, [.int (-1), .int 0, .ref it5])), (sh6, .inr (4, [.int (-1), .int 0, .ref it6])), (sh7, .inr (4, [.int (-1), .int 0, .ref it7])), (xt, .inr (5, [.ref by_, .int 0, .int 0, .int 0, .int 0, .int 0])), (y_lane, .inl (cI, 8, .inl la))] H := hP
    have hD : va_D A [(xs, .inl (cS, 8, .inr (.inr (.inr (.inr gs))))), (sh0, .inr (4, [.int (-1), .int 0, .ref it0])), (sh1, .inr (4, [.int (-1), .int 0, .ref it1])), (sh2, .inr (4, [.int (-1), .int 0, .ref it2])), (sh3, .inr (4, [.int (-1), .int 0, .ref it3])), (sh4, .inr (4, [.int (-1), .int 0, .ref it4])), (sh5, .inr (4, [.int (-1), .int 0, .ref it5])), (sh6, .inr (4, [.int (-1), .int 0, .ref it6])), (sh7, .inr (4, [.int (-1), .int 0, .ref it7])), (xt, .inr (5, [.ref by_, .int 0, .int 0, .int 0, .int 0, .int 0])), (y_lane, .inl (cI, 8, .inl la))] := hD
    refine lv_icmp_eq (tgt := 1034) S.1 S.2.1 dL_law_1016 (by decide) (fun c_9 => ?_) (fun c_9 => absurd c_9 (by decide))
    exact law_tail C hS (lv_sub hl [0, 3] rfl) (by decide) (by decide)
  · have h3 : sc 1 = 4 := Int32.toInt_inj.mp (h0.trans rfl)
    refine lv_aload_n S.1 S.2.1 dL_law_998 rfl (lv_at hl 2 rfl) ?_
    refine lv_aload_n S.1 S.2.1 dL_law_999 rfl (lv_at hl 3 rfl) ?_
    refine lv_iload_n S.1 S.2.1 dL_law_1000 rfl (lv_at hl 0 rfl) ?_
    refine lv_iconst (v := 1) S.1 S.2.1 dL_law_1001 (by decide) ?_
    refine lv_iadd S.1 S.2.1 dL_law_1002 ?_
    refine lv_topi (fun x_1 ex_1 => ?_)
    have ex_1 : x_1 = 1 := by rw [ex_1]; decide
    subst ex_1
    refine va_sld S.1 S.2.1 hX hbl hbA hS (by unfold vp_in; decide) dL_law_1003 ?_
    refine W.eq (g2 := F0 m 1004 ls [.int (sc 1), .ref x]) rfl ?_
    rw [h3]
    refine b_ai (wr := [(xs, .inl (cS, 8, .inr (.inr (.inr (.inr gs))))), (sh0, .inr (4, [.int (-1), .int 0, .ref it0])), (sh1, .inr (4, [.int (-1), .int 0, .ref it1])), (sh2, .inr (4, [.int (-1), .int 0, .ref it2])), (sh3, .inr (4, [.int (-1), .int 0, .ref it3])), (sh4, .inr (4, [.int (-1), .int 0, .ref it4])), (sh5, .inr (4, [.int (-1), .int 0, .ref it5])), (sh6, .inr (4, [.int (-1), .int 0, .ref it6])), (sh7, .inr (4, [.int (-1), .int 0, .ref it7])), (xt, .inr (5, [.ref by_, .int 0, .int 0, .int 0, .int 0, .int 0])), (y, .inr (9, [.int 0, .int 0, .ref y_lane, .ref y_many, .ref y_item, .ref y_city, .ref y_fresh, .int 0, .ref y_tape, .int 0, .int 0, .int 0, .int 0, .int 0, .int 0, .int 0, .int 0, .int 0, .int 0, .int 0, .ref y_cost, .ref y_away, .ref y_fee, .ref y_goesTo, .ref y_priceWas, .ref y_isKept, .ref y_kept, .ref y_trace, .int 0])), (y_lane, .inl (cI, 8, .inl la)), (y_city, .inl (cI, 192, .inl (fun _ => 0)))]) (b_runV (q0 := 0) (ci := 8) (As := [.int 4]) (c_X8_count_4 l D cI cZ cC cS sq H.size x xs xt xc xd xr xi xv xw xh xm xa aCells aPrices aFree aPlaces aHomes aManners aGone aPaid aBlinks) S gL_law_X8_count rfl hdV_X8_count ⟨Nat.le_of_ble_eq_true rfl, Nat.le_of_ble_eq_true rfl⟩ ⟨Nat.le_of_ble_eq_true rfl, Nat.le_of_ble_eq_true rfl⟩ hK hP hD rfl rfl [0, 11] rfl (by decide) rfl hl.1 rfl (Nat.le_of_ble_eq_true rfl) dL_law_1004) hP hD hS hA [0, 11] [1, 2, 3, 4, 5, 6, 7, 8, 9, 10, 12, 13, 14] rfl rfl (by decide) (by decide) (fun r_2 w_3 H locs hw_4 hP hD hS => ?_)
    obtain ⟨rfl, rfl⟩ := hw_4
    have hP : va_P D vwCl [(xs, .inl (cS, 8, .inr (.inr (.inr (.inr gs))))), (sh0, .inr (4, [.int (-1), .int 0, .ref it0])), (sh1, .inr (4, [.int (-1), .int 0, .ref it1])), (sh2, .inr (4, [.int (-1), .int 0, .ref it2])), (sh3, .inr (4, [.int (-1), .int 0, .ref it3])), (sh4, .inr (4, [.int (-1), .int 0, .ref it4])), (sh5, .inr (4, [.int (-1), .int 0, .ref it5])), (sh6, .inr (4, [.int (-1), .int 0, .ref it6])), (sh7, .inr (4, [.int (-1), .int 0, .ref it7])), (xt, .inr (5, [.ref by_, .int 0, .int 0, .int 0, .int 0, .int 0])), (y, .inr (9, [.int 0, .int 0, .ref y_lane, .ref y_many, .ref y_item, .ref y_city, .ref y_fresh, .int 0, .ref y_tape, .int 0, .int 0, .int 0, .int 0, .int 0, .int 0, .int 0, .int 0, .int 0, .int 0, .int 0, .ref y_cost, .ref y_away, .ref y_fee, .ref y_goesTo, .ref y_priceWas, .ref y_isKept, .ref y_kept, .ref y_trace, .int 0])), (y_lane, .inl (cI, 8, .inl la)), (y_city, .inl (cI, 192, .inl (fun _ => 0)))] H := hP
    have hD : va_D A [(xs, .inl (cS, 8, .inr (.inr (.inr (.inr gs))))), (sh0, .inr (4, [.int (-1), .int 0, .ref it0])), (sh1, .inr (4, [.int (-1), .int 0, .ref it1])), (sh2, .inr (4, [.int (-1), .int 0, .ref it2])), (sh3, .inr (4, [.int (-1), .int 0, .ref it3])), (sh4, .inr (4, [.int (-1), .int 0, .ref it4])), (sh5, .inr (4, [.int (-1), .int 0, .ref it5])), (sh6, .inr (4, [.int (-1), .int 0, .ref it6])), (sh7, .inr (4, [.int (-1), .int 0, .ref it7])), (xt, .inr (5, [.ref by_, .int 0, .int 0, .int 0, .int 0, .int 0])), (y, .inr (9, [.int 0, .int 0, .ref y_lane, .ref y_many, .ref y_item, .ref y_city, .ref y_fresh, .int 0, .ref y_tape, .int 0, .int 0, .int 0, .int 0, .int 0, .int 0, .int 0, .int 0, .int 0, .int 0, .int 0, .ref y_cost, .ref y_away, .ref y_fee, .ref y_goesTo, .ref y_priceWas, .ref y_isKept, .ref y_kept, .ref y_trace, .int 0])), (y_lane, .inl (cI, 8, .inl la)), (y_city, .inl (cI, 192, .inl (fun _ => 0)))] := hD
    refine lv_aload_n S.1 S.2.1 dL_law_1007 rfl (lv_at hl 1 rfl) ?_
    refine lv_aload_n S.1 S.2.1 dL_law_1008 rfl (lv_at hl 3 rfl) ?_
    refine lv_iload_n S.1 S.2.1 dL_law_1009 rfl (lv_at hl 0 rfl) ?_
    refine lv_iconst (v := 1) S.1 S.2.1 dL_law_1010 (by decide) ?_
    refine lv_iadd S.1 S.2.1 dL_law_1011 ?_
    refine lv_topi (fun x_5 ex_5 => ?_)
    have ex_5 : x_5 = 1 := by rw [ex_5]; decide
    subst ex_5
    refine va_sld S.1 S.2.1 hX hbl hbA hS (by unfold vp_in; decide) dL_law_1012 ?_
    refine W.eq (g2 := F0 m 1013 ls [.int (sc 1), .ref y, .int 0]) rfl ?_
    rw [h3]
    refine b_ai (wr := [(xs, .inl (cS, 8, .inr (.inr (.inr (.inr gs))))), (sh0, .inr (4, [.int (-1), .int 0, .ref it0])), (sh1, .inr (4, [.int (-1), .int 0, .ref it1])), (sh2, .inr (4, [.int (-1), .int 0, .ref it2])), (sh3, .inr (4, [.int (-1), .int 0, .ref it3])), (sh4, .inr (4, [.int (-1), .int 0, .ref it4])), (sh5, .inr (4, [.int (-1), .int 0, .ref it5])), (sh6, .inr (4, [.int (-1), .int 0, .ref it6])), (sh7, .inr (4, [.int (-1), .int 0, .ref it7])), (xt, .inr (5, [.ref by_, .int 0, .int 0, .int 0, .int 0, .int 0])), (y_lane, .inl (cI, 8, .inl la))]) (b_runV (q0 := 10) (ci := 9) (As := [.int 4]) (c_X9_count_4 l D cI cZ cC cS sq H.size y y_lane y_many y_item y_city y_fresh y_tape y_cost y_away y_fee y_goesTo y_priceWas y_isKept y_kept y_trace) S gL_law_X9_count rfl hdV_X9_count ⟨Nat.le_of_ble_eq_true rfl, Nat.le_of_ble_eq_true rfl⟩ ⟨Nat.le_of_ble_eq_true rfl, Nat.le_of_ble_eq_true rfl⟩ hK hP hD rfl rfl [10, 12] rfl (by decide) rfl hl.1 rfl (Nat.le_of_ble_eq_true rfl) dL_law_1013) hP hD hS hA [10, 12] [0, 1, 2, 3, 4, 5, 6, 7, 8, 9, 11] rfl rfl (by decide) (by decide) (fun r_6 w_7 H locs hw_8 hP hD hS => ?_)
    obtain ⟨rfl, rfl⟩ := hw_8
    have hP : va_P D vwCl [(xs, .inl (cS, 8, .inr (.inr (.inr (.inr gs))))), (sh0, .inr (4, [.int (-1), .int 0, .ref it0])), (sh1, .inr (4, [.int (-1), .int 0, .ref it1])), (sh2, .inr (4, [.int (-1), .int 0, .ref it2])), (sh3, .inr (4, [.int (-1), .int 0, .ref it3])), (sh4, .inr (4, [.int (-1), .int 0, .ref it4])), (sh5, .inr (4, [.int (-1), .int 0, .ref it5])), (sh6, .inr (4, [.int (-1), .int 0, .ref it6])), (sh7, .inr (4, [.int (-1), .int 0, .ref it7])), (xt, .inr (5, [.ref by_, .int 0, .int 0, .int 0, .int 0, .int 0])), (y_lane, .inl (cI, 8, .inl la))] H := hP
    have hD : va_D A [(xs, .inl (cS, 8, .inr (.inr (.inr (.inr gs))))), (sh0, .inr (4, [.int (-1), .int 0, .ref it0])), (sh1, .inr (4, [.int (-1), .int 0, .ref it1])), (sh2, .inr (4, [.int (-1), .int 0, .ref it2])), (sh3, .inr (4, [.int (-1), .int 0, .ref it3])), (sh4, .inr (4, [.int (-1), .int 0, .ref it4])), (sh5, .inr (4, [.int (-1), .int 0, .ref it5])), (sh6, .inr (4, [.int (-1), .int 0, .ref it6])), (sh7, .inr (4, [.int (-1), .int 0, .ref it7])), (xt, .inr (5, [.ref by_, .int 0, .int 0, .int 0, .int 0, .int 0])), (y_lane, .inl (cI, 8, .inl la))] := hD
    refine lv_icmp_eq (tgt := 1034) S.1 S.2.1 dL_law_1016 (by decide) (fun c_9 => ?_) (fun c_9 => absurd c_9 (by decide))
    exact law_tail C hS (lv_sub hl [0, 3] rfl) (by decide) (by decide)
  · have h3 : sc 1 = 5 := Int32.toInt_inj.mp (h0.trans rfl)
    refine lv_aload_n S.1 S.2.1 dL_law_998 rfl (lv_at hl 2 rfl) ?_
    refine lv_aload_n S.1 S.2.1 dL_law_999 rfl (lv_at hl 3 rfl) ?_
    refine lv_iload_n S.1 S.2.1 dL_law_1000 rfl (lv_at hl 0 rfl) ?_
    refine lv_iconst (v := 1) S.1 S.2.1 dL_law_1001 (by decide) ?_
    refine lv_iadd S.1 S.2.1 dL_law_1002 ?_
    refine lv_topi (fun x_1 ex_1 => ?_)
    have ex_1 : x_1 = 1 := by rw [ex_1]; decide
    subst ex_1
    refine va_sld S.1 S.2.1 hX hbl hbA hS (by unfold vp_in; decide) dL_law_1003 ?_
    refine W.eq (g2 := F0 m 1004 ls [.int (sc 1), .ref x]) rfl ?_
    rw [h3]
    refine b_ai (wr := [(xs, .inl (cS, 8, .inr (.inr (.inr (.inr gs))))), (sh0, .inr (4, [.int (-1), .int 0, .ref it0])), (sh1, .inr (4, [.int (-1), .int 0, .ref it1])), (sh2, .inr (4, [.int (-1), .int 0, .ref it2])), (sh3, .inr (4, [.int (-1), .int 0, .ref it3])), (sh4, .inr (4, [.int (-1), .int 0, .ref it4])), (sh5, .inr (4, [.int (-1), .int 0, .ref it5])), (sh6, .inr (4, [.int (-1), .int 0, .ref it6])), (sh7, .inr (4, [.int (-1), .int 0, .ref it7])), (xt, .inr (5, [.ref by_, .int 0, .int 0, .int 0, .int 0, .int 0])), (y, .inr (9, [.int 0, .int 0, .ref y_lane, .ref y_many, .ref y_item, .ref y_city, .ref y_fresh, .int 0, .ref y_tape, .int 0, .int 0, .int 0, .int 0, .int 0, .int 0, .int 0, .int 0, .int 0, .int 0, .int 0, .ref y_cost, .ref y_away, .ref y_fee, .ref y_goesTo, .ref y_priceWas, .ref y_isKept, .ref y_kept, .ref y_trace, .int 0])), (y_lane, .inl (cI, 8, .inl la)), (y_city, .inl (cI, 192, .inl (fun _ => 0)))]) (b_runV (q0 := 0) (ci := 8) (As := [.int 5]) (c_X8_count_5 l D cI cZ cC cS sq H.size x xs xt xc xd xr xi xv xw xh xm xa aCells aPrices aFree aPlaces aHomes aManners aGone aPaid aBlinks) S gL_law_X8_count rfl hdV_X8_count ⟨Nat.le_of_ble_eq_true rfl, Nat.le_of_ble_eq_true rfl⟩ ⟨Nat.le_of_ble_eq_true rfl, Nat.le_of_ble_eq_true rfl⟩ hK hP hD rfl rfl [0, 11] rfl (by decide) rfl hl.1 rfl (Nat.le_of_ble_eq_true rfl) dL_law_1004) hP hD hS hA [0, 11] [1, 2, 3, 4, 5, 6, 7, 8, 9, 10, 12, 13, 14] rfl rfl (by decide) (by decide) (fun r_2 w_3 H locs hw_4 hP hD hS => ?_)
    obtain ⟨rfl, rfl⟩ := hw_4
    have hP : va_P D vwCl [(xs, .inl (cS, 8, .inr (.inr (.inr (.inr gs))))), (sh0, .inr (4, [.int (-1), .int 0, .ref it0])), (sh1, .inr (4, [.int (-1), .int 0, .ref it1])), (sh2, .inr (4, [.int (-1), .int 0, .ref it2])), (sh3, .inr (4, [.int (-1), .int 0, .ref it3])), (sh4, .inr (4, [.int (-1), .int 0, .ref it4])), (sh5, .inr (4, [.int (-1), .int 0, .ref it5])), (sh6, .inr (4, [.int (-1), .int 0, .ref it6])), (sh7, .inr (4, [.int (-1), .int 0, .ref it7])), (xt, .inr (5, [.ref by_, .int 0, .int 0, .int 0, .int 0, .int 0])), (y, .inr (9, [.int 0, .int 0, .ref y_lane, .ref y_many, .ref y_item, .ref y_city, .ref y_fresh, .int 0, .ref y_tape, .int 0, .int 0, .int 0, .int 0, .int 0, .int 0, .int 0, .int 0, .int 0, .int 0, .int 0, .ref y_cost, .ref y_away, .ref y_fee, .ref y_goesTo, .ref y_priceWas, .ref y_isKept, .ref y_kept, .ref y_trace, .int 0])), (y_lane, .inl (cI, 8, .inl la)), (y_city, .inl (cI, 192, .inl (fun _ => 0)))] H := hP
    have hD : va_D A [(xs, .inl (cS, 8, .inr (.inr (.inr (.inr gs))))), (sh0, .inr (4, [.int (-1), .int 0, .ref it0])), (sh1, .inr (4, [.int (-1), .int 0, .ref it1])), (sh2, .inr (4, [.int (-1), .int 0, .ref it2])), (sh3, .inr (4, [.int (-1), .int 0, .ref it3])), (sh4, .inr (4, [.int (-1), .int 0, .ref it4])), (sh5, .inr (4, [.int (-1), .int 0, .ref it5])), (sh6, .inr (4, [.int (-1), .int 0, .ref it6])), (sh7, .inr (4, [.int (-1), .int 0, .ref it7])), (xt, .inr (5, [.ref by_, .int 0, .int 0, .int 0, .int 0, .int 0])), (y, .inr (9, [.int 0, .int 0, .ref y_lane, .ref y_many, .ref y_item, .ref y_city, .ref y_fresh, .int 0, .ref y_tape, .int 0, .int 0, .int 0, .int 0, .int 0, .int 0, .int 0, .int 0, .int 0, .int 0, .int 0, .ref y_cost, .ref y_away, .ref y_fee, .ref y_goesTo, .ref y_priceWas, .ref y_isKept, .ref y_kept, .ref y_trace, .int 0])), (y_lane, .inl (cI, 8, .inl la)), (y_city, .inl (cI, 192, .inl (fun _ => 0)))] := hD
    refine lv_aload_n S.1 S.2.1 dL_law_1007 rfl (lv_at hl 1 rfl) ?_
    refine lv_aload_n S.1 S.2.1 dL_law_1008 rfl (lv_at hl 3 rfl) ?_
    refine lv_iload_n S.1 S.2.1 dL_law_1009 rfl (lv_at hl 0 rfl) ?_
    refine lv_iconst (v := 1) S.1 S.2.1 dL_law_1010 (by decide) ?_
    refine lv_iadd S.1 S.2.1 dL_law_1011 ?_
    refine lv_topi (fun x_5 ex_5 => ?_)
    have ex_5 : x_5 = 1 := by rw [ex_5]; decide
    subst ex_5
    refine va_sld S.1 S.2.1 hX hbl hbA hS (by unfold vp_in; decide) dL_law_1012 ?_
    refine W.eq (g2 := F0 m 1013 ls [.int (sc 1), .ref y, .int 0]) rfl ?_
    rw [h3]
    refine b_ai (wr := [(xs, .inl (cS, 8, .inr (.inr (.inr (.inr gs))))), (sh0, .inr (4, [.int (-1), .int 0, .ref it0])), (sh1, .inr (4, [.int (-1), .int 0, .ref it1])), (sh2, .inr (4, [.int (-1), .int 0, .ref it2])), (sh3, .inr (4, [.int (-1), .int 0, .ref it3])), (sh4, .inr (4, [.int (-1), .int 0, .ref it4])), (sh5, .inr (4, [.int (-1), .int 0, .ref it5])), (sh6, .inr (4, [.int (-1), .int 0, .ref it6])), (sh7, .inr (4, [.int (-1), .int 0, .ref it7])), (xt, .inr (5, [.ref by_, .int 0, .int 0, .int 0, .int 0, .int 0])), (y_lane, .inl (cI, 8, .inl la))]) (b_runV (q0 := 10) (ci := 9) (As := [.int 5]) (c_X9_count_5 l D cI cZ cC cS sq H.size y y_lane y_many y_item y_city y_fresh y_tape y_cost y_away y_fee y_goesTo y_priceWas y_isKept y_kept y_trace) S gL_law_X9_count rfl hdV_X9_count ⟨Nat.le_of_ble_eq_true rfl, Nat.le_of_ble_eq_true rfl⟩ ⟨Nat.le_of_ble_eq_true rfl, Nat.le_of_ble_eq_true rfl⟩ hK hP hD rfl rfl [10, 12] rfl (by decide) rfl hl.1 rfl (Nat.le_of_ble_eq_true rfl) dL_law_1013) hP hD hS hA [10, 12] [0, 1, 2, 3, 4, 5, 6, 7, 8, 9, 11] rfl rfl (by decide) (by decide) (fun r_6 w_7 H locs hw_8 hP hD hS => ?_)
    obtain ⟨rfl, rfl⟩ := hw_8
    have hP : va_P D vwCl [(xs, .inl (cS, 8, .inr (.inr (.inr (.inr gs))))), (sh0, .inr (4, [.int (-1), .int 0, .ref it0])), (sh1, .inr (4, [.int (-1), .int 0, .ref it1])), (sh2, .inr (4, [.int (-1), .int 0, .ref it2])), (sh3, .inr (4, [.int (-1), .int 0, .ref it3])), (sh4, .inr (4, [.int (-1), .int 0, .ref it4])), (sh5, .inr (4, [.int (-1), .int 0, .ref it5])), (sh6, .inr (4, [.int (-1), .int 0, .ref it6])), (sh7, .inr (4, [.int (-1), .int 0, .ref it7])), (xt, .inr (5, [.ref by_, .int 0, .int 0, .int 0, .int 0, .int 0])), (y_lane, .inl (cI, 8, .inl la))] H := hP
    have hD : va_D A [(xs, .inl (cS, 8, .inr (.inr (.inr (.inr gs))))), (sh0, .inr (4, [.int (-1), .int 0, .ref it0])), (sh1, .inr (4, [.int (-1), .int 0, .ref it1])), (sh2, .inr (4, [.int (-1), .int 0, .ref it2])), (sh3, .inr (4, [.int (-1), .int 0, .ref it3])), (sh4, .inr (4, [.int (-1), .int 0, .ref it4])), (sh5, .inr (4, [.int (-1), .int 0, .ref it5])), (sh6, .inr (4, [.int (-1), .int 0, .ref it6])), (sh7, .inr (4, [.int (-1), .int 0, .ref it7])), (xt, .inr (5, [.ref by_, .int 0, .int 0, .int 0, .int 0, .int 0])), (y_lane, .inl (cI, 8, .inl la))] := hD
    refine lv_icmp_eq (tgt := 1034) S.1 S.2.1 dL_law_1016 (by decide) (fun c_9 => ?_) (fun c_9 => absurd c_9 (by decide))
    exact law_tail C hS (lv_sub hl [0, 3] rfl) (by decide) (by decide)
  · have h3 : sc 1 = 6 := Int32.toInt_inj.mp (h0.trans rfl)
    refine lv_aload_n S.1 S.2.1 dL_law_998 rfl (lv_at hl 2 rfl) ?_
    refine lv_aload_n S.1 S.2.1 dL_law_999 rfl (lv_at hl 3 rfl) ?_
    refine lv_iload_n S.1 S.2.1 dL_law_1000 rfl (lv_at hl 0 rfl) ?_
    refine lv_iconst (v := 1) S.1 S.2.1 dL_law_1001 (by decide) ?_
    refine lv_iadd S.1 S.2.1 dL_law_1002 ?_
    refine lv_topi (fun x_1 ex_1 => ?_)
    have ex_1 : x_1 = 1 := by rw [ex_1]; decide
    subst ex_1
    refine va_sld S.1 S.2.1 hX hbl hbA hS (by unfold vp_in; decide) dL_law_1003 ?_
    refine W.eq (g2 := F0 m 1004 ls [.int (sc 1), .ref x]) rfl ?_
    rw [h3]
    refine b_ai (wr := [(xs, .inl (cS, 8, .inr (.inr (.inr (.inr gs))))), (sh0, .inr (4, [.int (-1), .int 0, .ref it0])), (sh1, .inr (4, [.int (-1), .int 0, .ref it1])), (sh2, .inr (4, [.int (-1), .int 0, .ref it2])), (sh3, .inr (4, [.int (-1), .int 0, .ref it3])), (sh4, .inr (4, [.int (-1), .int 0, .ref it4])), (sh5, .inr (4, [.int (-1), .int 0, .ref it5])), (sh6, .inr (4, [.int (-1), .int 0, .ref it6])), (sh7, .inr (4, [.int (-1), .int 0, .ref it7])), (xc, .inr (1, [.int 0, .int 0, .int 0, .ref aCells, .ref aPrices, .ref aFree, .ref aPlaces, .ref aHomes, .ref aManners, .ref aGone, .ref aPaid, .ref aBlinks])), (y, .inr (9, [.int 0, .int 0, .ref y_lane, .ref y_many, .ref y_item, .ref y_city, .ref y_fresh, .int 0, .ref y_tape, .int 0, .int 0, .int 0, .int 0, .int 0, .int 0, .int 0, .int 0, .int 0, .int 0, .int 0, .ref y_cost, .ref y_away, .ref y_fee, .ref y_goesTo, .ref y_priceWas, .ref y_isKept, .ref y_kept, .ref y_trace, .int 0])), (y_lane, .inl (cI, 8, .inl la)), (y_city, .inl (cI, 192, .inl (fun _ => 0)))]) (b_runV (q0 := 0) (ci := 8) (As := [.int 6]) (c_X8_count_6 l D cI cZ cC cS sq H.size x xs xt xc xd xr xi xv xw xh xm xa by_) S gL_law_X8_count rfl hdV_X8_count ⟨Nat.le_of_ble_eq_true rfl, Nat.le_of_ble_eq_true rfl⟩ ⟨Nat.le_of_ble_eq_true rfl, Nat.le_of_ble_eq_true rfl⟩ hK hP hD rfl rfl [0, 10] rfl (by decide) rfl hl.1 rfl (Nat.le_of_ble_eq_true rfl) dL_law_1004) hP hD hS hA [0, 10] [1, 2, 3, 4, 5, 6, 7, 8, 9, 11, 12, 13, 14] rfl rfl (by decide) (by decide) (fun r_2 w_3 H locs hw_4 hP hD hS => ?_)
    obtain ⟨rfl, rfl⟩ := hw_4
    have hP : va_P D vwCl [(xs, .inl (cS, 8, .inr (.inr (.inr (.inr gs))))), (sh0, .inr (4, [.int (-1), .int 0, .ref it0])), (sh1, .inr (4, [.int (-1), .int 0, .ref it1])), (sh2, .inr (4, [.int (-1), .int 0, .ref it2])), (sh3, .inr (4, [.int (-1), .int 0, .ref it3])), (sh4, .inr (4, [.int (-1), .int 0, .ref it4])), (sh5, .inr (4, [.int (-1), .int 0, .ref it5])), (sh6, .inr (4, [.int (-1), .int 0, .ref it6])), (sh7, .inr (4, [.int (-1), .int 0, .ref it7])), (xc, .inr (1, [.int 0, .int 0, .int 0, .ref aCells, .ref aPrices, .ref aFree, .ref aPlaces, .ref aHomes, .ref aManners, .ref aGone, .ref aPaid, .ref aBlinks])), (y, .inr (9, [.int 0, .int 0, .ref y_lane, .ref y_many, .ref y_item, .ref y_city, .ref y_fresh, .int 0, .ref y_tape, .int 0, .int 0, .int 0, .int 0, .int 0, .int 0, .int 0, .int 0, .int 0, .int 0, .int 0, .ref y_cost, .ref y_away, .ref y_fee, .ref y_goesTo, .ref y_priceWas, .ref y_isKept, .ref y_kept, .ref y_trace, .int 0])), (y_lane, .inl (cI, 8, .inl la)), (y_city, .inl (cI, 192, .inl (fun _ => 0)))] H := hP
    have hD : va_D A [(xs, .inl (cS, 8, .inr (.inr (.inr (.inr gs))))), (sh0, .inr (4, [.int (-1), .int 0, .ref it0])), (sh1, .inr (4, [.int (-1), .int 0, .ref it1])), (sh2, .inr (4, [.int (-1), .int 0, .ref it2])), (sh3, .inr (4, [.int (-1), .int 0, .ref it3])), (sh4, .inr (4, [.int (-1), .int 0, .ref it4])), (sh5, .inr (4, [.int (-1), .int 0, .ref it5])), (sh6, .inr (4, [.int (-1), .int 0, .ref it6])), (sh7, .inr (4, [.int (-1), .int 0, .ref it7])), (xc, .inr (1, [.int 0, .int 0, .int 0, .ref aCells, .ref aPrices, .ref aFree, .ref aPlaces, .ref aHomes, .ref aManners, .ref aGone, .ref aPaid, .ref aBlinks])), (y, .inr (9, [.int 0, .int 0, .ref y_lane, .ref y_many, .ref y_item, .ref y_city, .ref y_fresh, .int 0, .ref y_tape, .int 0, .int 0, .int 0, .int 0, .int 0, .int 0, .int 0, .int 0, .int 0, .int 0, .int 0, .ref y_cost, .ref y_away, .ref y_fee, .ref y_goesTo, .ref y_priceWas, .ref y_isKept, .ref y_kept, .ref y_trace, .int 0])), (y_lane, .inl (cI, 8, .inl la)), (y_city, .inl (cI, 192, .inl (fun _ => 0)))] := hD
    refine lv_aload_n S.1 S.2.1 dL_law_1007 rfl (lv_at hl 1 rfl) ?_
    refine lv_aload_n S.1 S.2.1 dL_law_1008 rfl (lv_at hl 3 rfl) ?_
    refine lv_iload_n S.1 S.2.1 dL_law_1009 rfl (lv_at hl 0 rfl) ?_
    refine lv_iconst (v := 1) S.1 S.2.1 dL_law_1010 (by decide) ?_
    refine lv_iadd S.1 S.2.1 dL_law_1011 ?_
    refine lv_topi (fun x_5 ex_5 => ?_)
    have ex_5 : x_5 = 1 := by rw [ex_5]; decide
    subst ex_5
    refine va_sld S.1 S.2.1 hX hbl hbA hS (by unfold vp_in; decide) dL_law_1012 ?_
    refine W.eq (g2 := F0 m 1013 ls [.int (sc 1), .ref y, .int 0]) rfl ?_
    rw [h3]
    refine b_ai (wr := [(xs, .inl (cS, 8, .inr (.inr (.inr (.inr gs))))), (sh0, .inr (4, [.int (-1), .int 0, .ref it0])), (sh1, .inr (4, [.int (-1), .int 0, .ref it1])), (sh2, .inr (4, [.int (-1), .int 0, .ref it2])), (sh3, .inr (4, [.int (-1), .int 0, .ref it3])), (sh4, .inr (4, [.int (-1), .int 0, .ref it4])), (sh5, .inr (4, [.int (-1), .int 0, .ref it5])), (sh6, .inr (4, [.int (-1), .int 0, .ref it6])), (sh7, .inr (4, [.int (-1), .int 0, .ref it7])), (xc, .inr (1, [.int 0, .int 0, .int 0, .ref aCells, .ref aPrices, .ref aFree, .ref aPlaces, .ref aHomes, .ref aManners, .ref aGone, .ref aPaid, .ref aBlinks])), (y_lane, .inl (cI, 8, .inl la)), (y_city, .inl (cI, 192, .inl (fun _ => 0)))]) (b_runV (q0 := 10) (ci := 9) (As := [.int 6]) (c_X9_count_6 l D cI cZ cC cS sq H.size y y_lane y_many y_item y_city y_fresh y_tape y_cost y_away y_fee y_goesTo y_priceWas y_isKept y_kept y_trace) S gL_law_X9_count rfl hdV_X9_count ⟨Nat.le_of_ble_eq_true rfl, Nat.le_of_ble_eq_true rfl⟩ ⟨Nat.le_of_ble_eq_true rfl, Nat.le_of_ble_eq_true rfl⟩ hK hP hD rfl rfl [10] rfl (by decide) rfl hl.1 rfl (Nat.le_of_ble_eq_true rfl) dL_law_1013) hP hD hS hA [10] [0, 1, 2, 3, 4, 5, 6, 7, 8, 9, 11, 12] rfl rfl (by decide) (by decide) (fun r_6 w_7 H locs hw_8 hP hD hS => ?_)
    obtain ⟨rfl, rfl⟩ := hw_8
    have hP : va_P D vwCl [(xs, .inl (cS, 8, .inr (.inr (.inr (.inr gs))))), (sh0, .inr (4, [.int (-1), .int 0, .ref it0])), (sh1, .inr (4, [.int (-1), .int 0, .ref it1])), (sh2, .inr (4, [.int (-1), .int 0, .ref it2])), (sh3, .inr (4, [.int (-1), .int 0, .ref it3])), (sh4, .inr (4, [.int (-1), .int 0, .ref it4])), (sh5, .inr (4, [.int (-1), .int 0, .ref it5])), (sh6, .inr (4, [.int (-1), .int 0, .ref it6])), (sh7, .inr (4, [.int (-1), .int 0, .ref it7])), (xc, .inr (1, [.int 0, .int 0, .int 0, .ref aCells, .ref aPrices, .ref aFree, .ref aPlaces, .ref aHomes, .ref aManners, .ref aGone, .ref aPaid, .ref aBlinks])), (y_lane, .inl (cI, 8, .inl la)), (y_city, .inl (cI, 192, .inl (fun _ => 0)))] H := hP
    have hD : va_D A [(xs, .inl (cS, 8, .inr (.inr (.inr (.inr gs))))), (sh0, .inr (4, [.int (-1), .int 0, .ref it0])), (sh1, .inr (4, [.int (-1), .int 0, .ref it1])), (sh2, .inr (4, [.int (-1), .int 0, .ref it2])), (sh3, .inr (4, [.int (-1), .int 0, .ref it3])), (sh4, .inr (4, [.int (-1), .int 0, .ref it4])), (sh5, .inr (4, [.int (-1), .int 0, .ref it5])), (sh6, .inr (4, [.int (-1), .int 0, .ref it6])), (sh7, .inr (4, [.int (-1), .int 0, .ref it7])), (xc, .inr (1, [.int 0, .int 0, .int 0, .ref aCells, .ref aPrices, .ref aFree, .ref aPlaces, .ref aHomes, .ref aManners, .ref aGone, .ref aPaid, .ref aBlinks])), (y_lane, .inl (cI, 8, .inl la)), (y_city, .inl (cI, 192, .inl (fun _ => 0)))] := hD
    refine lv_icmp_eq (tgt := 1034) S.1 S.2.1 dL_law_1016 (by decide) (fun c_9 => ?_) (fun c_9 => absurd c_9 (by decide))
    exact law_tail C hS (lv_sub hl [0, 3] rfl) (by decide) (by decide)
set_option maxHeartbeats 4000000 in
set_option maxRecDepth 100000 in
theorem law_sheet {p : Program} (l : Launch) {e : Env} {s : State} {m : MethodId} {below : List Frame} {meth : Method} {c : Code} (D : va_G) (cI cZ cC cS : ClassId) (sq : Nat) {b : Nat} {sc : Nat → Int32} {A : Nat → Prop} (C : lC p s m meth c b sc A) (hK : kW D (tyW cI cZ cC cS) sq s) (x : Nat) (xs : Nat) (xt : Nat) (xc : Nat) (xd : Nat) (xr : Nat) (xi : Nat) (xv : Nat) (xw : Nat) (xh : Nat) (xm : Nat) (xa : Nat) (y : Nat) (y_lane : Nat) (y_many : Nat) (y_item : Nat) (y_city : Nat) (y_fresh : Nat) (y_tape : Nat) (y_cost : Nat) (y_away : Nat) (y_fee : Nat) (y_goesTo : Nat) (y_priceWas : Nat) (y_isKept : Nat) (y_kept : Nat) (y_trace : Nat) (gs : Nat → Option Nat) (sh0 : Nat) (it0 : Nat) (sh1 : Nat) (it1 : Nat) (sh2 : Nat) (it2 : Nat) (sh3 : Nat) (it3 : Nat) (sh4 : Nat) (it4 : Nat) (sh5 : Nat) (it5 : Nat) (sh6 : Nat) (it6 : Nat) (sh7 : Nat) (it7 : Nat) (la : Nat → Int32) (hg0 : gs 0 = some sh0) (hg1 : gs 1 = some sh1) (hg2 : gs 2 = some sh2) (hg3 : gs 3 = some sh3) (hg4 : gs 4 = some sh4) (hg5 : gs 5 = some sh5) (hg6 : gs 6 = some sh6) (hg7 : gs 7 = some sh7) (hla : ∀ j, j < 8 → la j = -1) {H : Heap} {locs : List Loc} {ls : Array Slot} (hP : va_P D vwCl [(x, .inr (8, [.ref xs, .ref xt, .ref xc, .ref xd, .ref xr, .ref xi, .ref xv, .ref xw, .ref xh, .ref xm, .ref xa, .int 0, .int 0])), (xs, .inl (cS, 8, .inr (.inr (.inr (.inr gs))))), (sh0, .inr (4, [.int (-1), .int 0, .ref it0])), (it0, .inl (cI, 40, .inl (fun _ => 0))), (sh1, .inr (4, [.int (-1), .int 0, .ref it1])), (it1, .inl (cI, 40, .inl (fun _ => 0))), (sh2, .inr (4, [.int (-1), .int 0, .ref it2])), (it2, .inl (cI, 40, .inl (fun _ => 0))), (sh3, .inr (4, [.int (-1), .int 0, .ref it3])), (it3, .inl (cI, 40, .inl (fun _ => 0))), (sh4, .inr (4, [.int (-1), .int 0, .ref it4])), (it4, .inl (cI, 40, .inl (fun _ => 0))), (sh5, .inr (4, [.int (-1), .int 0, .ref it5])), (it5, .inl (cI, 40, .inl (fun _ => 0))), (sh6, .inr (4, [.int (-1), .int 0, .ref it6])), (it6, .inl (cI, 40, .inl (fun _ => 0))), (sh7, .inr (4, [.int (-1), .int 0, .ref it7])), (it7, .inl (cI, 40, .inl (fun _ => 0))), (y, .inr (9, [.int 0, .int 0, .ref y_lane, .ref y_many, .ref y_item, .ref y_city, .ref y_fresh, .int 0, .ref y_tape, .int 0, .int 0, .int 0, .int 0, .int 0, .int 0, .int 0, .int 0, .int 0, .int 0, .int 0, .ref y_cost, .ref y_away, .ref y_fee, .ref y_goesTo, .ref y_priceWas, .ref y_isKept, .ref y_kept, .ref y_trace, .int 0])), (y_lane, .inl (cI, 8, .inl la)), (y_many, .inl (cI, 8, .inl (fun _ => 0))), (y_item, .inl (cI, 320, .inl (fun _ => 0)))] H) (hD : va_D A [(x, .inr (8, [.ref xs, .ref xt, .ref xc, .ref xd, .ref xr, .ref xi, .ref xv, .ref xw, .ref xh, .ref xm, .ref xa, .int 0, .int 0])), (xs, .inl (cS, 8, .inr (.inr (.inr (.inr gs))))), (sh0, .inr (4, [.int (-1), .int 0, .ref it0])), (it0, .inl (cI, 40, .inl (fun _ => 0))), (sh1, .inr (4, [.int (-1), .int 0, .ref it1])), (it1, .inl (cI, 40, .inl (fun _ => 0))), (sh2, .inr (4, [.int (-1), .int 0, .ref it2])), (it2, .inl (cI, 40, .inl (fun _ => 0))), (sh3, .inr (4, [.int (-1), .int 0, .ref it3])), (it3, .inl (cI, 40, .inl (fun _ => 0))), (sh4, .inr (4, [.int (-1), .int 0, .ref it4])), (it4, .inl (cI, 40, .inl (fun _ => 0))), (sh5, .inr (4, [.int (-1), .int 0, .ref it5])), (it5, .inl (cI, 40, .inl (fun _ => 0))), (sh6, .inr (4, [.int (-1), .int 0, .ref it6])), (it6, .inl (cI, 40, .inl (fun _ => 0))), (sh7, .inr (4, [.int (-1), .int 0, .ref it7])), (it7, .inl (cI, 40, .inl (fun _ => 0))), (y, .inr (9, [.int 0, .int 0, .ref y_lane, .ref y_many, .ref y_item, .ref y_city, .ref y_fresh, .int 0, .ref y_tape, .int 0, .int 0, .int 0, .int 0, .int 0, .int 0, .int 0, .int 0, .int 0, .int 0, .int 0, .ref y_cost, .ref y_away, .ref y_fee, .ref y_goesTo, .ref y_priceWas, .ref y_isKept, .ref y_kept, .ref y_trace, .int 0])), (y_lane, .inl (cI, 8, .inl la)), (y_many, .inl (cI, 8, .inl (fun _ => 0))), (y_item, .inl (cI, 320, .inl (fun _ => 0)))]) (hS : va_S A s.heap H locs) (hl : lv_has ls 4 [(3, .int 0), (2, .ref y), (1, .ref x), (0, .ref b)]) : W p l e room_1 s m #[Value.ref b] below meth c H locs 98 12032 (lw_Z below #[Value.ref b] s) (F0 m 160 ls []) := by
  obtain ⟨S, hr_, hk_, hX, hbl, hA, hAf⟩ := id C
  have hbA : ¬ A b := fun z => absurd (hAf b z) (Nat.not_le.mpr hbl)
  rcases (show ((sc 1).toInt < 0 ∨ 7 < (sc 1).toInt) ∨ ((0 ≤ (sc 1).toInt ∧ (sc 1).toInt ≤ 7) ∧ ((sc 2).toInt < 0 ∨ 2 < (sc 2).toInt)) ∨ ((0 ≤ (sc 1).toInt ∧ (sc 1).toInt ≤ 7) ∧ (0 ≤ (sc 2).toInt ∧ (sc 2).toInt ≤ 2) ∧ 40 < (sc 3).toInt) ∨ ((0 ≤ (sc 1).toInt ∧ (sc 1).toInt ≤ 7) ∧ (0 ≤ (sc 2).toInt ∧ (sc 2).toInt ≤ 2) ∧ (sc 3).toInt < 0) ∨ ((0 ≤ (sc 1).toInt ∧ (sc 1).toInt ≤ 7) ∧ (0 ≤ (sc 2).toInt ∧ (sc 2).toInt ≤ 2) ∧ (0 ≤ (sc 3).toInt ∧ (sc 3).toInt ≤ 40)) by omega) with hr | ⟨hr, hl2⟩ | ⟨hr, hl2, hn⟩ | ⟨hr, hl2, hn⟩ | ⟨hr, hl2, hn⟩
  · refine lv_aload_n S.1 S.2.1 dL_law_160 rfl (lv_at hl 2 rfl) ?_
    refine lv_aload_n S.1 S.2.1 dL_law_161 rfl (lv_at hl 3 rfl) ?_
    refine lv_iload_n S.1 S.2.1 dL_law_162 rfl (lv_at hl 0 rfl) ?_
    refine lv_iconst (v := 1) S.1 S.2.1 dL_law_163 (by decide) ?_
    refine lv_iadd S.1 S.2.1 dL_law_164 ?_
    refine lv_topi (fun x_1 ex_1 => ?_)
    have ex_1 : x_1 = 1 := by rw [ex_1]; decide
    subst ex_1
    refine va_sld S.1 S.2.1 hX hbl hbA hS (by unfold vp_in; decide) dL_law_165 ?_
    refine W.eq (g2 := F0 m 166 ls [.int (sc 1), .ref x]) rfl ?_
    refine lv_aload_n S.1 S.2.1 dL_law_166 rfl (lv_at hl 3 rfl) ?_
    refine lv_iload_n S.1 S.2.1 dL_law_167 rfl (lv_at hl 0 rfl) ?_
    refine lv_iconst (v := 2) S.1 S.2.1 dL_law_168 (by decide) ?_
    refine lv_iadd S.1 S.2.1 dL_law_169 ?_
    refine lv_topi (fun x_2 ex_2 => ?_)
    have ex_2 : x_2 = 2 := by rw [ex_2]; decide
    subst ex_2
    refine va_sld S.1 S.2.1 hX hbl hbA hS (by unfold vp_in; decide) dL_law_170 ?_
    refine W.eq (g2 := F0 m 171 ls [.int (sc 2), .int (sc 1), .ref x]) rfl ?_
    refine lv_aload_n S.1 S.2.1 dL_law_171 rfl (lv_at hl 3 rfl) ?_
    refine lv_iload_n S.1 S.2.1 dL_law_172 rfl (lv_at hl 0 rfl) ?_
    refine lv_iconst (v := 3) S.1 S.2.1 dL_law_173 (by decide) ?_
    refine lv_iadd S.1 S.2.1 dL_law_174 ?_
    refine lv_topi (fun x_3 ex_3 => ?_)
    have ex_3 : x_3 = 3 := by rw [ex_3]; decide
    subst ex_3
    refine va_sld S.1 S.2.1 hX hbl hbA hS (by unfold vp_in; decide) dL_law_175 ?_
    refine W.eq (g2 := F0 m 176 ls [.int (sc 3), .int (sc 2), .int (sc 1), .ref x]) rfl ?_
    refine b_ai (wr := [(xs, .inl (cS, 8, .inr (.inr (.inr (.inr gs))))), (sh0, .inr (4, [.int (-1), .int 0, .ref it0])), (it0, .inl (cI, 40, .inl (fun _ => 0))), (sh1, .inr (4, [.int (-1), .int 0, .ref it1])), (it1, .inl (cI, 40, .inl (fun _ => 0))), (sh2, .inr (4, [.int (-1), .int 0, .ref it2])), (it2, .inl (cI, 40, .inl (fun _ => 0))), (sh3, .inr (4, [.int (-1), .int 0, .ref it3])), (it3, .inl (cI, 40, .inl (fun _ => 0))), (sh4, .inr (4, [.int (-1), .int 0, .ref it4])), (it4, .inl (cI, 40, .inl (fun _ => 0))), (sh5, .inr (4, [.int (-1), .int 0, .ref it5])), (it5, .inl (cI, 40, .inl (fun _ => 0))), (sh6, .inr (4, [.int (-1), .int 0, .ref it6])), (it6, .inl (cI, 40, .inl (fun _ => 0))), (sh7, .inr (4, [.int (-1), .int 0, .ref it7])), (it7, .inl (cI, 40, .inl (fun _ => 0))), (y, .inr (9, [.int 0, .int 0, .ref y_lane, .ref y_many, .ref y_item, .ref y_city, .ref y_fresh, .int 0, .ref y_tape, .int 0, .int 0, .int 0, .int 0, .int 0, .int 0, .int 0, .int 0, .int 0, .int 0, .int 0, .ref y_cost, .ref y_away, .ref y_fee, .ref y_goesTo, .ref y_priceWas, .ref y_isKept, .ref y_kept, .ref y_trace, .int 0])), (y_lane, .inl (cI, 8, .inl la)), (y_many, .inl (cI, 8, .inl (fun _ => 0))), (y_item, .inl (cI, 320, .inl (fun _ => 0)))]) (b_runV (q0 := 0) (ci := 8) (As := [.int (sc 1), .int (sc 2), .int (sc 3)]) (c_X8_sheet_a l D cI cZ cC cS sq H.size x xs xt xc xd xr xi xv xw xh xm xa (sc 1) (sc 2) (sc 3) (by assumption)) S gL_law_X8_sheet rfl hdV_X8_sheet ⟨Nat.le_of_ble_eq_true rfl, Nat.le_of_ble_eq_true rfl⟩ ⟨Nat.le_of_ble_eq_true rfl, Nat.le_of_ble_eq_true rfl⟩ hK hP hD rfl rfl [0] rfl (by decide) rfl hl.1 rfl (Nat.le_of_ble_eq_true rfl) dL_law_176) hP hD hS hA [0] [1, 2, 3, 4, 5, 6, 7, 8, 9, 10, 11, 12, 13, 14, 15, 16, 17, 18, 19, 20, 21] rfl rfl (by decide) (by decide) (fun r_4 w_5 H locs hw_6 hP hD hS => ?_)
    obtain ⟨rfl, rfl⟩ := hw_6
    have hP : va_P D vwCl [(xs, .inl (cS, 8, .inr (.inr (.inr (.inr gs))))), (sh0, .inr (4, [.int (-1), .int 0, .ref it0])), (it0, .inl (cI, 40, .inl (fun _ => 0))), (sh1, .inr (4, [.int (-1), .int 0, .ref it1])), (it1, .inl (cI, 40, .inl (fun _ => 0))), (sh2, .inr (4, [.int (-1), .int 0, .ref it2])), (it2, .inl (cI, 40, .inl (fun _ => 0))), (sh3, .inr (4, [.int (-1), .int 0, .ref it3])), (it3, .inl (cI, 40, .inl (fun _ => 0))), (sh4, .inr (4, [.int (-1), .int 0, .ref it4])), (it4, .inl (cI, 40, .inl (fun _ => 0))), (sh5, .inr (4, [.int (-1), .int 0, .ref it5])), (it5, .inl (cI, 40, .inl (fun _ => 0))), (sh6, .inr (4, [.int (-1), .int 0, .ref it6])), (it6, .inl (cI, 40, .inl (fun _ => 0))), (sh7, .inr (4, [.int (-1), .int 0, .ref it7])), (it7, .inl (cI, 40, .inl (fun _ => 0))), (y, .inr (9, [.int 0, .int 0, .ref y_lane, .ref y_many, .ref y_item, .ref y_city, .ref y_fresh, .int 0, .ref y_tape, .int 0, .int 0, .int 0, .int 0, .int 0, .int 0, .int 0, .int 0, .int 0, .int 0, .int 0, .ref y_cost, .ref y_away, .ref y_fee, .ref y_goesTo, .ref y_priceWas, .ref y_isKept, .ref y_kept, .ref y_trace, .int 0])), (y_lane, .inl (cI, 8, .inl la)), (y_many, .inl (cI, 8, .inl (fun _ => 0))), (y_item, .inl (cI, 320, .inl (fun _ => 0))), (x, .inr (8, [.ref xs, .ref xt, .ref xc, .ref xd, .ref xr, .ref xi, .ref xv, .ref xw, .ref xh, .ref xm, .ref xa, .int 0, .int 0]))] H := hP
    have hD : va_D A [(xs, .inl (cS, 8, .inr (.inr (.inr (.inr gs))))), (sh0, .inr (4, [.int (-1), .int 0, .ref it0])), (it0, .inl (cI, 40, .inl (fun _ => 0))), (sh1, .inr (4, [.int (-1), .int 0, .ref it1])), (it1, .inl (cI, 40, .inl (fun _ => 0))), (sh2, .inr (4, [.int (-1), .int 0, .ref it2])), (it2, .inl (cI, 40, .inl (fun _ => 0))), (sh3, .inr (4, [.int (-1), .int 0, .ref it3])), (it3, .inl (cI, 40, .inl (fun _ => 0))), (sh4, .inr (4, [.int (-1), .int 0, .ref it4])), (it4, .inl (cI, 40, .inl (fun _ => 0))), (sh5, .inr (4, [.int (-1), .int 0, .ref it5])), (it5, .inl (cI, 40, .inl (fun _ => 0))), (sh6, .inr (4, [.int (-1), .int 0, .ref it6])), (it6, .inl (cI, 40, .inl (fun _ => 0))), (sh7, .inr (4, [.int (-1), .int 0, .ref it7])), (it7, .inl (cI, 40, .inl (fun _ => 0))), (y, .inr (9, [.int 0, .int 0, .ref y_lane, .ref y_many, .ref y_item, .ref y_city, .ref y_fresh, .int 0, .ref y_tape, .int 0, .int 0, .int 0, .int 0, .int 0, .int 0, .int 0, .int 0, .int 0, .int 0, .int 0, .ref y_cost, .ref y_away, .ref y_fee, .ref y_goesTo, .ref y_priceWas, .ref y_isKept, .ref y_kept, .ref y_trace, .int 0])), (y_lane, .inl (cI, 8, .inl la)), (y_many, .inl (cI, 8, .inl (fun _ => 0))), (y_item, .inl (cI, 320, .inl (fun _ => 0))), (x, .inr (8, [.ref xs, .ref xt, .ref xc, .ref xd, .ref xr, .ref xi, .ref xv, .ref xw, .ref xh, .ref xm, .ref xa, .int 0, .int 0]))] := hD
    refine lv_aload_n S.1 S.2.1 dL_law_179 rfl (lv_at hl 1 rfl) ?_
    refine lv_aload_n S.1 S.2.1 dL_law_180 rfl (lv_at hl 3 rfl) ?_
    refine lv_iload_n S.1 S.2.1 dL_law_181 rfl (lv_at hl 0 rfl) ?_
    refine lv_iconst (v := 1) S.1 S.2.1 dL_law_182 (by decide) ?_
    refine lv_iadd S.1 S.2.1 dL_law_183 ?_
    refine lv_topi (fun x_7 ex_7 => ?_)
    have ex_7 : x_7 = 1 := by rw [ex_7]; decide
    subst ex_7
    refine va_sld S.1 S.2.1 hX hbl hbA hS (by unfold vp_in; decide) dL_law_184 ?_
    refine W.eq (g2 := F0 m 185 ls [.int (sc 1), .ref y, .int (-1000001)]) rfl ?_
    refine lv_aload_n S.1 S.2.1 dL_law_185 rfl (lv_at hl 3 rfl) ?_
    refine lv_iload_n S.1 S.2.1 dL_law_186 rfl (lv_at hl 0 rfl) ?_
    refine lv_iconst (v := 2) S.1 S.2.1 dL_law_187 (by decide) ?_
    refine lv_iadd S.1 S.2.1 dL_law_188 ?_
    refine lv_topi (fun x_8 ex_8 => ?_)
    have ex_8 : x_8 = 2 := by rw [ex_8]; decide
    subst ex_8
    refine va_sld S.1 S.2.1 hX hbl hbA hS (by unfold vp_in; decide) dL_law_189 ?_
    refine W.eq (g2 := F0 m 190 ls [.int (sc 2), .int (sc 1), .ref y, .int (-1000001)]) rfl ?_
    refine lv_aload_n S.1 S.2.1 dL_law_190 rfl (lv_at hl 3 rfl) ?_
    refine lv_iload_n S.1 S.2.1 dL_law_191 rfl (lv_at hl 0 rfl) ?_
    refine lv_iconst (v := 3) S.1 S.2.1 dL_law_192 (by decide) ?_
    refine lv_iadd S.1 S.2.1 dL_law_193 ?_
    refine lv_topi (fun x_9 ex_9 => ?_)
    have ex_9 : x_9 = 3 := by rw [ex_9]; decide
    subst ex_9
    refine va_sld S.1 S.2.1 hX hbl hbA hS (by unfold vp_in; decide) dL_law_194 ?_
    refine W.eq (g2 := F0 m 195 ls [.int (sc 3), .int (sc 2), .int (sc 1), .ref y, .int (-1000001)]) rfl ?_
    refine b_ai (wr := [(xs, .inl (cS, 8, .inr (.inr (.inr (.inr gs))))), (sh0, .inr (4, [.int (-1), .int 0, .ref it0])), (it0, .inl (cI, 40, .inl (fun _ => 0))), (sh1, .inr (4, [.int (-1), .int 0, .ref it1])), (it1, .inl (cI, 40, .inl (fun _ => 0))), (sh2, .inr (4, [.int (-1), .int 0, .ref it2])), (it2, .inl (cI, 40, .inl (fun _ => 0))), (sh3, .inr (4, [.int (-1), .int 0, .ref it3])), (it3, .inl (cI, 40, .inl (fun _ => 0))), (sh4, .inr (4, [.int (-1), .int 0, .ref it4])), (it4, .inl (cI, 40, .inl (fun _ => 0))), (sh5, .inr (4, [.int (-1), .int 0, .ref it5])), (it5, .inl (cI, 40, .inl (fun _ => 0))), (sh6, .inr (4, [.int (-1), .int 0, .ref it6])), (it6, .inl (cI, 40, .inl (fun _ => 0))), (sh7, .inr (4, [.int (-1), .int 0, .ref it7])), (it7, .inl (cI, 40, .inl (fun _ => 0))), (y_lane, .inl (cI, 8, .inl la)), (y_many, .inl (cI, 8, .inl (fun _ => 0))), (y_item, .inl (cI, 320, .inl (fun _ => 0))), (x, .inr (8, [.ref xs, .ref xt, .ref xc, .ref xd, .ref xr, .ref xi, .ref xv, .ref xw, .ref xh, .ref xm, .ref xa, .int 0, .int 0]))]) (b_runV (q0 := 17) (ci := 9) (As := [.int (sc 1), .int (sc 2), .int (sc 3)]) (c_X9_sheet_a l D cI cZ cC cS sq H.size y y_lane y_many y_item y_city y_fresh y_tape y_cost y_away y_fee y_goesTo y_priceWas y_isKept y_kept y_trace (sc 1) (sc 2) (sc 3) (by assumption)) S gL_law_X9_sheet rfl hdV_X9_sheet ⟨Nat.le_of_ble_eq_true rfl, Nat.le_of_ble_eq_true rfl⟩ ⟨Nat.le_of_ble_eq_true rfl, Nat.le_of_ble_eq_true rfl⟩ hK hP hD rfl rfl [17] rfl (by decide) rfl hl.1 rfl (Nat.le_of_ble_eq_true rfl) dL_law_195) hP hD hS hA [17] [0, 1, 2, 3, 4, 5, 6, 7, 8, 9, 10, 11, 12, 13, 14, 15, 16, 18, 19, 20, 21] rfl rfl (by decide) (by decide) (fun r_10 w_11 H locs hw_12 hP hD hS => ?_)
    obtain ⟨rfl, rfl⟩ := hw_12
    have hP : va_P D vwCl [(xs, .inl (cS, 8, .inr (.inr (.inr (.inr gs))))), (sh0, .inr (4, [.int (-1), .int 0, .ref it0])), (it0, .inl (cI, 40, .inl (fun _ => 0))), (sh1, .inr (4, [.int (-1), .int 0, .ref it1])), (it1, .inl (cI, 40, .inl (fun _ => 0))), (sh2, .inr (4, [.int (-1), .int 0, .ref it2])), (it2, .inl (cI, 40, .inl (fun _ => 0))), (sh3, .inr (4, [.int (-1), .int 0, .ref it3])), (it3, .inl (cI, 40, .inl (fun _ => 0))), (sh4, .inr (4, [.int (-1), .int 0, .ref it4])), (it4, .inl (cI, 40, .inl (fun _ => 0))), (sh5, .inr (4, [.int (-1), .int 0, .ref it5])), (it5, .inl (cI, 40, .inl (fun _ => 0))), (sh6, .inr (4, [.int (-1), .int 0, .ref it6])), (it6, .inl (cI, 40, .inl (fun _ => 0))), (sh7, .inr (4, [.int (-1), .int 0, .ref it7])), (it7, .inl (cI, 40, .inl (fun _ => 0))), (y_lane, .inl (cI, 8, .inl la)), (y_many, .inl (cI, 8, .inl (fun _ => 0))), (y_item, .inl (cI, 320, .inl (fun _ => 0))), (x, .inr (8, [.ref xs, .ref xt, .ref xc, .ref xd, .ref xr, .ref xi, .ref xv, .ref xw, .ref xh, .ref xm, .ref xa, .int 0, .int 0]))] H := hP
    have hD : va_D A [(xs, .inl (cS, 8, .inr (.inr (.inr (.inr gs))))), (sh0, .inr (4, [.int (-1), .int 0, .ref it0])), (it0, .inl (cI, 40, .inl (fun _ => 0))), (sh1, .inr (4, [.int (-1), .int 0, .ref it1])), (it1, .inl (cI, 40, .inl (fun _ => 0))), (sh2, .inr (4, [.int (-1), .int 0, .ref it2])), (it2, .inl (cI, 40, .inl (fun _ => 0))), (sh3, .inr (4, [.int (-1), .int 0, .ref it3])), (it3, .inl (cI, 40, .inl (fun _ => 0))), (sh4, .inr (4, [.int (-1), .int 0, .ref it4])), (it4, .inl (cI, 40, .inl (fun _ => 0))), (sh5, .inr (4, [.int (-1), .int 0, .ref it5])), (it5, .inl (cI, 40, .inl (fun _ => 0))), (sh6, .inr (4, [.int (-1), .int 0, .ref it6])), (it6, .inl (cI, 40, .inl (fun _ => 0))), (sh7, .inr (4, [.int (-1), .int 0, .ref it7])), (it7, .inl (cI, 40, .inl (fun _ => 0))), (y_lane, .inl (cI, 8, .inl la)), (y_many, .inl (cI, 8, .inl (fun _ => 0))), (y_item, .inl (cI, 320, .inl (fun _ => 0))), (x, .inr (8, [.ref xs, .ref xt, .ref xc, .ref xd, .ref xr, .ref xi, .ref xv, .ref xw, .ref xh, .ref xm, .ref xa, .int 0, .int 0]))] := hD
    refine lv_icmp_eq (tgt := 1034) S.1 S.2.1 dL_law_198 (by decide) (fun c_13 => ?_) (fun c_13 => absurd c_13 (by decide))
    exact law_tail C hS (lv_sub hl [0, 3] rfl) (by decide) (by decide)
  · refine lv_aload_n S.1 S.2.1 dL_law_160 rfl (lv_at hl 2 rfl) ?_
    refine lv_aload_n S.1 S.2.1 dL_law_161 rfl (lv_at hl 3 rfl) ?_
    refine lv_iload_n S.1 S.2.1 dL_law_162 rfl (lv_at hl 0 rfl) ?_
    refine lv_iconst (v := 1) S.1 S.2.1 dL_law_163 (by decide) ?_
    refine lv_iadd S.1 S.2.1 dL_law_164 ?_
    refine lv_topi (fun x_1 ex_1 => ?_)
    have ex_1 : x_1 = 1 := by rw [ex_1]; decide
    subst ex_1
    refine va_sld S.1 S.2.1 hX hbl hbA hS (by unfold vp_in; decide) dL_law_165 ?_
    refine W.eq (g2 := F0 m 166 ls [.int (sc 1), .ref x]) rfl ?_
    refine lv_aload_n S.1 S.2.1 dL_law_166 rfl (lv_at hl 3 rfl) ?_
    refine lv_iload_n S.1 S.2.1 dL_law_167 rfl (lv_at hl 0 rfl) ?_
    refine lv_iconst (v := 2) S.1 S.2.1 dL_law_168 (by decide) ?_
    refine lv_iadd S.1 S.2.1 dL_law_169 ?_
    refine lv_topi (fun x_2 ex_2 => ?_)
    have ex_2 : x_2 = 2 := by rw [ex_2]; decide
    subst ex_2
    refine va_sld S.1 S.2.1 hX hbl hbA hS (by unfold vp_in; decide) dL_law_170 ?_
    refine W.eq (g2 := F0 m 171 ls [.int (sc 2), .int (sc 1), .ref x]) rfl ?_
    refine lv_aload_n S.1 S.2.1 dL_law_171 rfl (lv_at hl 3 rfl) ?_
    refine lv_iload_n S.1 S.2.1 dL_law_172 rfl (lv_at hl 0 rfl) ?_
    refine lv_iconst (v := 3) S.1 S.2.1 dL_law_173 (by decide) ?_
    refine lv_iadd S.1 S.2.1 dL_law_174 ?_
    refine lv_topi (fun x_3 ex_3 => ?_)
    have ex_3 : x_3 = 3 := by rw [ex_3]; decide
    subst ex_3
    refine va_sld S.1 S.2.1 hX hbl hbA hS (by unfold vp_in; decide) dL_law_175 ?_
    refine W.eq (g2 := F0 m 176 ls [.int (sc 3), .int (sc 2), .int (sc 1), .ref x]) rfl ?_
    refine b_ai (wr := [(xs, .inl (cS, 8, .inr (.inr (.inr (.inr gs))))), (sh0, .inr (4, [.int (-1), .int 0, .ref it0])), (it0, .inl (cI, 40, .inl (fun _ => 0))), (sh1, .inr (4, [.int (-1), .int 0, .ref it1])), (it1, .inl (cI, 40, .inl (fun _ => 0))), (sh2, .inr (4, [.int (-1), .int 0, .ref it2])), (it2, .inl (cI, 40, .inl (fun _ => 0))), (sh3, .inr (4, [.int (-1), .int 0, .ref it3])), (it3, .inl (cI, 40, .inl (fun _ => 0))), (sh4, .inr (4, [.int (-1), .int 0, .ref it4])), (it4, .inl (cI, 40, .inl (fun _ => 0))), (sh5, .inr (4, [.int (-1), .int 0, .ref it5])), (it5, .inl (cI, 40, .inl (fun _ => 0))), (sh6, .inr (4, [.int (-1), .int 0, .ref it6])), (it6, .inl (cI, 40, .inl (fun _ => 0))), (sh7, .inr (4, [.int (-1), .int 0, .ref it7])), (it7, .inl (cI, 40, .inl (fun _ => 0))), (y, .inr (9, [.int 0, .int 0, .ref y_lane, .ref y_many, .ref y_item, .ref y_city, .ref y_fresh, .int 0, .ref y_tape, .int 0, .int 0, .int 0, .int 0, .int 0, .int 0, .int 0, .int 0, .int 0, .int 0, .int 0, .ref y_cost, .ref y_away, .ref y_fee, .ref y_goesTo, .ref y_priceWas, .ref y_isKept, .ref y_kept, .ref y_trace, .int 0])), (y_lane, .inl (cI, 8, .inl la)), (y_many, .inl (cI, 8, .inl (fun _ => 0))), (y_item, .inl (cI, 320, .inl (fun _ => 0)))]) (b_runV (q0 := 0) (ci := 8) (As := [.int (sc 1), .int (sc 2), .int (sc 3)]) (c_X8_sheet_b l D cI cZ cC cS sq H.size x xs xt xc xd xr xi xv xw xh xm xa (sc 1) (sc 2) (sc 3) (by assumption) (by assumption)) S gL_law_X8_sheet rfl hdV_X8_sheet ⟨Nat.le_of_ble_eq_true rfl, Nat.le_of_ble_eq_true rfl⟩ ⟨Nat.le_of_ble_eq_true rfl, Nat.le_of_ble_eq_true rfl⟩ hK hP hD rfl rfl [0] rfl (by decide) rfl hl.1 rfl (Nat.le_of_ble_eq_true rfl) dL_law_176) hP hD hS hA [0] [1, 2, 3, 4, 5, 6, 7, 8, 9, 10, 11, 12, 13, 14, 15, 16, 17, 18, 19, 20, 21] rfl rfl (by decide) (by decide) (fun r_4 w_5 H locs hw_6 hP hD hS => ?_)
    obtain ⟨rfl, rfl⟩ := hw_6
    have hP : va_P D vwCl [(xs, .inl (cS, 8, .inr (.inr (.inr (.inr gs))))), (sh0, .inr (4, [.int (-1), .int 0, .ref it0])), (it0, .inl (cI, 40, .inl (fun _ => 0))), (sh1, .inr (4, [.int (-1), .int 0, .ref it1])), (it1, .inl (cI, 40, .inl (fun _ => 0))), (sh2, .inr (4, [.int (-1), .int 0, .ref it2])), (it2, .inl (cI, 40, .inl (fun _ => 0))), (sh3, .inr (4, [.int (-1), .int 0, .ref it3])), (it3, .inl (cI, 40, .inl (fun _ => 0))), (sh4, .inr (4, [.int (-1), .int 0, .ref it4])), (it4, .inl (cI, 40, .inl (fun _ => 0))), (sh5, .inr (4, [.int (-1), .int 0, .ref it5])), (it5, .inl (cI, 40, .inl (fun _ => 0))), (sh6, .inr (4, [.int (-1), .int 0, .ref it6])), (it6, .inl (cI, 40, .inl (fun _ => 0))), (sh7, .inr (4, [.int (-1), .int 0, .ref it7])), (it7, .inl (cI, 40, .inl (fun _ => 0))), (y, .inr (9, [.int 0, .int 0, .ref y_lane, .ref y_many, .ref y_item, .ref y_city, .ref y_fresh, .int 0, .ref y_tape, .int 0, .int 0, .int 0, .int 0, .int 0, .int 0, .int 0, .int 0, .int 0, .int 0, .int 0, .ref y_cost, .ref y_away, .ref y_fee, .ref y_goesTo, .ref y_priceWas, .ref y_isKept, .ref y_kept, .ref y_trace, .int 0])), (y_lane, .inl (cI, 8, .inl la)), (y_many, .inl (cI, 8, .inl (fun _ => 0))), (y_item, .inl (cI, 320, .inl (fun _ => 0))), (x, .inr (8, [.ref xs, .ref xt, .ref xc, .ref xd, .ref xr, .ref xi, .ref xv, .ref xw, .ref xh, .ref xm, .ref xa, .int 0, .int 0]))] H := hP
    have hD : va_D A [(xs, .inl (cS, 8, .inr (.inr (.inr (.inr gs))))), (sh0, .inr (4, [.int (-1), .int 0, .ref it0])), (it0, .inl (cI, 40, .inl (fun _ => 0))), (sh1, .inr (4, [.int (-1), .int 0, .ref it1])), (it1, .inl (cI, 40, .inl (fun _ => 0))), (sh2, .inr (4, [.int (-1), .int 0, .ref it2])), (it2, .inl (cI, 40, .inl (fun _ => 0))), (sh3, .inr (4, [.int (-1), .int 0, .ref it3])), (it3, .inl (cI, 40, .inl (fun _ => 0))), (sh4, .inr (4, [.int (-1), .int 0, .ref it4])), (it4, .inl (cI, 40, .inl (fun _ => 0))), (sh5, .inr (4, [.int (-1), .int 0, .ref it5])), (it5, .inl (cI, 40, .inl (fun _ => 0))), (sh6, .inr (4, [.int (-1), .int 0, .ref it6])), (it6, .inl (cI, 40, .inl (fun _ => 0))), (sh7, .inr (4, [.int (-1), .int 0, .ref it7])), (it7, .inl (cI, 40, .inl (fun _ => 0))), (y, .inr (9, [.int 0, .int 0, .ref y_lane, .ref y_many, .ref y_item, .ref y_city, .ref y_fresh, .int 0, .ref y_tape, .int 0, .int 0, .int 0, .int 0, .int 0, .int 0, .int 0, .int 0, .int 0, .int 0, .int 0, .ref y_cost, .ref y_away, .ref y_fee, .ref y_goesTo, .ref y_priceWas, .ref y_isKept, .ref y_kept, .ref y_trace, .int 0])), (y_lane, .inl (cI, 8, .inl la)), (y_many, .inl (cI, 8, .inl (fun _ => 0))), (y_item, .inl (cI, 320, .inl (fun _ => 0))), (x, .inr (8, [.ref xs, .ref xt, .ref xc, .ref xd, .ref xr, .ref xi, .ref xv, .ref xw, .ref xh, .ref xm, .ref xa, .int 0, .int 0]))] := hD
    refine lv_aload_n S.1 S.2.1 dL_law_179 rfl (lv_at hl 1 rfl) ?_
    refine lv_aload_n S.1 S.2.1 dL_law_180 rfl (lv_at hl 3 rfl) ?_
    refine lv_iload_n S.1 S.2.1 dL_law_181 rfl (lv_at hl 0 rfl) ?_
    refine lv_iconst (v := 1) S.1 S.2.1 dL_law_182 (by decide) ?_
    refine lv_iadd S.1 S.2.1 dL_law_183 ?_
    refine lv_topi (fun x_7 ex_7 => ?_)
    have ex_7 : x_7 = 1 := by rw [ex_7]; decide
    subst ex_7
    refine va_sld S.1 S.2.1 hX hbl hbA hS (by unfold vp_in; decide) dL_law_184 ?_
    refine W.eq (g2 := F0 m 185 ls [.int (sc 1), .ref y, .int (-1000001)]) rfl ?_
    refine lv_aload_n S.1 S.2.1 dL_law_185 rfl (lv_at hl 3 rfl) ?_
    refine lv_iload_n S.1 S.2.1 dL_law_186 rfl (lv_at hl 0 rfl) ?_
    refine lv_iconst (v := 2) S.1 S.2.1 dL_law_187 (by decide) ?_
    refine lv_iadd S.1 S.2.1 dL_law_188 ?_
    refine lv_topi (fun x_8 ex_8 => ?_)
    have ex_8 : x_8 = 2 := by rw [ex_8]; decide
    subst ex_8
    refine va_sld S.1 S.2.1 hX hbl hbA hS (by unfold vp_in; decide) dL_law_189 ?_
    refine W.eq (g2 := F0 m 190 ls [.int (sc 2), .int (sc 1), .ref y, .int (-1000001)]) rfl ?_
    refine lv_aload_n S.1 S.2.1 dL_law_190 rfl (lv_at hl 3 rfl) ?_
    refine lv_iload_n S.1 S.2.1 dL_law_191 rfl (lv_at hl 0 rfl) ?_
    refine lv_iconst (v := 3) S.1 S.2.1 dL_law_192 (by decide) ?_
    refine lv_iadd S.1 S.2.1 dL_law_193 ?_
    refine lv_topi (fun x_9 ex_9 => ?_)
    have ex_9 : x_9 = 3 := by rw [ex_9]; decide
    subst ex_9
    refine va_sld S.1 S.2.1 hX hbl hbA hS (by unfold vp_in; decide) dL_law_194 ?_
    refine W.eq (g2 := F0 m 195 ls [.int (sc 3), .int (sc 2), .int (sc 1), .ref y, .int (-1000001)]) rfl ?_
    refine b_ai (wr := [(xs, .inl (cS, 8, .inr (.inr (.inr (.inr gs))))), (sh0, .inr (4, [.int (-1), .int 0, .ref it0])), (it0, .inl (cI, 40, .inl (fun _ => 0))), (sh1, .inr (4, [.int (-1), .int 0, .ref it1])), (it1, .inl (cI, 40, .inl (fun _ => 0))), (sh2, .inr (4, [.int (-1), .int 0, .ref it2])), (it2, .inl (cI, 40, .inl (fun _ => 0))), (sh3, .inr (4, [.int (-1), .int 0, .ref it3])), (it3, .inl (cI, 40, .inl (fun _ => 0))), (sh4, .inr (4, [.int (-1), .int 0, .ref it4])), (it4, .inl (cI, 40, .inl (fun _ => 0))), (sh5, .inr (4, [.int (-1), .int 0, .ref it5])), (it5, .inl (cI, 40, .inl (fun _ => 0))), (sh6, .inr (4, [.int (-1), .int 0, .ref it6])), (it6, .inl (cI, 40, .inl (fun _ => 0))), (sh7, .inr (4, [.int (-1), .int 0, .ref it7])), (it7, .inl (cI, 40, .inl (fun _ => 0))), (y_lane, .inl (cI, 8, .inl la)), (y_many, .inl (cI, 8, .inl (fun _ => 0))), (y_item, .inl (cI, 320, .inl (fun _ => 0))), (x, .inr (8, [.ref xs, .ref xt, .ref xc, .ref xd, .ref xr, .ref xi, .ref xv, .ref xw, .ref xh, .ref xm, .ref xa, .int 0, .int 0]))]) (b_runV (q0 := 17) (ci := 9) (As := [.int (sc 1), .int (sc 2), .int (sc 3)]) (c_X9_sheet_b l D cI cZ cC cS sq H.size y y_lane y_many y_item y_city y_fresh y_tape y_cost y_away y_fee y_goesTo y_priceWas y_isKept y_kept y_trace (sc 1) (sc 2) (sc 3) (by assumption) (by assumption)) S gL_law_X9_sheet rfl hdV_X9_sheet ⟨Nat.le_of_ble_eq_true rfl, Nat.le_of_ble_eq_true rfl⟩ ⟨Nat.le_of_ble_eq_true rfl, Nat.le_of_ble_eq_true rfl⟩ hK hP hD rfl rfl [17] rfl (by decide) rfl hl.1 rfl (Nat.le_of_ble_eq_true rfl) dL_law_195) hP hD hS hA [17] [0, 1, 2, 3, 4, 5, 6, 7, 8, 9, 10, 11, 12, 13, 14, 15, 16, 18, 19, 20, 21] rfl rfl (by decide) (by decide) (fun r_10 w_11 H locs hw_12 hP hD hS => ?_)
    obtain ⟨rfl, rfl⟩ := hw_12
    have hP : va_P D vwCl [(xs, .inl (cS, 8, .inr (.inr (.inr (.inr gs))))), (sh0, .inr (4, [.int (-1), .int 0, .ref it0])), (it0, .inl (cI, 40, .inl (fun _ => 0))), (sh1, .inr (4, [.int (-1), .int 0, .ref it1])), (it1, .inl (cI, 40, .inl (fun _ => 0))), (sh2, .inr (4, [.int (-1), .int 0, .ref it2])), (it2, .inl (cI, 40, .inl (fun _ => 0))), (sh3, .inr (4, [.int (-1), .int 0, .ref it3])), (it3, .inl (cI, 40, .inl (fun _ => 0))), (sh4, .inr (4, [.int (-1), .int 0, .ref it4])), (it4, .inl (cI, 40, .inl (fun _ => 0))), (sh5, .inr (4, [.int (-1), .int 0, .ref it5])), (it5, .inl (cI, 40, .inl (fun _ => 0))), (sh6, .inr (4, [.int (-1), .int 0, .ref it6])), (it6, .inl (cI, 40, .inl (fun _ => 0))), (sh7, .inr (4, [.int (-1), .int 0, .ref it7])), (it7, .inl (cI, 40, .inl (fun _ => 0))), (y_lane, .inl (cI, 8, .inl la)), (y_many, .inl (cI, 8, .inl (fun _ => 0))), (y_item, .inl (cI, 320, .inl (fun _ => 0))), (x, .inr (8, [.ref xs, .ref xt, .ref xc, .ref xd, .ref xr, .ref xi, .ref xv, .ref xw, .ref xh, .ref xm, .ref xa, .int 0, .int 0]))] H := hP
    have hD : va_D A [(xs, .inl (cS, 8, .inr (.inr (.inr (.inr gs))))), (sh0, .inr (4, [.int (-1), .int 0, .ref it0])), (it0, .inl (cI, 40, .inl (fun _ => 0))), (sh1, .inr (4, [.int (-1), .int 0, .ref it1])), (it1, .inl (cI, 40, .inl (fun _ => 0))), (sh2, .inr (4, [.int (-1), .int 0, .ref it2])), (it2, .inl (cI, 40, .inl (fun _ => 0))), (sh3, .inr (4, [.int (-1), .int 0, .ref it3])), (it3, .inl (cI, 40, .inl (fun _ => 0))), (sh4, .inr (4, [.int (-1), .int 0, .ref it4])), (it4, .inl (cI, 40, .inl (fun _ => 0))), (sh5, .inr (4, [.int (-1), .int 0, .ref it5])), (it5, .inl (cI, 40, .inl (fun _ => 0))), (sh6, .inr (4, [.int (-1), .int 0, .ref it6])), (it6, .inl (cI, 40, .inl (fun _ => 0))), (sh7, .inr (4, [.int (-1), .int 0, .ref it7])), (it7, .inl (cI, 40, .inl (fun _ => 0))), (y_lane, .inl (cI, 8, .inl la)), (y_many, .inl (cI, 8, .inl (fun _ => 0))), (y_item, .inl (cI, 320, .inl (fun _ => 0))), (x, .inr (8, [.ref xs, .ref xt, .ref xc, .ref xd, .ref xr, .ref xi, .ref xv, .ref xw, .ref xh, .ref xm, .ref xa, .int 0, .int 0]))] := hD
    refine lv_icmp_eq (tgt := 1034) S.1 S.2.1 dL_law_198 (by decide) (fun c_13 => ?_) (fun c_13 => absurd c_13 (by decide))
    exact law_tail C hS (lv_sub hl [0, 3] rfl) (by decide) (by decide)
  · refine lv_aload_n S.1 S.2.1 dL_law_160 rfl (lv_at hl 2 rfl) ?_
    refine lv_aload_n S.1 S.2.1 dL_law_161 rfl (lv_at hl 3 rfl) ?_
    refine lv_iload_n S.1 S.2.1 dL_law_162 rfl (lv_at hl 0 rfl) ?_
    refine lv_iconst (v := 1) S.1 S.2.1 dL_law_163 (by decide) ?_
    refine lv_iadd S.1 S.2.1 dL_law_164 ?_
    refine lv_topi (fun x_1 ex_1 => ?_)
    have ex_1 : x_1 = 1 := by rw [ex_1]; decide
    subst ex_1
    refine va_sld S.1 S.2.1 hX hbl hbA hS (by unfold vp_in; decide) dL_law_165 ?_
    refine W.eq (g2 := F0 m 166 ls [.int (sc 1), .ref x]) rfl ?_
    refine lv_aload_n S.1 S.2.1 dL_law_166 rfl (lv_at hl 3 rfl) ?_
    refine lv_iload_n S.1 S.2.1 dL_law_167 rfl (lv_at hl 0 rfl) ?_
    refine lv_iconst (v := 2) S.1 S.2.1 dL_law_168 (by decide) ?_
    refine lv_iadd S.1 S.2.1 dL_law_169 ?_
    refine lv_topi (fun x_2 ex_2 => ?_)
    have ex_2 : x_2 = 2 := by rw [ex_2]; decide
    subst ex_2
    refine va_sld S.1 S.2.1 hX hbl hbA hS (by unfold vp_in; decide) dL_law_170 ?_
    refine W.eq (g2 := F0 m 171 ls [.int (sc 2), .int (sc 1), .ref x]) rfl ?_
    refine lv_aload_n S.1 S.2.1 dL_law_171 rfl (lv_at hl 3 rfl) ?_
    refine lv_iload_n S.1 S.2.1 dL_law_172 rfl (lv_at hl 0 rfl) ?_
    refine lv_iconst (v := 3) S.1 S.2.1 dL_law_173 (by decide) ?_
    refine lv_iadd S.1 S.2.1 dL_law_174 ?_
    refine lv_topi (fun x_3 ex_3 => ?_)
    have ex_3 : x_3 = 3 := by rw [ex_3]; decide
    subst ex_3
    refine va_sld S.1 S.2.1 hX hbl hbA hS (by unfold vp_in; decide) dL_law_175 ?_
    refine W.eq (g2 := F0 m 176 ls [.int (sc 3), .int (sc 2), .int (sc 1), .ref x]) rfl ?_
    refine b_ai (wr := [(xs, .inl (cS, 8, .inr (.inr (.inr (.inr gs))))), (sh0, .inr (4, [.int (-1), .int 0, .ref it0])), (it0, .inl (cI, 40, .inl (fun _ => 0))), (sh1, .inr (4, [.int (-1), .int 0, .ref it1])), (it1, .inl (cI, 40, .inl (fun _ => 0))), (sh2, .inr (4, [.int (-1), .int 0, .ref it2])), (it2, .inl (cI, 40, .inl (fun _ => 0))), (sh3, .inr (4, [.int (-1), .int 0, .ref it3])), (it3, .inl (cI, 40, .inl (fun _ => 0))), (sh4, .inr (4, [.int (-1), .int 0, .ref it4])), (it4, .inl (cI, 40, .inl (fun _ => 0))), (sh5, .inr (4, [.int (-1), .int 0, .ref it5])), (it5, .inl (cI, 40, .inl (fun _ => 0))), (sh6, .inr (4, [.int (-1), .int 0, .ref it6])), (it6, .inl (cI, 40, .inl (fun _ => 0))), (sh7, .inr (4, [.int (-1), .int 0, .ref it7])), (it7, .inl (cI, 40, .inl (fun _ => 0))), (y, .inr (9, [.int 0, .int 0, .ref y_lane, .ref y_many, .ref y_item, .ref y_city, .ref y_fresh, .int 0, .ref y_tape, .int 0, .int 0, .int 0, .int 0, .int 0, .int 0, .int 0, .int 0, .int 0, .int 0, .int 0, .ref y_cost, .ref y_away, .ref y_fee, .ref y_goesTo, .ref y_priceWas, .ref y_isKept, .ref y_kept, .ref y_trace, .int 0])), (y_lane, .inl (cI, 8, .inl la)), (y_many, .inl (cI, 8, .inl (fun _ => 0))), (y_item, .inl (cI, 320, .inl (fun _ => 0)))]) (b_runV (q0 := 0) (ci := 8) (As := [.int (sc 1), .int (sc 2), .int (sc 3)]) (c_X8_sheet_n l D cI cZ cC cS sq H.size x xs xt xc xd xr xi xv xw xh xm xa (sc 1) (sc 2) (sc 3) (by assumption) (by assumption) (by assumption)) S gL_law_X8_sheet rfl hdV_X8_sheet ⟨Nat.le_of_ble_eq_true rfl, Nat.le_of_ble_eq_true rfl⟩ ⟨Nat.le_of_ble_eq_true rfl, Nat.le_of_ble_eq_true rfl⟩ hK hP hD rfl rfl [0] rfl (by decide) rfl hl.1 rfl (Nat.le_of_ble_eq_true rfl) dL_law_176) hP hD hS hA [0] [1, 2, 3, 4, 5, 6, 7, 8, 9, 10, 11, 12, 13, 14, 15, 16, 17, 18, 19, 20, 21] rfl rfl (by decide) (by decide) (fun r_4 w_5 H locs hw_6 hP hD hS => ?_)
    obtain ⟨rfl, rfl⟩ := hw_6
    have hP : va_P D vwCl [(xs, .inl (cS, 8, .inr (.inr (.inr (.inr gs))))), (sh0, .inr (4, [.int (-1), .int 0, .ref it0])), (it0, .inl (cI, 40, .inl (fun _ => 0))), (sh1, .inr (4, [.int (-1), .int 0, .ref it1])), (it1, .inl (cI, 40, .inl (fun _ => 0))), (sh2, .inr (4, [.int (-1), .int 0, .ref it2])), (it2, .inl (cI, 40, .inl (fun _ => 0))), (sh3, .inr (4, [.int (-1), .int 0, .ref it3])), (it3, .inl (cI, 40, .inl (fun _ => 0))), (sh4, .inr (4, [.int (-1), .int 0, .ref it4])), (it4, .inl (cI, 40, .inl (fun _ => 0))), (sh5, .inr (4, [.int (-1), .int 0, .ref it5])), (it5, .inl (cI, 40, .inl (fun _ => 0))), (sh6, .inr (4, [.int (-1), .int 0, .ref it6])), (it6, .inl (cI, 40, .inl (fun _ => 0))), (sh7, .inr (4, [.int (-1), .int 0, .ref it7])), (it7, .inl (cI, 40, .inl (fun _ => 0))), (y, .inr (9, [.int 0, .int 0, .ref y_lane, .ref y_many, .ref y_item, .ref y_city, .ref y_fresh, .int 0, .ref y_tape, .int 0, .int 0, .int 0, .int 0, .int 0, .int 0, .int 0, .int 0, .int 0, .int 0, .int 0, .ref y_cost, .ref y_away, .ref y_fee, .ref y_goesTo, .ref y_priceWas, .ref y_isKept, .ref y_kept, .ref y_trace, .int 0])), (y_lane, .inl (cI, 8, .inl la)), (y_many, .inl (cI, 8, .inl (fun _ => 0))), (y_item, .inl (cI, 320, .inl (fun _ => 0))), (x, .inr (8, [.ref xs, .ref xt, .ref xc, .ref xd, .ref xr, .ref xi, .ref xv, .ref xw, .ref xh, .ref xm, .ref xa, .int 0, .int 0]))] H := hP
    have hD : va_D A [(xs, .inl (cS, 8, .inr (.inr (.inr (.inr gs))))), (sh0, .inr (4, [.int (-1), .int 0, .ref it0])), (it0, .inl (cI, 40, .inl (fun _ => 0))), (sh1, .inr (4, [.int (-1), .int 0, .ref it1])), (it1, .inl (cI, 40, .inl (fun _ => 0))), (sh2, .inr (4, [.int (-1), .int 0, .ref it2])), (it2, .inl (cI, 40, .inl (fun _ => 0))), (sh3, .inr (4, [.int (-1), .int 0, .ref it3])), (it3, .inl (cI, 40, .inl (fun _ => 0))), (sh4, .inr (4, [.int (-1), .int 0, .ref it4])), (it4, .inl (cI, 40, .inl (fun _ => 0))), (sh5, .inr (4, [.int (-1), .int 0, .ref it5])), (it5, .inl (cI, 40, .inl (fun _ => 0))), (sh6, .inr (4, [.int (-1), .int 0, .ref it6])), (it6, .inl (cI, 40, .inl (fun _ => 0))), (sh7, .inr (4, [.int (-1), .int 0, .ref it7])), (it7, .inl (cI, 40, .inl (fun _ => 0))), (y, .inr (9, [.int 0, .int 0, .ref y_lane, .ref y_many, .ref y_item, .ref y_city, .ref y_fresh, .int 0, .ref y_tape, .int 0, .int 0, .int 0, .int 0, .int 0, .int 0, .int 0, .int 0, .int 0, .int 0, .int 0, .ref y_cost, .ref y_away, .ref y_fee, .ref y_goesTo, .ref y_priceWas, .ref y_isKept, .ref y_kept, .ref y_trace, .int 0])), (y_lane, .inl (cI, 8, .inl la)), (y_many, .inl (cI, 8, .inl (fun _ => 0))), (y_item, .inl (cI, 320, .inl (fun _ => 0))), (x, .inr (8, [.ref xs, .ref xt, .ref xc, .ref xd, .ref xr, .ref xi, .ref xv, .ref xw, .ref xh, .ref xm, .ref xa, .int 0, .int 0]))] := hD
    refine lv_aload_n S.1 S.2.1 dL_law_179 rfl (lv_at hl 1 rfl) ?_
    refine lv_aload_n S.1 S.2.1 dL_law_180 rfl (lv_at hl 3 rfl) ?_
    refine lv_iload_n S.1 S.2.1 dL_law_181 rfl (lv_at hl 0 rfl) ?_
    refine lv_iconst (v := 1) S.1 S.2.1 dL_law_182 (by decide) ?_
    refine lv_iadd S.1 S.2.1 dL_law_183 ?_
    refine lv_topi (fun x_7 ex_7 => ?_)
    have ex_7 : x_7 = 1 := by rw [ex_7]; decide
    subst ex_7
    refine va_sld S.1 S.2.1 hX hbl hbA hS (by unfold vp_in; decide) dL_law_184 ?_
    refine W.eq (g2 := F0 m 185 ls [.int (sc 1), .ref y, .int (-1000001)]) rfl ?_
    refine lv_aload_n S.1 S.2.1 dL_law_185 rfl (lv_at hl 3 rfl) ?_
    refine lv_iload_n S.1 S.2.1 dL_law_186 rfl (lv_at hl 0 rfl) ?_
    refine lv_iconst (v := 2) S.1 S.2.1 dL_law_187 (by decide) ?_
    refine lv_iadd S.1 S.2.1 dL_law_188 ?_
    refine lv_topi (fun x_8 ex_8 => ?_)
    have ex_8 : x_8 = 2 := by rw [ex_8]; decide
    subst ex_8
    refine va_sld S.1 S.2.1 hX hbl hbA hS (by unfold vp_in; decide) dL_law_189 ?_
    refine W.eq (g2 := F0 m 190 ls [.int (sc 2), .int (sc 1), .ref y, .int (-1000001)]) rfl ?_
    refine lv_aload_n S.1 S.2.1 dL_law_190 rfl (lv_at hl 3 rfl) ?_
    refine lv_iload_n S.1 S.2.1 dL_law_191 rfl (lv_at hl 0 rfl) ?_
    refine lv_iconst (v := 3) S.1 S.2.1 dL_law_192 (by decide) ?_
    refine lv_iadd S.1 S.2.1 dL_law_193 ?_
    refine lv_topi (fun x_9 ex_9 => ?_)
    have ex_9 : x_9 = 3 := by rw [ex_9]; decide
    subst ex_9
    refine va_sld S.1 S.2.1 hX hbl hbA hS (by unfold vp_in; decide) dL_law_194 ?_
    refine W.eq (g2 := F0 m 195 ls [.int (sc 3), .int (sc 2), .int (sc 1), .ref y, .int (-1000001)]) rfl ?_
    refine b_ai (wr := [(xs, .inl (cS, 8, .inr (.inr (.inr (.inr gs))))), (sh0, .inr (4, [.int (-1), .int 0, .ref it0])), (it0, .inl (cI, 40, .inl (fun _ => 0))), (sh1, .inr (4, [.int (-1), .int 0, .ref it1])), (it1, .inl (cI, 40, .inl (fun _ => 0))), (sh2, .inr (4, [.int (-1), .int 0, .ref it2])), (it2, .inl (cI, 40, .inl (fun _ => 0))), (sh3, .inr (4, [.int (-1), .int 0, .ref it3])), (it3, .inl (cI, 40, .inl (fun _ => 0))), (sh4, .inr (4, [.int (-1), .int 0, .ref it4])), (it4, .inl (cI, 40, .inl (fun _ => 0))), (sh5, .inr (4, [.int (-1), .int 0, .ref it5])), (it5, .inl (cI, 40, .inl (fun _ => 0))), (sh6, .inr (4, [.int (-1), .int 0, .ref it6])), (it6, .inl (cI, 40, .inl (fun _ => 0))), (sh7, .inr (4, [.int (-1), .int 0, .ref it7])), (it7, .inl (cI, 40, .inl (fun _ => 0))), (y_lane, .inl (cI, 8, .inl la)), (y_many, .inl (cI, 8, .inl (fun _ => 0))), (y_item, .inl (cI, 320, .inl (fun _ => 0))), (x, .inr (8, [.ref xs, .ref xt, .ref xc, .ref xd, .ref xr, .ref xi, .ref xv, .ref xw, .ref xh, .ref xm, .ref xa, .int 0, .int 0]))]) (b_runV (q0 := 17) (ci := 9) (As := [.int (sc 1), .int (sc 2), .int (sc 3)]) (c_X9_sheet_n l D cI cZ cC cS sq H.size y y_lane y_many y_item y_city y_fresh y_tape y_cost y_away y_fee y_goesTo y_priceWas y_isKept y_kept y_trace (sc 1) (sc 2) (sc 3) (by assumption) (by assumption) (by assumption)) S gL_law_X9_sheet rfl hdV_X9_sheet ⟨Nat.le_of_ble_eq_true rfl, Nat.le_of_ble_eq_true rfl⟩ ⟨Nat.le_of_ble_eq_true rfl, Nat.le_of_ble_eq_true rfl⟩ hK hP hD rfl rfl [17] rfl (by decide) rfl hl.1 rfl (Nat.le_of_ble_eq_true rfl) dL_law_195) hP hD hS hA [17] [0, 1, 2, 3, 4, 5, 6, 7, 8, 9, 10, 11, 12, 13, 14, 15, 16, 18, 19, 20, 21] rfl rfl (by decide) (by decide) (fun r_10 w_11 H locs hw_12 hP hD hS => ?_)
    obtain ⟨rfl, rfl⟩ := hw_12
    have hP : va_P D vwCl [(xs, .inl (cS, 8, .inr (.inr (.inr (.inr gs))))), (sh0, .inr (4, [.int (-1), .int 0, .ref it0])), (it0, .inl (cI, 40, .inl (fun _ => 0))), (sh1, .inr (4, [.int (-1), .int 0, .ref it1])), (it1, .inl (cI, 40, .inl (fun _ => 0))), (sh2, .inr (4, [.int (-1), .int 0, .ref it2])), (it2, .inl (cI, 40, .inl (fun _ => 0))), (sh3, .inr (4, [.int (-1), .int 0, .ref it3])), (it3, .inl (cI, 40, .inl (fun _ => 0))), (sh4, .inr (4, [.int (-1), .int 0, .ref it4])), (it4, .inl (cI, 40, .inl (fun _ => 0))), (sh5, .inr (4, [.int (-1), .int 0, .ref it5])), (it5, .inl (cI, 40, .inl (fun _ => 0))), (sh6, .inr (4, [.int (-1), .int 0, .ref it6])), (it6, .inl (cI, 40, .inl (fun _ => 0))), (sh7, .inr (4, [.int (-1), .int 0, .ref it7])), (it7, .inl (cI, 40, .inl (fun _ => 0))), (y_lane, .inl (cI, 8, .inl la)), (y_many, .inl (cI, 8, .inl (fun _ => 0))), (y_item, .inl (cI, 320, .inl (fun _ => 0))), (x, .inr (8, [.ref xs, .ref xt, .ref xc, .ref xd, .ref xr, .ref xi, .ref xv, .ref xw, .ref xh, .ref xm, .ref xa, .int 0, .int 0]))] H := hP
    have hD : va_D A [(xs, .inl (cS, 8, .inr (.inr (.inr (.inr gs))))), (sh0, .inr (4, [.int (-1), .int 0, .ref it0])), (it0, .inl (cI, 40, .inl (fun _ => 0))), (sh1, .inr (4, [.int (-1), .int 0, .ref it1])), (it1, .inl (cI, 40, .inl (fun _ => 0))), (sh2, .inr (4, [.int (-1), .int 0, .ref it2])), (it2, .inl (cI, 40, .inl (fun _ => 0))), (sh3, .inr (4, [.int (-1), .int 0, .ref it3])), (it3, .inl (cI, 40, .inl (fun _ => 0))), (sh4, .inr (4, [.int (-1), .int 0, .ref it4])), (it4, .inl (cI, 40, .inl (fun _ => 0))), (sh5, .inr (4, [.int (-1), .int 0, .ref it5])), (it5, .inl (cI, 40, .inl (fun _ => 0))), (sh6, .inr (4, [.int (-1), .int 0, .ref it6])), (it6, .inl (cI, 40, .inl (fun _ => 0))), (sh7, .inr (4, [.int (-1), .int 0, .ref it7])), (it7, .inl (cI, 40, .inl (fun _ => 0))), (y_lane, .inl (cI, 8, .inl la)), (y_many, .inl (cI, 8, .inl (fun _ => 0))), (y_item, .inl (cI, 320, .inl (fun _ => 0))), (x, .inr (8, [.ref xs, .ref xt, .ref xc, .ref xd, .ref xr, .ref xi, .ref xv, .ref xw, .ref xh, .ref xm, .ref xa, .int 0, .int 0]))] := hD
    refine lv_icmp_eq (tgt := 1034) S.1 S.2.1 dL_law_198 (by decide) (fun c_13 => ?_) (fun c_13 => absurd c_13 (by decide))
    exact law_tail C hS (lv_sub hl [0, 3] rfl) (by decide) (by decide)
  · refine lv_aload_n S.1 S.2.1 dL_law_160 rfl (lv_at hl 2 rfl) ?_
    refine lv_aload_n S.1 S.2.1 dL_law_161 rfl (lv_at hl 3 rfl) ?_
    refine lv_iload_n S.1 S.2.1 dL_law_162 rfl (lv_at hl 0 rfl) ?_
    refine lv_iconst (v := 1) S.1 S.2.1 dL_law_163 (by decide) ?_
    refine lv_iadd S.1 S.2.1 dL_law_164 ?_
    refine lv_topi (fun x_1 ex_1 => ?_)
    have ex_1 : x_1 = 1 := by rw [ex_1]; decide
    subst ex_1
    refine va_sld S.1 S.2.1 hX hbl hbA hS (by unfold vp_in; decide) dL_law_165 ?_
    refine W.eq (g2 := F0 m 166 ls [.int (sc 1), .ref x]) rfl ?_
    refine lv_aload_n S.1 S.2.1 dL_law_166 rfl (lv_at hl 3 rfl) ?_
    refine lv_iload_n S.1 S.2.1 dL_law_167 rfl (lv_at hl 0 rfl) ?_
    refine lv_iconst (v := 2) S.1 S.2.1 dL_law_168 (by decide) ?_
    refine lv_iadd S.1 S.2.1 dL_law_169 ?_
    refine lv_topi (fun x_2 ex_2 => ?_)
    have ex_2 : x_2 = 2 := by rw [ex_2]; decide
    subst ex_2
    refine va_sld S.1 S.2.1 hX hbl hbA hS (by unfold vp_in; decide) dL_law_170 ?_
    refine W.eq (g2 := F0 m 171 ls [.int (sc 2), .int (sc 1), .ref x]) rfl ?_
    refine lv_aload_n S.1 S.2.1 dL_law_171 rfl (lv_at hl 3 rfl) ?_
    refine lv_iload_n S.1 S.2.1 dL_law_172 rfl (lv_at hl 0 rfl) ?_
    refine lv_iconst (v := 3) S.1 S.2.1 dL_law_173 (by decide) ?_
    refine lv_iadd S.1 S.2.1 dL_law_174 ?_
    refine lv_topi (fun x_3 ex_3 => ?_)
    have ex_3 : x_3 = 3 := by rw [ex_3]; decide
    subst ex_3
    refine va_sld S.1 S.2.1 hX hbl hbA hS (by unfold vp_in; decide) dL_law_175 ?_
    refine W.eq (g2 := F0 m 176 ls [.int (sc 3), .int (sc 2), .int (sc 1), .ref x]) rfl ?_
    refine b_ai (wr := [(xs, .inl (cS, 8, .inr (.inr (.inr (.inr gs))))), (sh0, .inr (4, [.int (-1), .int 0, .ref it0])), (it0, .inl (cI, 40, .inl (fun _ => 0))), (sh1, .inr (4, [.int (-1), .int 0, .ref it1])), (it1, .inl (cI, 40, .inl (fun _ => 0))), (sh2, .inr (4, [.int (-1), .int 0, .ref it2])), (it2, .inl (cI, 40, .inl (fun _ => 0))), (sh3, .inr (4, [.int (-1), .int 0, .ref it3])), (it3, .inl (cI, 40, .inl (fun _ => 0))), (sh4, .inr (4, [.int (-1), .int 0, .ref it4])), (it4, .inl (cI, 40, .inl (fun _ => 0))), (sh5, .inr (4, [.int (-1), .int 0, .ref it5])), (it5, .inl (cI, 40, .inl (fun _ => 0))), (sh6, .inr (4, [.int (-1), .int 0, .ref it6])), (it6, .inl (cI, 40, .inl (fun _ => 0))), (sh7, .inr (4, [.int (-1), .int 0, .ref it7])), (it7, .inl (cI, 40, .inl (fun _ => 0))), (y, .inr (9, [.int 0, .int 0, .ref y_lane, .ref y_many, .ref y_item, .ref y_city, .ref y_fresh, .int 0, .ref y_tape, .int 0, .int 0, .int 0, .int 0, .int 0, .int 0, .int 0, .int 0, .int 0, .int 0, .int 0, .ref y_cost, .ref y_away, .ref y_fee, .ref y_goesTo, .ref y_priceWas, .ref y_isKept, .ref y_kept, .ref y_trace, .int 0])), (y_lane, .inl (cI, 8, .inl la)), (y_many, .inl (cI, 8, .inl (fun _ => 0))), (y_item, .inl (cI, 320, .inl (fun _ => 0)))]) (b_runV (q0 := 0) (ci := 8) (As := [.int (sc 1), .int (sc 2), .int (sc 3)]) (c_X8_sheet_m l D cI cZ cC cS sq H.size x xs xt xc xd xr xi xv xw xh xm xa (sc 1) (sc 2) (sc 3) (by assumption) (by assumption) (by assumption)) S gL_law_X8_sheet rfl hdV_X8_sheet ⟨Nat.le_of_ble_eq_true rfl, Nat.le_of_ble_eq_true rfl⟩ ⟨Nat.le_of_ble_eq_true rfl, Nat.le_of_ble_eq_true rfl⟩ hK hP hD rfl rfl [0] rfl (by decide) rfl hl.1 rfl (Nat.le_of_ble_eq_true rfl) dL_law_176) hP hD hS hA [0] [1, 2, 3, 4, 5, 6, 7, 8, 9, 10, 11, 12, 13, 14, 15, 16, 17, 18, 19, 20, 21] rfl rfl (by decide) (by decide) (fun r_4 w_5 H locs hw_6 hP hD hS => ?_)
    obtain ⟨rfl, rfl⟩ := hw_6
    have hP : va_P D vwCl [(xs, .inl (cS, 8, .inr (.inr (.inr (.inr gs))))), (sh0, .inr (4, [.int (-1), .int 0, .ref it0])), (it0, .inl (cI, 40, .inl (fun _ => 0))), (sh1, .inr (4, [.int (-1), .int 0, .ref it1])), (it1, .inl (cI, 40, .inl (fun _ => 0))), (sh2, .inr (4, [.int (-1), .int 0, .ref it2])), (it2, .inl (cI, 40, .inl (fun _ => 0))), (sh3, .inr (4, [.int (-1), .int 0, .ref it3])), (it3, .inl (cI, 40, .inl (fun _ => 0))), (sh4, .inr (4, [.int (-1), .int 0, .ref it4])), (it4, .inl (cI, 40, .inl (fun _ => 0))), (sh5, .inr (4, [.int (-1), .int 0, .ref it5])), (it5, .inl (cI, 40, .inl (fun _ => 0))), (sh6, .inr (4, [.int (-1), .int 0, .ref it6])), (it6, .inl (cI, 40, .inl (fun _ => 0))), (sh7, .inr (4, [.int (-1), .int 0, .ref it7])), (it7, .inl (cI, 40, .inl (fun _ => 0))), (y, .inr (9, [.int 0, .int 0, .ref y_lane, .ref y_many, .ref y_item, .ref y_city, .ref y_fresh, .int 0, .ref y_tape, .int 0, .int 0, .int 0, .int 0, .int 0, .int 0, .int 0, .int 0, .int 0, .int 0, .int 0, .ref y_cost, .ref y_away, .ref y_fee, .ref y_goesTo, .ref y_priceWas, .ref y_isKept, .ref y_kept, .ref y_trace, .int 0])), (y_lane, .inl (cI, 8, .inl la)), (y_many, .inl (cI, 8, .inl (fun _ => 0))), (y_item, .inl (cI, 320, .inl (fun _ => 0))), (x, .inr (8, [.ref xs, .ref xt, .ref xc, .ref xd, .ref xr, .ref xi, .ref xv, .ref xw, .ref xh, .ref xm, .ref xa, .int 0, .int 4]))] H := hP
    have hD : va_D A [(xs, .inl (cS, 8, .inr (.inr (.inr (.inr gs))))), (sh0, .inr (4, [.int (-1), .int 0, .ref it0])), (it0, .inl (cI, 40, .inl (fun _ => 0))), (sh1, .inr (4, [.int (-1), .int 0, .ref it1])), (it1, .inl (cI, 40, .inl (fun _ => 0))), (sh2, .inr (4, [.int (-1), .int 0, .ref it2])), (it2, .inl (cI, 40, .inl (fun _ => 0))), (sh3, .inr (4, [.int (-1), .int 0, .ref it3])), (it3, .inl (cI, 40, .inl (fun _ => 0))), (sh4, .inr (4, [.int (-1), .int 0, .ref it4])), (it4, .inl (cI, 40, .inl (fun _ => 0))), (sh5, .inr (4, [.int (-1), .int 0, .ref it5])), (it5, .inl (cI, 40, .inl (fun _ => 0))), (sh6, .inr (4, [.int (-1), .int 0, .ref it6])), (it6, .inl (cI, 40, .inl (fun _ => 0))), (sh7, .inr (4, [.int (-1), .int 0, .ref it7])), (it7, .inl (cI, 40, .inl (fun _ => 0))), (y, .inr (9, [.int 0, .int 0, .ref y_lane, .ref y_many, .ref y_item, .ref y_city, .ref y_fresh, .int 0, .ref y_tape, .int 0, .int 0, .int 0, .int 0, .int 0, .int 0, .int 0, .int 0, .int 0, .int 0, .int 0, .ref y_cost, .ref y_away, .ref y_fee, .ref y_goesTo, .ref y_priceWas, .ref y_isKept, .ref y_kept, .ref y_trace, .int 0])), (y_lane, .inl (cI, 8, .inl la)), (y_many, .inl (cI, 8, .inl (fun _ => 0))), (y_item, .inl (cI, 320, .inl (fun _ => 0))), (x, .inr (8, [.ref xs, .ref xt, .ref xc, .ref xd, .ref xr, .ref xi, .ref xv, .ref xw, .ref xh, .ref xm, .ref xa, .int 0, .int 4]))] := hD
    refine lv_aload_n S.1 S.2.1 dL_law_179 rfl (lv_at hl 1 rfl) ?_
    refine lv_aload_n S.1 S.2.1 dL_law_180 rfl (lv_at hl 3 rfl) ?_
    refine lv_iload_n S.1 S.2.1 dL_law_181 rfl (lv_at hl 0 rfl) ?_
    refine lv_iconst (v := 1) S.1 S.2.1 dL_law_182 (by decide) ?_
    refine lv_iadd S.1 S.2.1 dL_law_183 ?_
    refine lv_topi (fun x_7 ex_7 => ?_)
    have ex_7 : x_7 = 1 := by rw [ex_7]; decide
    subst ex_7
    refine va_sld S.1 S.2.1 hX hbl hbA hS (by unfold vp_in; decide) dL_law_184 ?_
    refine W.eq (g2 := F0 m 185 ls [.int (sc 1), .ref y, .int (-1000014)]) rfl ?_
    refine lv_aload_n S.1 S.2.1 dL_law_185 rfl (lv_at hl 3 rfl) ?_
    refine lv_iload_n S.1 S.2.1 dL_law_186 rfl (lv_at hl 0 rfl) ?_
    refine lv_iconst (v := 2) S.1 S.2.1 dL_law_187 (by decide) ?_
    refine lv_iadd S.1 S.2.1 dL_law_188 ?_
    refine lv_topi (fun x_8 ex_8 => ?_)
    have ex_8 : x_8 = 2 := by rw [ex_8]; decide
    subst ex_8
    refine va_sld S.1 S.2.1 hX hbl hbA hS (by unfold vp_in; decide) dL_law_189 ?_
    refine W.eq (g2 := F0 m 190 ls [.int (sc 2), .int (sc 1), .ref y, .int (-1000014)]) rfl ?_
    refine lv_aload_n S.1 S.2.1 dL_law_190 rfl (lv_at hl 3 rfl) ?_
    refine lv_iload_n S.1 S.2.1 dL_law_191 rfl (lv_at hl 0 rfl) ?_
    refine lv_iconst (v := 3) S.1 S.2.1 dL_law_192 (by decide) ?_
    refine lv_iadd S.1 S.2.1 dL_law_193 ?_
    refine lv_topi (fun x_9 ex_9 => ?_)
    have ex_9 : x_9 = 3 := by rw [ex_9]; decide
    subst ex_9
    refine va_sld S.1 S.2.1 hX hbl hbA hS (by unfold vp_in; decide) dL_law_194 ?_
    refine W.eq (g2 := F0 m 195 ls [.int (sc 3), .int (sc 2), .int (sc 1), .ref y, .int (-1000014)]) rfl ?_
    refine b_ai (wr := [(xs, .inl (cS, 8, .inr (.inr (.inr (.inr gs))))), (sh0, .inr (4, [.int (-1), .int 0, .ref it0])), (it0, .inl (cI, 40, .inl (fun _ => 0))), (sh1, .inr (4, [.int (-1), .int 0, .ref it1])), (it1, .inl (cI, 40, .inl (fun _ => 0))), (sh2, .inr (4, [.int (-1), .int 0, .ref it2])), (it2, .inl (cI, 40, .inl (fun _ => 0))), (sh3, .inr (4, [.int (-1), .int 0, .ref it3])), (it3, .inl (cI, 40, .inl (fun _ => 0))), (sh4, .inr (4, [.int (-1), .int 0, .ref it4])), (it4, .inl (cI, 40, .inl (fun _ => 0))), (sh5, .inr (4, [.int (-1), .int 0, .ref it5])), (it5, .inl (cI, 40, .inl (fun _ => 0))), (sh6, .inr (4, [.int (-1), .int 0, .ref it6])), (it6, .inl (cI, 40, .inl (fun _ => 0))), (sh7, .inr (4, [.int (-1), .int 0, .ref it7])), (it7, .inl (cI, 40, .inl (fun _ => 0))), (y_lane, .inl (cI, 8, .inl la)), (y_many, .inl (cI, 8, .inl (fun _ => 0))), (y_item, .inl (cI, 320, .inl (fun _ => 0))), (x, .inr (8, [.ref xs, .ref xt, .ref xc, .ref xd, .ref xr, .ref xi, .ref xv, .ref xw, .ref xh, .ref xm, .ref xa, .int 0, .int 4]))]) (b_runV (q0 := 17) (ci := 9) (As := [.int (sc 1), .int (sc 2), .int (sc 3)]) (c_X9_sheet_m l D cI cZ cC cS sq H.size y y_lane y_many y_item y_city y_fresh y_tape y_cost y_away y_fee y_goesTo y_priceWas y_isKept y_kept y_trace (sc 1) (sc 2) (sc 3) (by assumption) (by assumption) (by assumption)) S gL_law_X9_sheet rfl hdV_X9_sheet ⟨Nat.le_of_ble_eq_true rfl, Nat.le_of_ble_eq_true rfl⟩ ⟨Nat.le_of_ble_eq_true rfl, Nat.le_of_ble_eq_true rfl⟩ hK hP hD rfl rfl [17] rfl (by decide) rfl hl.1 rfl (Nat.le_of_ble_eq_true rfl) dL_law_195) hP hD hS hA [17] [0, 1, 2, 3, 4, 5, 6, 7, 8, 9, 10, 11, 12, 13, 14, 15, 16, 18, 19, 20, 21] rfl rfl (by decide) (by decide) (fun r_10 w_11 H locs hw_12 hP hD hS => ?_)
    obtain ⟨rfl, rfl⟩ := hw_12
    have hP : va_P D vwCl [(xs, .inl (cS, 8, .inr (.inr (.inr (.inr gs))))), (sh0, .inr (4, [.int (-1), .int 0, .ref it0])), (it0, .inl (cI, 40, .inl (fun _ => 0))), (sh1, .inr (4, [.int (-1), .int 0, .ref it1])), (it1, .inl (cI, 40, .inl (fun _ => 0))), (sh2, .inr (4, [.int (-1), .int 0, .ref it2])), (it2, .inl (cI, 40, .inl (fun _ => 0))), (sh3, .inr (4, [.int (-1), .int 0, .ref it3])), (it3, .inl (cI, 40, .inl (fun _ => 0))), (sh4, .inr (4, [.int (-1), .int 0, .ref it4])), (it4, .inl (cI, 40, .inl (fun _ => 0))), (sh5, .inr (4, [.int (-1), .int 0, .ref it5])), (it5, .inl (cI, 40, .inl (fun _ => 0))), (sh6, .inr (4, [.int (-1), .int 0, .ref it6])), (it6, .inl (cI, 40, .inl (fun _ => 0))), (sh7, .inr (4, [.int (-1), .int 0, .ref it7])), (it7, .inl (cI, 40, .inl (fun _ => 0))), (y_lane, .inl (cI, 8, .inl la)), (y_many, .inl (cI, 8, .inl (fun _ => 0))), (y_item, .inl (cI, 320, .inl (fun _ => 0))), (x, .inr (8, [.ref xs, .ref xt, .ref xc, .ref xd, .ref xr, .ref xi, .ref xv, .ref xw, .ref xh, .ref xm, .ref xa, .int 0, .int 4]))] H := hP
    have hD : va_D A [(xs, .inl (cS, 8, .inr (.inr (.inr (.inr gs))))), (sh0, .inr (4, [.int (-1), .int 0, .ref it0])), (it0, .inl (cI, 40, .inl (fun _ => 0))), (sh1, .inr (4, [.int (-1), .int 0, .ref it1])), (it1, .inl (cI, 40, .inl (fun _ => 0))), (sh2, .inr (4, [.int (-1), .int 0, .ref it2])), (it2, .inl (cI, 40, .inl (fun _ => 0))), (sh3, .inr (4, [.int (-1), .int 0, .ref it3])), (it3, .inl (cI, 40, .inl (fun _ => 0))), (sh4, .inr (4, [.int (-1), .int 0, .ref it4])), (it4, .inl (cI, 40, .inl (fun _ => 0))), (sh5, .inr (4, [.int (-1), .int 0, .ref it5])), (it5, .inl (cI, 40, .inl (fun _ => 0))), (sh6, .inr (4, [.int (-1), .int 0, .ref it6])), (it6, .inl (cI, 40, .inl (fun _ => 0))), (sh7, .inr (4, [.int (-1), .int 0, .ref it7])), (it7, .inl (cI, 40, .inl (fun _ => 0))), (y_lane, .inl (cI, 8, .inl la)), (y_many, .inl (cI, 8, .inl (fun _ => 0))), (y_item, .inl (cI, 320, .inl (fun _ => 0))), (x, .inr (8, [.ref xs, .ref xt, .ref xc, .ref xd, .ref xr, .ref xi, .ref xv, .ref xw, .ref xh, .ref xm, .ref xa, .int 0, .int 4]))] := hD
    refine lv_icmp_eq (tgt := 1034) S.1 S.2.1 dL_law_198 (by decide) (fun c_13 => ?_) (fun c_13 => absurd c_13 (by decide))
    exact law_tail C hS (lv_sub hl [0, 3] rfl) (by decide) (by decide)
  · have hj : (sc 1).toNatClampNeg < 8 := cl8 hr
    obtain ⟨sh, it, hfs, hP, hD⟩ : ∃ (sh it : Nat), gs (sc 1).toNatClampNeg = some sh ∧ va_P D vwCl [(x, .inr (8, [.ref xs, .ref xt, .ref xc, .ref xd, .ref xr, .ref xi, .ref xv, .ref xw, .ref xh, .ref xm, .ref xa, .int 0, .int 0])), (xs, .inl (cS, 8, .inr (.inr (.inr (.inr gs))))), (sh, .inr (4, [.int (-1), .int 0, .ref it])), (it, .inl (cI, 40, .inl (fun _ => 0))), (y, .inr (9, [.int 0, .int 0, .ref y_lane, .ref y_many, .ref y_item, .ref y_city, .ref y_fresh, .int 0, .ref y_tape, .int 0, .int 0, .int 0, .int 0, .int 0, .int 0, .int 0, .int 0, .int 0, .int 0, .int 0, .ref y_cost, .ref y_away, .ref y_fee, .ref y_goesTo, .ref y_priceWas, .ref y_isKept, .ref y_kept, .ref y_trace, .int 0])), (y_lane, .inl (cI, 8, .inl la)), (y_many, .inl (cI, 8, .inl (fun _ => 0))), (y_item, .inl (cI, 320, .inl (fun _ => 0)))] H ∧ va_D A [(x, .inr (8, [.ref xs, .ref xt, .ref xc, .ref xd, .ref xr, .ref xi, .ref xv, .ref xw, .ref xh, .ref xm, .ref xa, .int 0, .int 0])), (xs, .inl (cS, 8, .inr (.inr (.inr (.inr gs))))), (sh, .inr (4, [.int (-1), .int 0, .ref it])), (it, .inl (cI, 40, .inl (fun _ => 0))), (y, .inr (9, [.int 0, .int 0, .ref y_lane, .ref y_many, .ref y_item, .ref y_city, .ref y_fresh, .int 0, .ref y_tape, .int 0, .int 0, .int 0, .int 0, .int 0, .int 0, .int 0, .int 0, .int 0, .int 0, .int 0, .ref y_cost, .ref y_away, .ref y_fee, .ref y_goesTo, .ref y_priceWas, .ref y_isKept, .ref y_kept, .ref y_trace, .int 0])), (y_lane, .inl (cI, 8, .inl la)), (y_many, .inl (cI, 8, .inl (fun _ => 0))), (y_item, .inl (cI, 320, .inl (fun _ => 0)))] := by
      generalize (sc 1).toNatClampNeg = j at hj ⊢
      rcases (show j = 0 ∨ j = 1 ∨ j = 2 ∨ j = 3 ∨ j = 4 ∨ j = 5 ∨ j = 6 ∨ j = 7 by omega) with rfl | rfl | rfl | rfl | rfl | rfl | rfl | rfl
      · exact ⟨sh0, it0, hg0, hP.sub [0, 1, 2, 3, 18, 19, 20, 21] rfl, hD.sub [0, 1, 2, 3, 18, 19, 20, 21] (by decide) rfl⟩
      · exact ⟨sh1, it1, hg1, hP.sub [0, 1, 4, 5, 18, 19, 20, 21] rfl, hD.sub [0, 1, 4, 5, 18, 19, 20, 21] (by decide) rfl⟩
      · exact ⟨sh2, it2, hg2, hP.sub [0, 1, 6, 7, 18, 19, 20, 21] rfl, hD.sub [0, 1, 6, 7, 18, 19, 20, 21] (by decide) rfl⟩
      · exact ⟨sh3, it3, hg3, hP.sub [0, 1, 8, 9, 18, 19, 20, 21] rfl, hD.sub [0, 1, 8, 9, 18, 19, 20, 21] (by decide) rfl⟩
      · exact ⟨sh4, it4, hg4, hP.sub [0, 1, 10, 11, 18, 19, 20, 21] rfl, hD.sub [0, 1, 10, 11, 18, 19, 20, 21] (by decide) rfl⟩
      · exact ⟨sh5, it5, hg5, hP.sub [0, 1, 12, 13, 18, 19, 20, 21] rfl, hD.sub [0, 1, 12, 13, 18, 19, 20, 21] (by decide) rfl⟩
      · exact ⟨sh6, it6, hg6, hP.sub [0, 1, 14, 15, 18, 19, 20, 21] rfl, hD.sub [0, 1, 14, 15, 18, 19, 20, 21] (by decide) rfl⟩
      · exact ⟨sh7, it7, hg7, hP.sub [0, 1, 16, 17, 18, 19, 20, 21] rfl, hD.sub [0, 1, 16, 17, 18, 19, 20, 21] (by decide) rfl⟩
    refine lv_aload_n S.1 S.2.1 dL_law_160 rfl (lv_at hl 2 rfl) ?_
    refine lv_aload_n S.1 S.2.1 dL_law_161 rfl (lv_at hl 3 rfl) ?_
    refine lv_iload_n S.1 S.2.1 dL_law_162 rfl (lv_at hl 0 rfl) ?_
    refine lv_iconst (v := 1) S.1 S.2.1 dL_law_163 (by decide) ?_
    refine lv_iadd S.1 S.2.1 dL_law_164 ?_
    refine lv_topi (fun x_1 ex_1 => ?_)
    have ex_1 : x_1 = 1 := by rw [ex_1]; decide
    subst ex_1
    refine va_sld S.1 S.2.1 hX hbl hbA hS (by unfold vp_in; decide) dL_law_165 ?_
    refine W.eq (g2 := F0 m 166 ls [.int (sc 1), .ref x]) rfl ?_
    refine lv_aload_n S.1 S.2.1 dL_law_166 rfl (lv_at hl 3 rfl) ?_
    refine lv_iload_n S.1 S.2.1 dL_law_167 rfl (lv_at hl 0 rfl) ?_
    refine lv_iconst (v := 2) S.1 S.2.1 dL_law_168 (by decide) ?_
    refine lv_iadd S.1 S.2.1 dL_law_169 ?_
    refine lv_topi (fun x_2 ex_2 => ?_)
    have ex_2 : x_2 = 2 := by rw [ex_2]; decide
    subst ex_2
    refine va_sld S.1 S.2.1 hX hbl hbA hS (by unfold vp_in; decide) dL_law_170 ?_
    refine W.eq (g2 := F0 m 171 ls [.int (sc 2), .int (sc 1), .ref x]) rfl ?_
    refine lv_aload_n S.1 S.2.1 dL_law_171 rfl (lv_at hl 3 rfl) ?_
    refine lv_iload_n S.1 S.2.1 dL_law_172 rfl (lv_at hl 0 rfl) ?_
    refine lv_iconst (v := 3) S.1 S.2.1 dL_law_173 (by decide) ?_
    refine lv_iadd S.1 S.2.1 dL_law_174 ?_
    refine lv_topi (fun x_3 ex_3 => ?_)
    have ex_3 : x_3 = 3 := by rw [ex_3]; decide
    subst ex_3
    refine va_sld S.1 S.2.1 hX hbl hbA hS (by unfold vp_in; decide) dL_law_175 ?_
    refine W.eq (g2 := F0 m 176 ls [.int (sc 3), .int (sc 2), .int (sc 1), .ref x]) rfl ?_
    refine b_ai (wr := [(y, .inr (9, [.int 0, .int 0, .ref y_lane, .ref y_many, .ref y_item, .ref y_city, .ref y_fresh, .int 0, .ref y_tape, .int 0, .int 0, .int 0, .int 0, .int 0, .int 0, .int 0, .int 0, .int 0, .int 0, .int 0, .ref y_cost, .ref y_away, .ref y_fee, .ref y_goesTo, .ref y_priceWas, .ref y_isKept, .ref y_kept, .ref y_trace, .int 0])), (y_lane, .inl (cI, 8, .inl la)), (y_many, .inl (cI, 8, .inl (fun _ => 0))), (y_item, .inl (cI, 320, .inl (fun _ => 0)))]) (b_runV (q0 := 0) (ci := 8) (As := [.int (sc 1), .int (sc 2), .int (sc 3)]) (c_X8_sheet_ok l D cI cZ cC cS sq H.size x xs xt xc xd xr xi xv xw xh xm xa gs sh it (sc 1) (sc 2) (sc 3) (fun _ => 0) (by assumption) (by assumption) (by assumption) (by assumption)) S gL_law_X8_sheet rfl hdV_X8_sheet ⟨Nat.le_of_ble_eq_true rfl, Nat.le_of_ble_eq_true rfl⟩ ⟨Nat.le_of_ble_eq_true rfl, Nat.le_of_ble_eq_true rfl⟩ hK hP hD rfl rfl [0, 1, 2, 3] rfl (by decide) rfl hl.1 rfl (Nat.le_of_ble_eq_true rfl) dL_law_176) hP hD hS hA [0, 1, 2, 3] [4, 5, 6, 7] rfl rfl (by decide) (by decide) (fun r_4 w_5 H locs hw_6 hP hD hS => ?_)
    obtain ⟨er_4, rfl⟩ := hw_6
    rw [er_4]
    have hP : va_P D vwCl [(y, .inr (9, [.int 0, .int 0, .ref y_lane, .ref y_many, .ref y_item, .ref y_city, .ref y_fresh, .int 0, .ref y_tape, .int 0, .int 0, .int 0, .int 0, .int 0, .int 0, .int 0, .int 0, .int 0, .int 0, .int 0, .ref y_cost, .ref y_away, .ref y_fee, .ref y_goesTo, .ref y_priceWas, .ref y_isKept, .ref y_kept, .ref y_trace, .int 0])), (y_lane, .inl (cI, 8, .inl la)), (y_many, .inl (cI, 8, .inl (fun _ => 0))), (y_item, .inl (cI, 320, .inl (fun _ => 0))), (x, .inr (8, [.ref xs, .ref xt, .ref xc, .ref xd, .ref xr, .ref xi, .ref xv, .ref xw, .ref xh, .ref xm, .ref xa, .int 0, .int 0]))] H := hP
    have hD : va_D A [(y, .inr (9, [.int 0, .int 0, .ref y_lane, .ref y_many, .ref y_item, .ref y_city, .ref y_fresh, .int 0, .ref y_tape, .int 0, .int 0, .int 0, .int 0, .int 0, .int 0, .int 0, .int 0, .int 0, .int 0, .int 0, .ref y_cost, .ref y_away, .ref y_fee, .ref y_goesTo, .ref y_priceWas, .ref y_isKept, .ref y_kept, .ref y_trace, .int 0])), (y_lane, .inl (cI, 8, .inl la)), (y_many, .inl (cI, 8, .inl (fun _ => 0))), (y_item, .inl (cI, 320, .inl (fun _ => 0))), (x, .inr (8, [.ref xs, .ref xt, .ref xc, .ref xd, .ref xr, .ref xi, .ref xv, .ref xw, .ref xh, .ref xm, .ref xa, .int 0, .int 0]))] := hD
    refine lv_aload_n S.1 S.2.1 dL_law_179 rfl (lv_at hl 1 rfl) ?_
    refine lv_aload_n S.1 S.2.1 dL_law_180 rfl (lv_at hl 3 rfl) ?_
    refine lv_iload_n S.1 S.2.1 dL_law_181 rfl (lv_at hl 0 rfl) ?_
    refine lv_iconst (v := 1) S.1 S.2.1 dL_law_182 (by decide) ?_
    refine lv_iadd S.1 S.2.1 dL_law_183 ?_
    refine lv_topi (fun x_7 ex_7 => ?_)
    have ex_7 : x_7 = 1 := by rw [ex_7]; decide
    subst ex_7
    refine va_sld S.1 S.2.1 hX hbl hbA hS (by unfold vp_in; decide) dL_law_184 ?_
    refine W.eq (g2 := F0 m 185 ls [.int (sc 1), .ref y, .int (sc 3)]) rfl ?_
    refine lv_aload_n S.1 S.2.1 dL_law_185 rfl (lv_at hl 3 rfl) ?_
    refine lv_iload_n S.1 S.2.1 dL_law_186 rfl (lv_at hl 0 rfl) ?_
    refine lv_iconst (v := 2) S.1 S.2.1 dL_law_187 (by decide) ?_
    refine lv_iadd S.1 S.2.1 dL_law_188 ?_
    refine lv_topi (fun x_8 ex_8 => ?_)
    have ex_8 : x_8 = 2 := by rw [ex_8]; decide
    subst ex_8
    refine va_sld S.1 S.2.1 hX hbl hbA hS (by unfold vp_in; decide) dL_law_189 ?_
    refine W.eq (g2 := F0 m 190 ls [.int (sc 2), .int (sc 1), .ref y, .int (sc 3)]) rfl ?_
    refine lv_aload_n S.1 S.2.1 dL_law_190 rfl (lv_at hl 3 rfl) ?_
    refine lv_iload_n S.1 S.2.1 dL_law_191 rfl (lv_at hl 0 rfl) ?_
    refine lv_iconst (v := 3) S.1 S.2.1 dL_law_192 (by decide) ?_
    refine lv_iadd S.1 S.2.1 dL_law_193 ?_
    refine lv_topi (fun x_9 ex_9 => ?_)
    have ex_9 : x_9 = 3 := by rw [ex_9]; decide
    subst ex_9
    refine va_sld S.1 S.2.1 hX hbl hbA hS (by unfold vp_in; decide) dL_law_194 ?_
    refine W.eq (g2 := F0 m 195 ls [.int (sc 3), .int (sc 2), .int (sc 1), .ref y, .int (sc 3)]) rfl ?_
    refine b_ai (wr := [(x, .inr (8, [.ref xs, .ref xt, .ref xc, .ref xd, .ref xr, .ref xi, .ref xv, .ref xw, .ref xh, .ref xm, .ref xa, .int 0, .int 0]))]) (b_runV (q0 := 0) (ci := 9) (As := [.int (sc 1), .int (sc 2), .int (sc 3)]) (c_X9_sheet_ok l D cI cZ cC cS sq H.size y y_lane y_many y_item y_city y_fresh y_tape y_cost y_away y_fee y_goesTo y_priceWas y_isKept y_kept y_trace (sc 1) (sc 2) (sc 3) la (fun _ => 0) (fun _ => 0) (by assumption) (by assumption) (by assumption)) S gL_law_X9_sheet rfl hdV_X9_sheet ⟨Nat.le_of_ble_eq_true rfl, Nat.le_of_ble_eq_true rfl⟩ ⟨Nat.le_of_ble_eq_true rfl, Nat.le_of_ble_eq_true rfl⟩ hK hP hD rfl rfl [0, 1, 2, 3] rfl (by decide) rfl hl.1 rfl (Nat.le_of_ble_eq_true rfl) dL_law_195) hP hD hS hA [0, 1, 2, 3] [4] rfl rfl (by decide) (by decide) (fun r_10 w_11 H locs hw_12 hP hD hS => ?_)
    obtain ⟨er_10, rfl⟩ := hw_12
    rw [er_10]
    have hP : va_P D vwCl [(x, .inr (8, [.ref xs, .ref xt, .ref xc, .ref xd, .ref xr, .ref xi, .ref xv, .ref xw, .ref xh, .ref xm, .ref xa, .int 0, .int 0]))] H := hP
    have hD : va_D A [(x, .inr (8, [.ref xs, .ref xt, .ref xc, .ref xd, .ref xr, .ref xi, .ref xv, .ref xw, .ref xh, .ref xm, .ref xa, .int 0, .int 0]))] := hD
    refine lv_icmp_eq (tgt := 1034) S.1 S.2.1 dL_law_198 (by decide) (fun c_13 => ?_) (fun c_13 => absurd rfl c_13)
    exact law_tail C hS (lv_sub hl [0, 3] rfl) (by decide) (by decide)
set_option maxHeartbeats 4000000 in
set_option maxRecDepth 100000 in
theorem law_set {p : Program} (l : Launch) {e : Env} {s : State} {m : MethodId} {below : List Frame} {meth : Method} {c : Code} (D : va_G) (cI cZ cC cS : ClassId) (sq : Nat) {b : Nat} {sc : Nat → Int32} {A : Nat → Prop} (C : lC p s m meth c b sc A) (hK : kW D (tyW cI cZ cC cS) sq s) (x : Nat) (xs : Nat) (xt : Nat) (xc : Nat) (xd : Nat) (xr : Nat) (xi : Nat) (xv : Nat) (xw : Nat) (xh : Nat) (xm : Nat) (xa : Nat) (y : Nat) (y_lane : Nat) (y_many : Nat) (y_item : Nat) (y_city : Nat) (y_fresh : Nat) (y_tape : Nat) (y_cost : Nat) (y_away : Nat) (y_fee : Nat) (y_goesTo : Nat) (y_priceWas : Nat) (y_isKept : Nat) (y_kept : Nat) (y_trace : Nat) (gs : Nat → Option Nat) (sh0 : Nat) (it0 : Nat) (sh1 : Nat) (it1 : Nat) (sh2 : Nat) (it2 : Nat) (sh3 : Nat) (it3 : Nat) (sh4 : Nat) (it4 : Nat) (sh5 : Nat) (it5 : Nat) (sh6 : Nat) (it6 : Nat) (sh7 : Nat) (it7 : Nat) (la : Nat → Int32) (hg0 : gs 0 = some sh0) (hg1 : gs 1 = some sh1) (hg2 : gs 2 = some sh2) (hg3 : gs 3 = some sh3) (hg4 : gs 4 = some sh4) (hg5 : gs 5 = some sh5) (hg6 : gs 6 = some sh6) (hg7 : gs 7 = some sh7) (hla : ∀ j, j < 8 → la j = -1) {H : Heap} {locs : List Loc} {ls : Array Slot} (hP : va_P D vwCl [(x, .inr (8, [.ref xs, .ref xt, .ref xc, .ref xd, .ref xr, .ref xi, .ref xv, .ref xw, .ref xh, .ref xm, .ref xa, .int 0, .int 0])), (xs, .inl (cS, 8, .inr (.inr (.inr (.inr gs))))), (sh0, .inr (4, [.int (-1), .int 0, .ref it0])), (it0, .inl (cI, 40, .inl (fun _ => 0))), (sh1, .inr (4, [.int (-1), .int 0, .ref it1])), (it1, .inl (cI, 40, .inl (fun _ => 0))), (sh2, .inr (4, [.int (-1), .int 0, .ref it2])), (it2, .inl (cI, 40, .inl (fun _ => 0))), (sh3, .inr (4, [.int (-1), .int 0, .ref it3])), (it3, .inl (cI, 40, .inl (fun _ => 0))), (sh4, .inr (4, [.int (-1), .int 0, .ref it4])), (it4, .inl (cI, 40, .inl (fun _ => 0))), (sh5, .inr (4, [.int (-1), .int 0, .ref it5])), (it5, .inl (cI, 40, .inl (fun _ => 0))), (sh6, .inr (4, [.int (-1), .int 0, .ref it6])), (it6, .inl (cI, 40, .inl (fun _ => 0))), (sh7, .inr (4, [.int (-1), .int 0, .ref it7])), (it7, .inl (cI, 40, .inl (fun _ => 0))), (y, .inr (9, [.int 0, .int 0, .ref y_lane, .ref y_many, .ref y_item, .ref y_city, .ref y_fresh, .int 0, .ref y_tape, .int 0, .int 0, .int 0, .int 0, .int 0, .int 0, .int 0, .int 0, .int 0, .int 0, .int 0, .ref y_cost, .ref y_away, .ref y_fee, .ref y_goesTo, .ref y_priceWas, .ref y_isKept, .ref y_kept, .ref y_trace, .int 0])), (y_lane, .inl (cI, 8, .inl la)), (y_many, .inl (cI, 8, .inl (fun _ => 0))), (y_item, .inl (cI, 320, .inl (fun _ => 0)))] H) (hD : va_D A [(x, .inr (8, [.ref xs, .ref xt, .ref xc, .ref xd, .ref xr, .ref xi, .ref xv, .ref xw, .ref xh, .ref xm, .ref xa, .int 0, .int 0])), (xs, .inl (cS, 8, .inr (.inr (.inr (.inr gs))))), (sh0, .inr (4, [.int (-1), .int 0, .ref it0])), (it0, .inl (cI, 40, .inl (fun _ => 0))), (sh1, .inr (4, [.int (-1), .int 0, .ref it1])), (it1, .inl (cI, 40, .inl (fun _ => 0))), (sh2, .inr (4, [.int (-1), .int 0, .ref it2])), (it2, .inl (cI, 40, .inl (fun _ => 0))), (sh3, .inr (4, [.int (-1), .int 0, .ref it3])), (it3, .inl (cI, 40, .inl (fun _ => 0))), (sh4, .inr (4, [.int (-1), .int 0, .ref it4])), (it4, .inl (cI, 40, .inl (fun _ => 0))), (sh5, .inr (4, [.int (-1), .int 0, .ref it5])), (it5, .inl (cI, 40, .inl (fun _ => 0))), (sh6, .inr (4, [.int (-1), .int 0, .ref it6])), (it6, .inl (cI, 40, .inl (fun _ => 0))), (sh7, .inr (4, [.int (-1), .int 0, .ref it7])), (it7, .inl (cI, 40, .inl (fun _ => 0))), (y, .inr (9, [.int 0, .int 0, .ref y_lane, .ref y_many, .ref y_item, .ref y_city, .ref y_fresh, .int 0, .ref y_tape, .int 0, .int 0, .int 0, .int 0, .int 0, .int 0, .int 0, .int 0, .int 0, .int 0, .int 0, .ref y_cost, .ref y_away, .ref y_fee, .ref y_goesTo, .ref y_priceWas, .ref y_isKept, .ref y_kept, .ref y_trace, .int 0])), (y_lane, .inl (cI, 8, .inl la)), (y_many, .inl (cI, 8, .inl (fun _ => 0))), (y_item, .inl (cI, 320, .inl (fun _ => 0)))]) (hS : va_S A s.heap H locs) (hl : lv_has ls 4 [(3, .int 0), (2, .ref y), (1, .ref x), (0, .ref b)]) : W p l e room_1 s m #[Value.ref b] below meth c H locs 98 12032 (lw_Z below #[Value.ref b] s) (F0 m 203 ls []) := by
  obtain ⟨S, hr_, hk_, hX, hbl, hA, hAf⟩ := id C
  have hbA : ¬ A b := fun z => absurd (hAf b z) (Nat.not_le.mpr hbl)
  rcases (show ((sc 1).toInt < 0 ∨ 7 < (sc 1).toInt) ∨ (0 ≤ (sc 1).toInt ∧ (sc 1).toInt ≤ 7) by omega) with hr | hr
  · refine lv_aload_n S.1 S.2.1 dL_law_203 rfl (lv_at hl 2 rfl) ?_
    refine lv_aload_n S.1 S.2.1 dL_law_204 rfl (lv_at hl 3 rfl) ?_
    refine lv_iload_n S.1 S.2.1 dL_law_205 rfl (lv_at hl 0 rfl) ?_
    refine lv_iconst (v := 1) S.1 S.2.1 dL_law_206 (by decide) ?_
    refine lv_iadd S.1 S.2.1 dL_law_207 ?_
    refine lv_topi (fun x_1 ex_1 => ?_)
    have ex_1 : x_1 = 1 := by rw [ex_1]; decide
    subst ex_1
    refine va_sld S.1 S.2.1 hX hbl hbA hS (by unfold vp_in; decide) dL_law_208 ?_
    refine W.eq (g2 := F0 m 209 ls [.int (sc 1), .ref x]) rfl ?_
    refine lv_aload_n S.1 S.2.1 dL_law_209 rfl (lv_at hl 3 rfl) ?_
    refine lv_iload_n S.1 S.2.1 dL_law_210 rfl (lv_at hl 0 rfl) ?_
    refine lv_iconst (v := 2) S.1 S.2.1 dL_law_211 (by decide) ?_
    refine lv_iadd S.1 S.2.1 dL_law_212 ?_
    refine lv_topi (fun x_2 ex_2 => ?_)
    have ex_2 : x_2 = 2 := by rw [ex_2]; decide
    subst ex_2
    refine va_sld S.1 S.2.1 hX hbl hbA hS (by unfold vp_in; decide) dL_law_213 ?_
    refine W.eq (g2 := F0 m 214 ls [.int (sc 2), .int (sc 1), .ref x]) rfl ?_
    refine lv_aload_n S.1 S.2.1 dL_law_214 rfl (lv_at hl 3 rfl) ?_
    refine lv_iload_n S.1 S.2.1 dL_law_215 rfl (lv_at hl 0 rfl) ?_
    refine lv_iconst (v := 3) S.1 S.2.1 dL_law_216 (by decide) ?_
    refine lv_iadd S.1 S.2.1 dL_law_217 ?_
    refine lv_topi (fun x_3 ex_3 => ?_)
    have ex_3 : x_3 = 3 := by rw [ex_3]; decide
    subst ex_3
    refine va_sld S.1 S.2.1 hX hbl hbA hS (by unfold vp_in; decide) dL_law_218 ?_
    refine W.eq (g2 := F0 m 219 ls [.int (sc 3), .int (sc 2), .int (sc 1), .ref x]) rfl ?_
    refine b_ai (wr := [(xs, .inl (cS, 8, .inr (.inr (.inr (.inr gs))))), (sh0, .inr (4, [.int (-1), .int 0, .ref it0])), (it0, .inl (cI, 40, .inl (fun _ => 0))), (sh1, .inr (4, [.int (-1), .int 0, .ref it1])), (it1, .inl (cI, 40, .inl (fun _ => 0))), (sh2, .inr (4, [.int (-1), .int 0, .ref it2])), (it2, .inl (cI, 40, .inl (fun _ => 0))), (sh3, .inr (4, [.int (-1), .int 0, .ref it3])), (it3, .inl (cI, 40, .inl (fun _ => 0))), (sh4, .inr (4, [.int (-1), .int 0, .ref it4])), (it4, .inl (cI, 40, .inl (fun _ => 0))), (sh5, .inr (4, [.int (-1), .int 0, .ref it5])), (it5, .inl (cI, 40, .inl (fun _ => 0))), (sh6, .inr (4, [.int (-1), .int 0, .ref it6])), (it6, .inl (cI, 40, .inl (fun _ => 0))), (sh7, .inr (4, [.int (-1), .int 0, .ref it7])), (it7, .inl (cI, 40, .inl (fun _ => 0))), (y, .inr (9, [.int 0, .int 0, .ref y_lane, .ref y_many, .ref y_item, .ref y_city, .ref y_fresh, .int 0, .ref y_tape, .int 0, .int 0, .int 0, .int 0, .int 0, .int 0, .int 0, .int 0, .int 0, .int 0, .int 0, .ref y_cost, .ref y_away, .ref y_fee, .ref y_goesTo, .ref y_priceWas, .ref y_isKept, .ref y_kept, .ref y_trace, .int 0])), (y_lane, .inl (cI, 8, .inl la)), (y_many, .inl (cI, 8, .inl (fun _ => 0))), (y_item, .inl (cI, 320, .inl (fun _ => 0)))]) (b_runV (q0 := 0) (ci := 8) (As := [.int (sc 1), .int (sc 2), .int (sc 3)]) (c_X8_set_bad l D cI cZ cC cS sq H.size x xs xt xc xd xr xi xv xw xh xm xa (sc 1) (sc 2) (sc 3) (by assumption)) S gL_law_X8_set rfl hdV_X8_set ⟨Nat.le_of_ble_eq_true rfl, Nat.le_of_ble_eq_true rfl⟩ ⟨Nat.le_of_ble_eq_true rfl, Nat.le_of_ble_eq_true rfl⟩ hK hP hD rfl rfl [0] rfl (by decide) rfl hl.1 rfl (Nat.le_of_ble_eq_true rfl) dL_law_219) hP hD hS hA [0] [1, 2, 3, 4, 5, 6, 7, 8, 9, 10, 11, 12, 13, 14, 15, 16, 17, 18, 19, 20, 21] rfl rfl (by decide) (by decide) (fun r_4 w_5 H locs hw_6 hP hD hS => ?_)
    obtain ⟨rfl, rfl⟩ := hw_6
    have hP : va_P D vwCl [(xs, .inl (cS, 8, .inr (.inr (.inr (.inr gs))))), (sh0, .inr (4, [.int (-1), .int 0, .ref it0])), (it0, .inl (cI, 40, .inl (fun _ => 0))), (sh1, .inr (4, [.int (-1), .int 0, .ref it1])), (it1, .inl (cI, 40, .inl (fun _ => 0))), (sh2, .inr (4, [.int (-1), .int 0, .ref it2])), (it2, .inl (cI, 40, .inl (fun _ => 0))), (sh3, .inr (4, [.int (-1), .int 0, .ref it3])), (it3, .inl (cI, 40, .inl (fun _ => 0))), (sh4, .inr (4, [.int (-1), .int 0, .ref it4])), (it4, .inl (cI, 40, .inl (fun _ => 0))), (sh5, .inr (4, [.int (-1), .int 0, .ref it5])), (it5, .inl (cI, 40, .inl (fun _ => 0))), (sh6, .inr (4, [.int (-1), .int 0, .ref it6])), (it6, .inl (cI, 40, .inl (fun _ => 0))), (sh7, .inr (4, [.int (-1), .int 0, .ref it7])), (it7, .inl (cI, 40, .inl (fun _ => 0))), (y, .inr (9, [.int 0, .int 0, .ref y_lane, .ref y_many, .ref y_item, .ref y_city, .ref y_fresh, .int 0, .ref y_tape, .int 0, .int 0, .int 0, .int 0, .int 0, .int 0, .int 0, .int 0, .int 0, .int 0, .int 0, .ref y_cost, .ref y_away, .ref y_fee, .ref y_goesTo, .ref y_priceWas, .ref y_isKept, .ref y_kept, .ref y_trace, .int 0])), (y_lane, .inl (cI, 8, .inl la)), (y_many, .inl (cI, 8, .inl (fun _ => 0))), (y_item, .inl (cI, 320, .inl (fun _ => 0))), (x, .inr (8, [.ref xs, .ref xt, .ref xc, .ref xd, .ref xr, .ref xi, .ref xv, .ref xw, .ref xh, .ref xm, .ref xa, .int 0, .int 0]))] H := hP
    have hD : va_D A [(xs, .inl (cS, 8, .inr (.inr (.inr (.inr gs))))), (sh0, .inr (4, [.int (-1), .int 0, .ref it0])), (it0, .inl (cI, 40, .inl (fun _ => 0))), (sh1, .inr (4, [.int (-1), .int 0, .ref it1])), (it1, .inl (cI, 40, .inl (fun _ => 0))), (sh2, .inr (4, [.int (-1), .int 0, .ref it2])), (it2, .inl (cI, 40, .inl (fun _ => 0))), (sh3, .inr (4, [.int (-1), .int 0, .ref it3])), (it3, .inl (cI, 40, .inl (fun _ => 0))), (sh4, .inr (4, [.int (-1), .int 0, .ref it4])), (it4, .inl (cI, 40, .inl (fun _ => 0))), (sh5, .inr (4, [.int (-1), .int 0, .ref it5])), (it5, .inl (cI, 40, .inl (fun _ => 0))), (sh6, .inr (4, [.int (-1), .int 0, .ref it6])), (it6, .inl (cI, 40, .inl (fun _ => 0))), (sh7, .inr (4, [.int (-1), .int 0, .ref it7])), (it7, .inl (cI, 40, .inl (fun _ => 0))), (y, .inr (9, [.int 0, .int 0, .ref y_lane, .ref y_many, .ref y_item, .ref y_city, .ref y_fresh, .int 0, .ref y_tape, .int 0, .int 0, .int 0, .int 0, .int 0, .int 0, .int 0, .int 0, .int 0, .int 0, .int 0, .ref y_cost, .ref y_away, .ref y_fee, .ref y_goesTo, .ref y_priceWas, .ref y_isKept, .ref y_kept, .ref y_trace, .int 0])), (y_lane, .inl (cI, 8, .inl la)), (y_many, .inl (cI, 8, .inl (fun _ => 0))), (y_item, .inl (cI, 320, .inl (fun _ => 0))), (x, .inr (8, [.ref xs, .ref xt, .ref xc, .ref xd, .ref xr, .ref xi, .ref xv, .ref xw, .ref xh, .ref xm, .ref xa, .int 0, .int 0]))] := hD
    refine lv_aload_n S.1 S.2.1 dL_law_222 rfl (lv_at hl 1 rfl) ?_
    refine lv_aload_n S.1 S.2.1 dL_law_223 rfl (lv_at hl 3 rfl) ?_
    refine lv_iload_n S.1 S.2.1 dL_law_224 rfl (lv_at hl 0 rfl) ?_
    refine lv_iconst (v := 1) S.1 S.2.1 dL_law_225 (by decide) ?_
    refine lv_iadd S.1 S.2.1 dL_law_226 ?_
    refine lv_topi (fun x_7 ex_7 => ?_)
    have ex_7 : x_7 = 1 := by rw [ex_7]; decide
    subst ex_7
    refine va_sld S.1 S.2.1 hX hbl hbA hS (by unfold vp_in; decide) dL_law_227 ?_
    refine W.eq (g2 := F0 m 228 ls [.int (sc 1), .ref y, .int (-1000001)]) rfl ?_
    refine lv_aload_n S.1 S.2.1 dL_law_228 rfl (lv_at hl 3 rfl) ?_
    refine lv_iload_n S.1 S.2.1 dL_law_229 rfl (lv_at hl 0 rfl) ?_
    refine lv_iconst (v := 2) S.1 S.2.1 dL_law_230 (by decide) ?_
    refine lv_iadd S.1 S.2.1 dL_law_231 ?_
    refine lv_topi (fun x_8 ex_8 => ?_)
    have ex_8 : x_8 = 2 := by rw [ex_8]; decide
    subst ex_8
    refine va_sld S.1 S.2.1 hX hbl hbA hS (by unfold vp_in; decide) dL_law_232 ?_
    refine W.eq (g2 := F0 m 233 ls [.int (sc 2), .int (sc 1), .ref y, .int (-1000001)]) rfl ?_
    refine lv_aload_n S.1 S.2.1 dL_law_233 rfl (lv_at hl 3 rfl) ?_
    refine lv_iload_n S.1 S.2.1 dL_law_234 rfl (lv_at hl 0 rfl) ?_
    refine lv_iconst (v := 3) S.1 S.2.1 dL_law_235 (by decide) ?_
    refine lv_iadd S.1 S.2.1 dL_law_236 ?_
    refine lv_topi (fun x_9 ex_9 => ?_)
    have ex_9 : x_9 = 3 := by rw [ex_9]; decide
    subst ex_9
    refine va_sld S.1 S.2.1 hX hbl hbA hS (by unfold vp_in; decide) dL_law_237 ?_
    refine W.eq (g2 := F0 m 238 ls [.int (sc 3), .int (sc 2), .int (sc 1), .ref y, .int (-1000001)]) rfl ?_
    refine b_ai (wr := [(xs, .inl (cS, 8, .inr (.inr (.inr (.inr gs))))), (sh0, .inr (4, [.int (-1), .int 0, .ref it0])), (it0, .inl (cI, 40, .inl (fun _ => 0))), (sh1, .inr (4, [.int (-1), .int 0, .ref it1])), (it1, .inl (cI, 40, .inl (fun _ => 0))), (sh2, .inr (4, [.int (-1), .int 0, .ref it2])), (it2, .inl (cI, 40, .inl (fun _ => 0))), (sh3, .inr (4, [.int (-1), .int 0, .ref it3])), (it3, .inl (cI, 40, .inl (fun _ => 0))), (sh4, .inr (4, [.int (-1), .int 0, .ref it4])), (it4, .inl (cI, 40, .inl (fun _ => 0))), (sh5, .inr (4, [.int (-1), .int 0, .ref it5])), (it5, .inl (cI, 40, .inl (fun _ => 0))), (sh6, .inr (4, [.int (-1), .int 0, .ref it6])), (it6, .inl (cI, 40, .inl (fun _ => 0))), (sh7, .inr (4, [.int (-1), .int 0, .ref it7])), (it7, .inl (cI, 40, .inl (fun _ => 0))), (y_lane, .inl (cI, 8, .inl la)), (y_many, .inl (cI, 8, .inl (fun _ => 0))), (y_item, .inl (cI, 320, .inl (fun _ => 0))), (x, .inr (8, [.ref xs, .ref xt, .ref xc, .ref xd, .ref xr, .ref xi, .ref xv, .ref xw, .ref xh, .ref xm, .ref xa, .int 0, .int 0]))]) (b_runV (q0 := 17) (ci := 9) (As := [.int (sc 1), .int (sc 2), .int (sc 3)]) (c_X9_set_bad l D cI cZ cC cS sq H.size y y_lane y_many y_item y_city y_fresh y_tape y_cost y_away y_fee y_goesTo y_priceWas y_isKept y_kept y_trace (sc 1) (sc 2) (sc 3) (by assumption)) S gL_law_X9_set rfl hdV_X9_set ⟨Nat.le_of_ble_eq_true rfl, Nat.le_of_ble_eq_true rfl⟩ ⟨Nat.le_of_ble_eq_true rfl, Nat.le_of_ble_eq_true rfl⟩ hK hP hD rfl rfl [17] rfl (by decide) rfl hl.1 rfl (Nat.le_of_ble_eq_true rfl) dL_law_238) hP hD hS hA [17] [0, 1, 2, 3, 4, 5, 6, 7, 8, 9, 10, 11, 12, 13, 14, 15, 16, 18, 19, 20, 21] rfl rfl (by decide) (by decide) (fun r_10 w_11 H locs hw_12 hP hD hS => ?_)
    obtain ⟨rfl, rfl⟩ := hw_12
    have hP : va_P D vwCl [(xs, .inl (cS, 8, .inr (.inr (.inr (.inr gs))))), (sh0, .inr (4, [.int (-1), .int 0, .ref it0])), (it0, .inl (cI, 40, .inl (fun _ => 0))), (sh1, .inr (4, [.int (-1), .int 0, .ref it1])), (it1, .inl (cI, 40, .inl (fun _ => 0))), (sh2, .inr (4, [.int (-1), .int 0, .ref it2])), (it2, .inl (cI, 40, .inl (fun _ => 0))), (sh3, .inr (4, [.int (-1), .int 0, .ref it3])), (it3, .inl (cI, 40, .inl (fun _ => 0))), (sh4, .inr (4, [.int (-1), .int 0, .ref it4])), (it4, .inl (cI, 40, .inl (fun _ => 0))), (sh5, .inr (4, [.int (-1), .int 0, .ref it5])), (it5, .inl (cI, 40, .inl (fun _ => 0))), (sh6, .inr (4, [.int (-1), .int 0, .ref it6])), (it6, .inl (cI, 40, .inl (fun _ => 0))), (sh7, .inr (4, [.int (-1), .int 0, .ref it7])), (it7, .inl (cI, 40, .inl (fun _ => 0))), (y_lane, .inl (cI, 8, .inl la)), (y_many, .inl (cI, 8, .inl (fun _ => 0))), (y_item, .inl (cI, 320, .inl (fun _ => 0))), (x, .inr (8, [.ref xs, .ref xt, .ref xc, .ref xd, .ref xr, .ref xi, .ref xv, .ref xw, .ref xh, .ref xm, .ref xa, .int 0, .int 0]))] H := hP
    have hD : va_D A [(xs, .inl (cS, 8, .inr (.inr (.inr (.inr gs))))), (sh0, .inr (4, [.int (-1), .int 0, .ref it0])), (it0, .inl (cI, 40, .inl (fun _ => 0))), (sh1, .inr (4, [.int (-1), .int 0, .ref it1])), (it1, .inl (cI, 40, .inl (fun _ => 0))), (sh2, .inr (4, [.int (-1), .int 0, .ref it2])), (it2, .inl (cI, 40, .inl (fun _ => 0))), (sh3, .inr (4, [.int (-1), .int 0, .ref it3])), (it3, .inl (cI, 40, .inl (fun _ => 0))), (sh4, .inr (4, [.int (-1), .int 0, .ref it4])), (it4, .inl (cI, 40, .inl (fun _ => 0))), (sh5, .inr (4, [.int (-1), .int 0, .ref it5])), (it5, .inl (cI, 40, .inl (fun _ => 0))), (sh6, .inr (4, [.int (-1), .int 0, .ref it6])), (it6, .inl (cI, 40, .inl (fun _ => 0))), (sh7, .inr (4, [.int (-1), .int 0, .ref it7])), (it7, .inl (cI, 40, .inl (fun _ => 0))), (y_lane, .inl (cI, 8, .inl la)), (y_many, .inl (cI, 8, .inl (fun _ => 0))), (y_item, .inl (cI, 320, .inl (fun _ => 0))), (x, .inr (8, [.ref xs, .ref xt, .ref xc, .ref xd, .ref xr, .ref xi, .ref xv, .ref xw, .ref xh, .ref xm, .ref xa, .int 0, .int 0]))] := hD
    refine lv_icmp_eq (tgt := 1034) S.1 S.2.1 dL_law_241 (by decide) (fun c_13 => ?_) (fun c_13 => absurd c_13 (by decide))
    exact law_tail C hS (lv_sub hl [0, 3] rfl) (by decide) (by decide)
  · have hj : (sc 1).toNatClampNeg < 8 := cl8 hr
    obtain ⟨sh, it, hfs, hP, hD⟩ : ∃ (sh it : Nat), gs (sc 1).toNatClampNeg = some sh ∧ va_P D vwCl [(x, .inr (8, [.ref xs, .ref xt, .ref xc, .ref xd, .ref xr, .ref xi, .ref xv, .ref xw, .ref xh, .ref xm, .ref xa, .int 0, .int 0])), (xs, .inl (cS, 8, .inr (.inr (.inr (.inr gs))))), (sh, .inr (4, [.int (-1), .int 0, .ref it])), (it, .inl (cI, 40, .inl (fun _ => 0))), (y, .inr (9, [.int 0, .int 0, .ref y_lane, .ref y_many, .ref y_item, .ref y_city, .ref y_fresh, .int 0, .ref y_tape, .int 0, .int 0, .int 0, .int 0, .int 0, .int 0, .int 0, .int 0, .int 0, .int 0, .int 0, .ref y_cost, .ref y_away, .ref y_fee, .ref y_goesTo, .ref y_priceWas, .ref y_isKept, .ref y_kept, .ref y_trace, .int 0])), (y_lane, .inl (cI, 8, .inl la)), (y_many, .inl (cI, 8, .inl (fun _ => 0))), (y_item, .inl (cI, 320, .inl (fun _ => 0)))] H ∧ va_D A [(x, .inr (8, [.ref xs, .ref xt, .ref xc, .ref xd, .ref xr, .ref xi, .ref xv, .ref xw, .ref xh, .ref xm, .ref xa, .int 0, .int 0])), (xs, .inl (cS, 8, .inr (.inr (.inr (.inr gs))))), (sh, .inr (4, [.int (-1), .int 0, .ref it])), (it, .inl (cI, 40, .inl (fun _ => 0))), (y, .inr (9, [.int 0, .int 0, .ref y_lane, .ref y_many, .ref y_item, .ref y_city, .ref y_fresh, .int 0, .ref y_tape, .int 0, .int 0, .int 0, .int 0, .int 0, .int 0, .int 0, .int 0, .int 0, .int 0, .int 0, .ref y_cost, .ref y_away, .ref y_fee, .ref y_goesTo, .ref y_priceWas, .ref y_isKept, .ref y_kept, .ref y_trace, .int 0])), (y_lane, .inl (cI, 8, .inl la)), (y_many, .inl (cI, 8, .inl (fun _ => 0))), (y_item, .inl (cI, 320, .inl (fun _ => 0)))] := by
      generalize (sc 1).toNatClampNeg = j at hj ⊢
      rcases (show j = 0 ∨ j = 1 ∨ j = 2 ∨ j = 3 ∨ j = 4 ∨ j = 5 ∨ j = 6 ∨ j = 7 by omega) with rfl | rfl | rfl | rfl | rfl | rfl | rfl | rfl
      · exact ⟨sh0, it0, hg0, hP.sub [0, 1, 2, 3, 18, 19, 20, 21] rfl, hD.sub [0, 1, 2, 3, 18, 19, 20, 21] (by decide) rfl⟩
      · exact ⟨sh1, it1, hg1, hP.sub [0, 1, 4, 5, 18, 19, 20, 21] rfl, hD.sub [0, 1, 4, 5, 18, 19, 20, 21] (by decide) rfl⟩
      · exact ⟨sh2, it2, hg2, hP.sub [0, 1, 6, 7, 18, 19, 20, 21] rfl, hD.sub [0, 1, 6, 7, 18, 19, 20, 21] (by decide) rfl⟩
      · exact ⟨sh3, it3, hg3, hP.sub [0, 1, 8, 9, 18, 19, 20, 21] rfl, hD.sub [0, 1, 8, 9, 18, 19, 20, 21] (by decide) rfl⟩
      · exact ⟨sh4, it4, hg4, hP.sub [0, 1, 10, 11, 18, 19, 20, 21] rfl, hD.sub [0, 1, 10, 11, 18, 19, 20, 21] (by decide) rfl⟩
      · exact ⟨sh5, it5, hg5, hP.sub [0, 1, 12, 13, 18, 19, 20, 21] rfl, hD.sub [0, 1, 12, 13, 18, 19, 20, 21] (by decide) rfl⟩
      · exact ⟨sh6, it6, hg6, hP.sub [0, 1, 14, 15, 18, 19, 20, 21] rfl, hD.sub [0, 1, 14, 15, 18, 19, 20, 21] (by decide) rfl⟩
      · exact ⟨sh7, it7, hg7, hP.sub [0, 1, 16, 17, 18, 19, 20, 21] rfl, hD.sub [0, 1, 16, 17, 18, 19, 20, 21] (by decide) rfl⟩
    refine lv_aload_n S.1 S.2.1 dL_law_203 rfl (lv_at hl 2 rfl) ?_
    refine lv_aload_n S.1 S.2.1 dL_law_204 rfl (lv_at hl 3 rfl) ?_
    refine lv_iload_n S.1 S.2.1 dL_law_205 rfl (lv_at hl 0 rfl) ?_
    refine lv_iconst (v := 1) S.1 S.2.1 dL_law_206 (by decide) ?_
    refine lv_iadd S.1 S.2.1 dL_law_207 ?_
    refine lv_topi (fun x_1 ex_1 => ?_)
    have ex_1 : x_1 = 1 := by rw [ex_1]; decide
    subst ex_1
    refine va_sld S.1 S.2.1 hX hbl hbA hS (by unfold vp_in; decide) dL_law_208 ?_
    refine W.eq (g2 := F0 m 209 ls [.int (sc 1), .ref x]) rfl ?_
    refine lv_aload_n S.1 S.2.1 dL_law_209 rfl (lv_at hl 3 rfl) ?_
    refine lv_iload_n S.1 S.2.1 dL_law_210 rfl (lv_at hl 0 rfl) ?_
    refine lv_iconst (v := 2) S.1 S.2.1 dL_law_211 (by decide) ?_
    refine lv_iadd S.1 S.2.1 dL_law_212 ?_
    refine lv_topi (fun x_2 ex_2 => ?_)
    have ex_2 : x_2 = 2 := by rw [ex_2]; decide
    subst ex_2
    refine va_sld S.1 S.2.1 hX hbl hbA hS (by unfold vp_in; decide) dL_law_213 ?_
    refine W.eq (g2 := F0 m 214 ls [.int (sc 2), .int (sc 1), .ref x]) rfl ?_
    refine lv_aload_n S.1 S.2.1 dL_law_214 rfl (lv_at hl 3 rfl) ?_
    refine lv_iload_n S.1 S.2.1 dL_law_215 rfl (lv_at hl 0 rfl) ?_
    refine lv_iconst (v := 3) S.1 S.2.1 dL_law_216 (by decide) ?_
    refine lv_iadd S.1 S.2.1 dL_law_217 ?_
    refine lv_topi (fun x_3 ex_3 => ?_)
    have ex_3 : x_3 = 3 := by rw [ex_3]; decide
    subst ex_3
    refine va_sld S.1 S.2.1 hX hbl hbA hS (by unfold vp_in; decide) dL_law_218 ?_
    refine W.eq (g2 := F0 m 219 ls [.int (sc 3), .int (sc 2), .int (sc 1), .ref x]) rfl ?_
    refine b_ai (wr := [(it, .inl (cI, 40, .inl (fun _ => 0))), (y, .inr (9, [.int 0, .int 0, .ref y_lane, .ref y_many, .ref y_item, .ref y_city, .ref y_fresh, .int 0, .ref y_tape, .int 0, .int 0, .int 0, .int 0, .int 0, .int 0, .int 0, .int 0, .int 0, .int 0, .int 0, .ref y_cost, .ref y_away, .ref y_fee, .ref y_goesTo, .ref y_priceWas, .ref y_isKept, .ref y_kept, .ref y_trace, .int 0])), (y_lane, .inl (cI, 8, .inl la)), (y_many, .inl (cI, 8, .inl (fun _ => 0))), (y_item, .inl (cI, 320, .inl (fun _ => 0)))]) (b_runV (q0 := 0) (ci := 8) (As := [.int (sc 1), .int (sc 2), .int (sc 3)]) (c_X8_set_ok l D cI cZ cC cS sq H.size x xs xt xc xd xr xi xv xw xh xm xa gs sh it (sc 1) (sc 2) (sc 3) (by assumption) (by assumption)) S gL_law_X8_set rfl hdV_X8_set ⟨Nat.le_of_ble_eq_true rfl, Nat.le_of_ble_eq_true rfl⟩ ⟨Nat.le_of_ble_eq_true rfl, Nat.le_of_ble_eq_true rfl⟩ hK hP hD rfl rfl [0, 1, 2] rfl (by decide) rfl hl.1 rfl (Nat.le_of_ble_eq_true rfl) dL_law_219) hP hD hS hA [0, 1, 2] [3, 4, 5, 6, 7] rfl rfl (by decide) (by decide) (fun r_4 w_5 H locs hw_6 hP hD hS => ?_)
    obtain ⟨rfl, rfl⟩ := hw_6
    have hP : va_P D vwCl [(it, .inl (cI, 40, .inl (fun _ => 0))), (y, .inr (9, [.int 0, .int 0, .ref y_lane, .ref y_many, .ref y_item, .ref y_city, .ref y_fresh, .int 0, .ref y_tape, .int 0, .int 0, .int 0, .int 0, .int 0, .int 0, .int 0, .int 0, .int 0, .int 0, .int 0, .ref y_cost, .ref y_away, .ref y_fee, .ref y_goesTo, .ref y_priceWas, .ref y_isKept, .ref y_kept, .ref y_trace, .int 0])), (y_lane, .inl (cI, 8, .inl la)), (y_many, .inl (cI, 8, .inl (fun _ => 0))), (y_item, .inl (cI, 320, .inl (fun _ => 0))), (xs, .inl (cS, 8, .inr (.inr (.inr (.inr gs))))), (sh, .inr (4, [.int (-1), .int 0, .ref it])), (x, .inr (8, [.ref xs, .ref xt, .ref xc, .ref xd, .ref xr, .ref xi, .ref xv, .ref xw, .ref xh, .ref xm, .ref xa, .int 0, .int 1]))] H := hP
    have hD : va_D A [(it, .inl (cI, 40, .inl (fun _ => 0))), (y, .inr (9, [.int 0, .int 0, .ref y_lane, .ref y_many, .ref y_item, .ref y_city, .ref y_fresh, .int 0, .ref y_tape, .int 0, .int 0, .int 0, .int 0, .int 0, .int 0, .int 0, .int 0, .int 0, .int 0, .int 0, .ref y_cost, .ref y_away, .ref y_fee, .ref y_goesTo, .ref y_priceWas, .ref y_isKept, .ref y_kept, .ref y_trace, .int 0])), (y_lane, .inl (cI, 8, .inl la)), (y_many, .inl (cI, 8, .inl (fun _ => 0))), (y_item, .inl (cI, 320, .inl (fun _ => 0))), (xs, .inl (cS, 8, .inr (.inr (.inr (.inr gs))))), (sh, .inr (4, [.int (-1), .int 0, .ref it])), (x, .inr (8, [.ref xs, .ref xt, .ref xc, .ref xd, .ref xr, .ref xi, .ref xv, .ref xw, .ref xh, .ref xm, .ref xa, .int 0, .int 1]))] := hD
    refine lv_aload_n S.1 S.2.1 dL_law_222 rfl (lv_at hl 1 rfl) ?_
    refine lv_aload_n S.1 S.2.1 dL_law_223 rfl (lv_at hl 3 rfl) ?_
    refine lv_iload_n S.1 S.2.1 dL_law_224 rfl (lv_at hl 0 rfl) ?_
    refine lv_iconst (v := 1) S.1 S.2.1 dL_law_225 (by decide) ?_
    refine lv_iadd S.1 S.2.1 dL_law_226 ?_
    refine lv_topi (fun x_7 ex_7 => ?_)
    have ex_7 : x_7 = 1 := by rw [ex_7]; decide
    subst ex_7
    refine va_sld S.1 S.2.1 hX hbl hbA hS (by unfold vp_in; decide) dL_law_227 ?_
    refine W.eq (g2 := F0 m 228 ls [.int (sc 1), .ref y, .int (-1000011)]) rfl ?_
    refine lv_aload_n S.1 S.2.1 dL_law_228 rfl (lv_at hl 3 rfl) ?_
    refine lv_iload_n S.1 S.2.1 dL_law_229 rfl (lv_at hl 0 rfl) ?_
    refine lv_iconst (v := 2) S.1 S.2.1 dL_law_230 (by decide) ?_
    refine lv_iadd S.1 S.2.1 dL_law_231 ?_
    refine lv_topi (fun x_8 ex_8 => ?_)
    have ex_8 : x_8 = 2 := by rw [ex_8]; decide
    subst ex_8
    refine va_sld S.1 S.2.1 hX hbl hbA hS (by unfold vp_in; decide) dL_law_232 ?_
    refine W.eq (g2 := F0 m 233 ls [.int (sc 2), .int (sc 1), .ref y, .int (-1000011)]) rfl ?_
    refine lv_aload_n S.1 S.2.1 dL_law_233 rfl (lv_at hl 3 rfl) ?_
    refine lv_iload_n S.1 S.2.1 dL_law_234 rfl (lv_at hl 0 rfl) ?_
    refine lv_iconst (v := 3) S.1 S.2.1 dL_law_235 (by decide) ?_
    refine lv_iadd S.1 S.2.1 dL_law_236 ?_
    refine lv_topi (fun x_9 ex_9 => ?_)
    have ex_9 : x_9 = 3 := by rw [ex_9]; decide
    subst ex_9
    refine va_sld S.1 S.2.1 hX hbl hbA hS (by unfold vp_in; decide) dL_law_237 ?_
    refine W.eq (g2 := F0 m 238 ls [.int (sc 3), .int (sc 2), .int (sc 1), .ref y, .int (-1000011)]) rfl ?_
    refine b_ai (wr := [(it, .inl (cI, 40, .inl (fun _ => 0))), (y_many, .inl (cI, 8, .inl (fun _ => 0))), (y_item, .inl (cI, 320, .inl (fun _ => 0))), (xs, .inl (cS, 8, .inr (.inr (.inr (.inr gs))))), (sh, .inr (4, [.int (-1), .int 0, .ref it])), (x, .inr (8, [.ref xs, .ref xt, .ref xc, .ref xd, .ref xr, .ref xi, .ref xv, .ref xw, .ref xh, .ref xm, .ref xa, .int 0, .int 1]))]) (b_runV (q0 := 1) (ci := 9) (As := [.int (sc 1), .int (sc 2), .int (sc 3)]) (c_X9_set_ok l D cI cZ cC cS sq H.size y y_lane y_many y_item y_city y_fresh y_tape y_cost y_away y_fee y_goesTo y_priceWas y_isKept y_kept y_trace (sc 1) (sc 2) (sc 3) la (by assumption) (by assumption)) S gL_law_X9_set rfl hdV_X9_set ⟨Nat.le_of_ble_eq_true rfl, Nat.le_of_ble_eq_true rfl⟩ ⟨Nat.le_of_ble_eq_true rfl, Nat.le_of_ble_eq_true rfl⟩ hK hP hD rfl rfl [1, 2] rfl (by decide) rfl hl.1 rfl (Nat.le_of_ble_eq_true rfl) dL_law_238) hP hD hS hA [1, 2] [0, 3, 4, 5, 6, 7] rfl rfl (by decide) (by decide) (fun r_10 w_11 H locs hw_12 hP hD hS => ?_)
    obtain ⟨rfl, rfl⟩ := hw_12
    have hP : va_P D vwCl [(it, .inl (cI, 40, .inl (fun _ => 0))), (y_many, .inl (cI, 8, .inl (fun _ => 0))), (y_item, .inl (cI, 320, .inl (fun _ => 0))), (xs, .inl (cS, 8, .inr (.inr (.inr (.inr gs))))), (sh, .inr (4, [.int (-1), .int 0, .ref it])), (x, .inr (8, [.ref xs, .ref xt, .ref xc, .ref xd, .ref xr, .ref xi, .ref xv, .ref xw, .ref xh, .ref xm, .ref xa, .int 0, .int 1]))] H := hP
    have hD : va_D A [(it, .inl (cI, 40, .inl (fun _ => 0))), (y_many, .inl (cI, 8, .inl (fun _ => 0))), (y_item, .inl (cI, 320, .inl (fun _ => 0))), (xs, .inl (cS, 8, .inr (.inr (.inr (.inr gs))))), (sh, .inr (4, [.int (-1), .int 0, .ref it])), (x, .inr (8, [.ref xs, .ref xt, .ref xc, .ref xd, .ref xr, .ref xi, .ref xv, .ref xw, .ref xh, .ref xm, .ref xa, .int 0, .int 1]))] := hD
    refine lv_icmp_eq (tgt := 1034) S.1 S.2.1 dL_law_241 (by decide) (fun c_13 => ?_) (fun c_13 => absurd c_13 (by decide))
    exact law_tail C hS (lv_sub hl [0, 3] rfl) (by decide) (by decide)
set_option maxHeartbeats 4000000 in
set_option maxRecDepth 100000 in
theorem law_drop {p : Program} (l : Launch) {e : Env} {s : State} {m : MethodId} {below : List Frame} {meth : Method} {c : Code} (D : va_G) (cI cZ cC cS : ClassId) (sq : Nat) {b : Nat} {sc : Nat → Int32} {A : Nat → Prop} (C : lC p s m meth c b sc A) (hK : kW D (tyW cI cZ cC cS) sq s) (x : Nat) (xs : Nat) (xt : Nat) (xc : Nat) (xd : Nat) (xr : Nat) (xi : Nat) (xv : Nat) (xw : Nat) (xh : Nat) (xm : Nat) (xa : Nat) (y : Nat) (y_lane : Nat) (y_many : Nat) (y_item : Nat) (y_city : Nat) (y_fresh : Nat) (y_tape : Nat) (y_cost : Nat) (y_away : Nat) (y_fee : Nat) (y_goesTo : Nat) (y_priceWas : Nat) (y_isKept : Nat) (y_kept : Nat) (y_trace : Nat) (gs : Nat → Option Nat) (sh0 : Nat) (it0 : Nat) (sh1 : Nat) (it1 : Nat) (sh2 : Nat) (it2 : Nat) (sh3 : Nat) (it3 : Nat) (sh4 : Nat) (it4 : Nat) (sh5 : Nat) (it5 : Nat) (sh6 : Nat) (it6 : Nat) (sh7 : Nat) (it7 : Nat) (la : Nat → Int32) (hg0 : gs 0 = some sh0) (hg1 : gs 1 = some sh1) (hg2 : gs 2 = some sh2) (hg3 : gs 3 = some sh3) (hg4 : gs 4 = some sh4) (hg5 : gs 5 = some sh5) (hg6 : gs 6 = some sh6) (hg7 : gs 7 = some sh7) (hla : ∀ j, j < 8 → la j = -1) {H : Heap} {locs : List Loc} {ls : Array Slot} (hP : va_P D vwCl [(x, .inr (8, [.ref xs, .ref xt, .ref xc, .ref xd, .ref xr, .ref xi, .ref xv, .ref xw, .ref xh, .ref xm, .ref xa, .int 0, .int 0])), (xs, .inl (cS, 8, .inr (.inr (.inr (.inr gs))))), (sh0, .inr (4, [.int (-1), .int 0, .ref it0])), (it0, .inl (cI, 40, .inl (fun _ => 0))), (sh1, .inr (4, [.int (-1), .int 0, .ref it1])), (it1, .inl (cI, 40, .inl (fun _ => 0))), (sh2, .inr (4, [.int (-1), .int 0, .ref it2])), (it2, .inl (cI, 40, .inl (fun _ => 0))), (sh3, .inr (4, [.int (-1), .int 0, .ref it3])), (it3, .inl (cI, 40, .inl (fun _ => 0))), (sh4, .inr (4, [.int (-1), .int 0, .ref it4])), (it4, .inl (cI, 40, .inl (fun _ => 0))), (sh5, .inr (4, [.int (-1), .int 0, .ref it5])), (it5, .inl (cI, 40, .inl (fun _ => 0))), (sh6, .inr (4, [.int (-1), .int 0, .ref it6])), (it6, .inl (cI, 40, .inl (fun _ => 0))), (sh7, .inr (4, [.int (-1), .int 0, .ref it7])), (it7, .inl (cI, 40, .inl (fun _ => 0))), (y, .inr (9, [.int 0, .int 0, .ref y_lane, .ref y_many, .ref y_item, .ref y_city, .ref y_fresh, .int 0, .ref y_tape, .int 0, .int 0, .int 0, .int 0, .int 0, .int 0, .int 0, .int 0, .int 0, .int 0, .int 0, .ref y_cost, .ref y_away, .ref y_fee, .ref y_goesTo, .ref y_priceWas, .ref y_isKept, .ref y_kept, .ref y_trace, .int 0])), (y_lane, .inl (cI, 8, .inl la)), (y_many, .inl (cI, 8, .inl (fun _ => 0))), (y_item, .inl (cI, 320, .inl (fun _ => 0)))] H) (hD : va_D A [(x, .inr (8, [.ref xs, .ref xt, .ref xc, .ref xd, .ref xr, .ref xi, .ref xv, .ref xw, .ref xh, .ref xm, .ref xa, .int 0, .int 0])), (xs, .inl (cS, 8, .inr (.inr (.inr (.inr gs))))), (sh0, .inr (4, [.int (-1), .int 0, .ref it0])), (it0, .inl (cI, 40, .inl (fun _ => 0))), (sh1, .inr (4, [.int (-1), .int 0, .ref it1])), (it1, .inl (cI, 40, .inl (fun _ => 0))), (sh2, .inr (4, [.int (-1), .int 0, .ref it2])), (it2, .inl (cI, 40, .inl (fun _ => 0))), (sh3, .inr (4, [.int (-1), .int 0, .ref it3])), (it3, .inl (cI, 40, .inl (fun _ => 0))), (sh4, .inr (4, [.int (-1), .int 0, .ref it4])), (it4, .inl (cI, 40, .inl (fun _ => 0))), (sh5, .inr (4, [.int (-1), .int 0, .ref it5])), (it5, .inl (cI, 40, .inl (fun _ => 0))), (sh6, .inr (4, [.int (-1), .int 0, .ref it6])), (it6, .inl (cI, 40, .inl (fun _ => 0))), (sh7, .inr (4, [.int (-1), .int 0, .ref it7])), (it7, .inl (cI, 40, .inl (fun _ => 0))), (y, .inr (9, [.int 0, .int 0, .ref y_lane, .ref y_many, .ref y_item, .ref y_city, .ref y_fresh, .int 0, .ref y_tape, .int 0, .int 0, .int 0, .int 0, .int 0, .int 0, .int 0, .int 0, .int 0, .int 0, .int 0, .ref y_cost, .ref y_away, .ref y_fee, .ref y_goesTo, .ref y_priceWas, .ref y_isKept, .ref y_kept, .ref y_trace, .int 0])), (y_lane, .inl (cI, 8, .inl la)), (y_many, .inl (cI, 8, .inl (fun _ => 0))), (y_item, .inl (cI, 320, .inl (fun _ => 0)))]) (hS : va_S A s.heap H locs) (hl : lv_has ls 4 [(3, .int 0), (2, .ref y), (1, .ref x), (0, .ref b)]) : W p l e room_1 s m #[Value.ref b] below meth c H locs 98 12032 (lw_Z below #[Value.ref b] s) (F0 m 309 ls []) := by
  obtain ⟨S, hr_, hk_, hX, hbl, hA, hAf⟩ := id C
  have hbA : ¬ A b := fun z => absurd (hAf b z) (Nat.not_le.mpr hbl)
  rcases (show ((sc 1).toInt < 0 ∨ 7 < (sc 1).toInt) ∨ (0 ≤ (sc 1).toInt ∧ (sc 1).toInt ≤ 7) by omega) with hr | hr
  · refine lv_aload_n S.1 S.2.1 dL_law_309 rfl (lv_at hl 2 rfl) ?_
    refine lv_aload_n S.1 S.2.1 dL_law_310 rfl (lv_at hl 3 rfl) ?_
    refine lv_iload_n S.1 S.2.1 dL_law_311 rfl (lv_at hl 0 rfl) ?_
    refine lv_iconst (v := 1) S.1 S.2.1 dL_law_312 (by decide) ?_
    refine lv_iadd S.1 S.2.1 dL_law_313 ?_
    refine lv_topi (fun x_1 ex_1 => ?_)
    have ex_1 : x_1 = 1 := by rw [ex_1]; decide
    subst ex_1
    refine va_sld S.1 S.2.1 hX hbl hbA hS (by unfold vp_in; decide) dL_law_314 ?_
    refine W.eq (g2 := F0 m 315 ls [.int (sc 1), .ref x]) rfl ?_
    refine b_ai (wr := [(xs, .inl (cS, 8, .inr (.inr (.inr (.inr gs))))), (sh0, .inr (4, [.int (-1), .int 0, .ref it0])), (it0, .inl (cI, 40, .inl (fun _ => 0))), (sh1, .inr (4, [.int (-1), .int 0, .ref it1])), (it1, .inl (cI, 40, .inl (fun _ => 0))), (sh2, .inr (4, [.int (-1), .int 0, .ref it2])), (it2, .inl (cI, 40, .inl (fun _ => 0))), (sh3, .inr (4, [.int (-1), .int 0, .ref it3])), (it3, .inl (cI, 40, .inl (fun _ => 0))), (sh4, .inr (4, [.int (-1), .int 0, .ref it4])), (it4, .inl (cI, 40, .inl (fun _ => 0))), (sh5, .inr (4, [.int (-1), .int 0, .ref it5])), (it5, .inl (cI, 40, .inl (fun _ => 0))), (sh6, .inr (4, [.int (-1), .int 0, .ref it6])), (it6, .inl (cI, 40, .inl (fun _ => 0))), (sh7, .inr (4, [.int (-1), .int 0, .ref it7])), (it7, .inl (cI, 40, .inl (fun _ => 0))), (y, .inr (9, [.int 0, .int 0, .ref y_lane, .ref y_many, .ref y_item, .ref y_city, .ref y_fresh, .int 0, .ref y_tape, .int 0, .int 0, .int 0, .int 0, .int 0, .int 0, .int 0, .int 0, .int 0, .int 0, .int 0, .ref y_cost, .ref y_away, .ref y_fee, .ref y_goesTo, .ref y_priceWas, .ref y_isKept, .ref y_kept, .ref y_trace, .int 0])), (y_lane, .inl (cI, 8, .inl la)), (y_many, .inl (cI, 8, .inl (fun _ => 0))), (y_item, .inl (cI, 320, .inl (fun _ => 0)))]) (b_runV (q0 := 0) (ci := 8) (As := [.int (sc 1)]) (c_X8_drop_bad l D cI cZ cC cS sq H.size x xs xt xc xd xr xi xv xw xh xm xa (sc 1) (by assumption)) S gL_law_X8_drop rfl hdV_X8_drop ⟨Nat.le_of_ble_eq_true rfl, Nat.le_of_ble_eq_true rfl⟩ ⟨Nat.le_of_ble_eq_true rfl, Nat.le_of_ble_eq_true rfl⟩ hK hP hD rfl rfl [0] rfl (by decide) rfl hl.1 rfl (Nat.le_of_ble_eq_true rfl) dL_law_315) hP hD hS hA [0] [1, 2, 3, 4, 5, 6, 7, 8, 9, 10, 11, 12, 13, 14, 15, 16, 17, 18, 19, 20, 21] rfl rfl (by decide) (by decide) (fun r_2 w_3 H locs hw_4 hP hD hS => ?_)
    obtain ⟨rfl, rfl⟩ := hw_4
    have hP : va_P D vwCl [(xs, .inl (cS, 8, .inr (.inr (.inr (.inr gs))))), (sh0, .inr (4, [.int (-1), .int 0, .ref it0])), (it0, .inl (cI, 40, .inl (fun _ => 0))), (sh1, .inr (4, [.int (-1), .int 0, .ref it1])), (it1, .inl (cI, 40, .inl (fun _ => 0))), (sh2, .inr (4, [.int (-1), .int 0, .ref it2])), (it2, .inl (cI, 40, .inl (fun _ => 0))), (sh3, .inr (4, [.int (-1), .int 0, .ref it3])), (it3, .inl (cI, 40, .inl (fun _ => 0))), (sh4, .inr (4, [.int (-1), .int 0, .ref it4])), (it4, .inl (cI, 40, .inl (fun _ => 0))), (sh5, .inr (4, [.int (-1), .int 0, .ref it5])), (it5, .inl (cI, 40, .inl (fun _ => 0))), (sh6, .inr (4, [.int (-1), .int 0, .ref it6])), (it6, .inl (cI, 40, .inl (fun _ => 0))), (sh7, .inr (4, [.int (-1), .int 0, .ref it7])), (it7, .inl (cI, 40, .inl (fun _ => 0))), (y, .inr (9, [.int 0, .int 0, .ref y_lane, .ref y_many, .ref y_item, .ref y_city, .ref y_fresh, .int 0, .ref y_tape, .int 0, .int 0, .int 0, .int 0, .int 0, .int 0, .int 0, .int 0, .int 0, .int 0, .int 0, .ref y_cost, .ref y_away, .ref y_fee, .ref y_goesTo, .ref y_priceWas, .ref y_isKept, .ref y_kept, .ref y_trace, .int 0])), (y_lane, .inl (cI, 8, .inl la)), (y_many, .inl (cI, 8, .inl (fun _ => 0))), (y_item, .inl (cI, 320, .inl (fun _ => 0))), (x, .inr (8, [.ref xs, .ref xt, .ref xc, .ref xd, .ref xr, .ref xi, .ref xv, .ref xw, .ref xh, .ref xm, .ref xa, .int 0, .int 0]))] H := hP
    have hD : va_D A [(xs, .inl (cS, 8, .inr (.inr (.inr (.inr gs))))), (sh0, .inr (4, [.int (-1), .int 0, .ref it0])), (it0, .inl (cI, 40, .inl (fun _ => 0))), (sh1, .inr (4, [.int (-1), .int 0, .ref it1])), (it1, .inl (cI, 40, .inl (fun _ => 0))), (sh2, .inr (4, [.int (-1), .int 0, .ref it2])), (it2, .inl (cI, 40, .inl (fun _ => 0))), (sh3, .inr (4, [.int (-1), .int 0, .ref it3])), (it3, .inl (cI, 40, .inl (fun _ => 0))), (sh4, .inr (4, [.int (-1), .int 0, .ref it4])), (it4, .inl (cI, 40, .inl (fun _ => 0))), (sh5, .inr (4, [.int (-1), .int 0, .ref it5])), (it5, .inl (cI, 40, .inl (fun _ => 0))), (sh6, .inr (4, [.int (-1), .int 0, .ref it6])), (it6, .inl (cI, 40, .inl (fun _ => 0))), (sh7, .inr (4, [.int (-1), .int 0, .ref it7])), (it7, .inl (cI, 40, .inl (fun _ => 0))), (y, .inr (9, [.int 0, .int 0, .ref y_lane, .ref y_many, .ref y_item, .ref y_city, .ref y_fresh, .int 0, .ref y_tape, .int 0, .int 0, .int 0, .int 0, .int 0, .int 0, .int 0, .int 0, .int 0, .int 0, .int 0, .ref y_cost, .ref y_away, .ref y_fee, .ref y_goesTo, .ref y_priceWas, .ref y_isKept, .ref y_kept, .ref y_trace, .int 0])), (y_lane, .inl (cI, 8, .inl la)), (y_many, .inl (cI, 8, .inl (fun _ => 0))), (y_item, .inl (cI, 320, .inl (fun _ => 0))), (x, .inr (8, [.ref xs, .ref xt, .ref xc, .ref xd, .ref xr, .ref xi, .ref xv, .ref xw, .ref xh, .ref xm, .ref xa, .int 0, .int 0]))] := hD
    refine lv_aload_n S.1 S.2.1 dL_law_318 rfl (lv_at hl 1 rfl) ?_
    refine lv_aload_n S.1 S.2.1 dL_law_319 rfl (lv_at hl 3 rfl) ?_
    refine lv_iload_n S.1 S.2.1 dL_law_320 rfl (lv_at hl 0 rfl) ?_
    refine lv_iconst (v := 1) S.1 S.2.1 dL_law_321 (by decide) ?_
    refine lv_iadd S.1 S.2.1 dL_law_322 ?_
    refine lv_topi (fun x_5 ex_5 => ?_)
    have ex_5 : x_5 = 1 := by rw [ex_5]; decide
    subst ex_5
    refine va_sld S.1 S.2.1 hX hbl hbA hS (by unfold vp_in; decide) dL_law_323 ?_
    refine W.eq (g2 := F0 m 324 ls [.int (sc 1), .ref y, .int (-1000001)]) rfl ?_
    refine b_ai (wr := [(xs, .inl (cS, 8, .inr (.inr (.inr (.inr gs))))), (sh0, .inr (4, [.int (-1), .int 0, .ref it0])), (it0, .inl (cI, 40, .inl (fun _ => 0))), (sh1, .inr (4, [.int (-1), .int 0, .ref it1])), (it1, .inl (cI, 40, .inl (fun _ => 0))), (sh2, .inr (4, [.int (-1), .int 0, .ref it2])), (it2, .inl (cI, 40, .inl (fun _ => 0))), (sh3, .inr (4, [.int (-1), .int 0, .ref it3])), (it3, .inl (cI, 40, .inl (fun _ => 0))), (sh4, .inr (4, [.int (-1), .int 0, .ref it4])), (it4, .inl (cI, 40, .inl (fun _ => 0))), (sh5, .inr (4, [.int (-1), .int 0, .ref it5])), (it5, .inl (cI, 40, .inl (fun _ => 0))), (sh6, .inr (4, [.int (-1), .int 0, .ref it6])), (it6, .inl (cI, 40, .inl (fun _ => 0))), (sh7, .inr (4, [.int (-1), .int 0, .ref it7])), (it7, .inl (cI, 40, .inl (fun _ => 0))), (y_lane, .inl (cI, 8, .inl la)), (y_many, .inl (cI, 8, .inl (fun _ => 0))), (y_item, .inl (cI, 320, .inl (fun _ => 0))), (x, .inr (8, [.ref xs, .ref xt, .ref xc, .ref xd, .ref xr, .ref xi, .ref xv, .ref xw, .ref xh, .ref xm, .ref xa, .int 0, .int 0]))]) (b_runV (q0 := 17) (ci := 9) (As := [.int (sc 1)]) (c_X9_drop_bad l D cI cZ cC cS sq H.size y y_lane y_many y_item y_city y_fresh y_tape y_cost y_away y_fee y_goesTo y_priceWas y_isKept y_kept y_trace (sc 1) (by assumption)) S gL_law_X9_drop rfl hdV_X9_drop ⟨Nat.le_of_ble_eq_true rfl, Nat.le_of_ble_eq_true rfl⟩ ⟨Nat.le_of_ble_eq_true rfl, Nat.le_of_ble_eq_true rfl⟩ hK hP hD rfl rfl [17] rfl (by decide) rfl hl.1 rfl (Nat.le_of_ble_eq_true rfl) dL_law_324) hP hD hS hA [17] [0, 1, 2, 3, 4, 5, 6, 7, 8, 9, 10, 11, 12, 13, 14, 15, 16, 18, 19, 20, 21] rfl rfl (by decide) (by decide) (fun r_6 w_7 H locs hw_8 hP hD hS => ?_)
    obtain ⟨rfl, rfl⟩ := hw_8
    have hP : va_P D vwCl [(xs, .inl (cS, 8, .inr (.inr (.inr (.inr gs))))), (sh0, .inr (4, [.int (-1), .int 0, .ref it0])), (it0, .inl (cI, 40, .inl (fun _ => 0))), (sh1, .inr (4, [.int (-1), .int 0, .ref it1])), (it1, .inl (cI, 40, .inl (fun _ => 0))), (sh2, .inr (4, [.int (-1), .int 0, .ref it2])), (it2, .inl (cI, 40, .inl (fun _ => 0))), (sh3, .inr (4, [.int (-1), .int 0, .ref it3])), (it3, .inl (cI, 40, .inl (fun _ => 0))), (sh4, .inr (4, [.int (-1), .int 0, .ref it4])), (it4, .inl (cI, 40, .inl (fun _ => 0))), (sh5, .inr (4, [.int (-1), .int 0, .ref it5])), (it5, .inl (cI, 40, .inl (fun _ => 0))), (sh6, .inr (4, [.int (-1), .int 0, .ref it6])), (it6, .inl (cI, 40, .inl (fun _ => 0))), (sh7, .inr (4, [.int (-1), .int 0, .ref it7])), (it7, .inl (cI, 40, .inl (fun _ => 0))), (y_lane, .inl (cI, 8, .inl la)), (y_many, .inl (cI, 8, .inl (fun _ => 0))), (y_item, .inl (cI, 320, .inl (fun _ => 0))), (x, .inr (8, [.ref xs, .ref xt, .ref xc, .ref xd, .ref xr, .ref xi, .ref xv, .ref xw, .ref xh, .ref xm, .ref xa, .int 0, .int 0]))] H := hP
    have hD : va_D A [(xs, .inl (cS, 8, .inr (.inr (.inr (.inr gs))))), (sh0, .inr (4, [.int (-1), .int 0, .ref it0])), (it0, .inl (cI, 40, .inl (fun _ => 0))), (sh1, .inr (4, [.int (-1), .int 0, .ref it1])), (it1, .inl (cI, 40, .inl (fun _ => 0))), (sh2, .inr (4, [.int (-1), .int 0, .ref it2])), (it2, .inl (cI, 40, .inl (fun _ => 0))), (sh3, .inr (4, [.int (-1), .int 0, .ref it3])), (it3, .inl (cI, 40, .inl (fun _ => 0))), (sh4, .inr (4, [.int (-1), .int 0, .ref it4])), (it4, .inl (cI, 40, .inl (fun _ => 0))), (sh5, .inr (4, [.int (-1), .int 0, .ref it5])), (it5, .inl (cI, 40, .inl (fun _ => 0))), (sh6, .inr (4, [.int (-1), .int 0, .ref it6])), (it6, .inl (cI, 40, .inl (fun _ => 0))), (sh7, .inr (4, [.int (-1), .int 0, .ref it7])), (it7, .inl (cI, 40, .inl (fun _ => 0))), (y_lane, .inl (cI, 8, .inl la)), (y_many, .inl (cI, 8, .inl (fun _ => 0))), (y_item, .inl (cI, 320, .inl (fun _ => 0))), (x, .inr (8, [.ref xs, .ref xt, .ref xc, .ref xd, .ref xr, .ref xi, .ref xv, .ref xw, .ref xh, .ref xm, .ref xa, .int 0, .int 0]))] := hD
    refine lv_icmp_eq (tgt := 1034) S.1 S.2.1 dL_law_327 (by decide) (fun c_9 => ?_) (fun c_9 => absurd c_9 (by decide))
    exact law_tail C hS (lv_sub hl [0, 3] rfl) (by decide) (by decide)
  · have hj : (sc 1).toNatClampNeg < 8 := cl8 hr
    obtain ⟨sh, it, hfs, hP, hD⟩ : ∃ (sh it : Nat), gs (sc 1).toNatClampNeg = some sh ∧ va_P D vwCl [(x, .inr (8, [.ref xs, .ref xt, .ref xc, .ref xd, .ref xr, .ref xi, .ref xv, .ref xw, .ref xh, .ref xm, .ref xa, .int 0, .int 0])), (xs, .inl (cS, 8, .inr (.inr (.inr (.inr gs))))), (sh, .inr (4, [.int (-1), .int 0, .ref it])), (it, .inl (cI, 40, .inl (fun _ => 0))), (y, .inr (9, [.int 0, .int 0, .ref y_lane, .ref y_many, .ref y_item, .ref y_city, .ref y_fresh, .int 0, .ref y_tape, .int 0, .int 0, .int 0, .int 0, .int 0, .int 0, .int 0, .int 0, .int 0, .int 0, .int 0, .ref y_cost, .ref y_away, .ref y_fee, .ref y_goesTo, .ref y_priceWas, .ref y_isKept, .ref y_kept, .ref y_trace, .int 0])), (y_lane, .inl (cI, 8, .inl la)), (y_many, .inl (cI, 8, .inl (fun _ => 0))), (y_item, .inl (cI, 320, .inl (fun _ => 0)))] H ∧ va_D A [(x, .inr (8, [.ref xs, .ref xt, .ref xc, .ref xd, .ref xr, .ref xi, .ref xv, .ref xw, .ref xh, .ref xm, .ref xa, .int 0, .int 0])), (xs, .inl (cS, 8, .inr (.inr (.inr (.inr gs))))), (sh, .inr (4, [.int (-1), .int 0, .ref it])), (it, .inl (cI, 40, .inl (fun _ => 0))), (y, .inr (9, [.int 0, .int 0, .ref y_lane, .ref y_many, .ref y_item, .ref y_city, .ref y_fresh, .int 0, .ref y_tape, .int 0, .int 0, .int 0, .int 0, .int 0, .int 0, .int 0, .int 0, .int 0, .int 0, .int 0, .ref y_cost, .ref y_away, .ref y_fee, .ref y_goesTo, .ref y_priceWas, .ref y_isKept, .ref y_kept, .ref y_trace, .int 0])), (y_lane, .inl (cI, 8, .inl la)), (y_many, .inl (cI, 8, .inl (fun _ => 0))), (y_item, .inl (cI, 320, .inl (fun _ => 0)))] := by
      generalize (sc 1).toNatClampNeg = j at hj ⊢
      rcases (show j = 0 ∨ j = 1 ∨ j = 2 ∨ j = 3 ∨ j = 4 ∨ j = 5 ∨ j = 6 ∨ j = 7 by omega) with rfl | rfl | rfl | rfl | rfl | rfl | rfl | rfl
      · exact ⟨sh0, it0, hg0, hP.sub [0, 1, 2, 3, 18, 19, 20, 21] rfl, hD.sub [0, 1, 2, 3, 18, 19, 20, 21] (by decide) rfl⟩
      · exact ⟨sh1, it1, hg1, hP.sub [0, 1, 4, 5, 18, 19, 20, 21] rfl, hD.sub [0, 1, 4, 5, 18, 19, 20, 21] (by decide) rfl⟩
      · exact ⟨sh2, it2, hg2, hP.sub [0, 1, 6, 7, 18, 19, 20, 21] rfl, hD.sub [0, 1, 6, 7, 18, 19, 20, 21] (by decide) rfl⟩
      · exact ⟨sh3, it3, hg3, hP.sub [0, 1, 8, 9, 18, 19, 20, 21] rfl, hD.sub [0, 1, 8, 9, 18, 19, 20, 21] (by decide) rfl⟩
      · exact ⟨sh4, it4, hg4, hP.sub [0, 1, 10, 11, 18, 19, 20, 21] rfl, hD.sub [0, 1, 10, 11, 18, 19, 20, 21] (by decide) rfl⟩
      · exact ⟨sh5, it5, hg5, hP.sub [0, 1, 12, 13, 18, 19, 20, 21] rfl, hD.sub [0, 1, 12, 13, 18, 19, 20, 21] (by decide) rfl⟩
      · exact ⟨sh6, it6, hg6, hP.sub [0, 1, 14, 15, 18, 19, 20, 21] rfl, hD.sub [0, 1, 14, 15, 18, 19, 20, 21] (by decide) rfl⟩
      · exact ⟨sh7, it7, hg7, hP.sub [0, 1, 16, 17, 18, 19, 20, 21] rfl, hD.sub [0, 1, 16, 17, 18, 19, 20, 21] (by decide) rfl⟩
    refine lv_aload_n S.1 S.2.1 dL_law_309 rfl (lv_at hl 2 rfl) ?_
    refine lv_aload_n S.1 S.2.1 dL_law_310 rfl (lv_at hl 3 rfl) ?_
    refine lv_iload_n S.1 S.2.1 dL_law_311 rfl (lv_at hl 0 rfl) ?_
    refine lv_iconst (v := 1) S.1 S.2.1 dL_law_312 (by decide) ?_
    refine lv_iadd S.1 S.2.1 dL_law_313 ?_
    refine lv_topi (fun x_1 ex_1 => ?_)
    have ex_1 : x_1 = 1 := by rw [ex_1]; decide
    subst ex_1
    refine va_sld S.1 S.2.1 hX hbl hbA hS (by unfold vp_in; decide) dL_law_314 ?_
    refine W.eq (g2 := F0 m 315 ls [.int (sc 1), .ref x]) rfl ?_
    refine b_ai (wr := [(it, .inl (cI, 40, .inl (fun _ => 0))), (y, .inr (9, [.int 0, .int 0, .ref y_lane, .ref y_many, .ref y_item, .ref y_city, .ref y_fresh, .int 0, .ref y_tape, .int 0, .int 0, .int 0, .int 0, .int 0, .int 0, .int 0, .int 0, .int 0, .int 0, .int 0, .ref y_cost, .ref y_away, .ref y_fee, .ref y_goesTo, .ref y_priceWas, .ref y_isKept, .ref y_kept, .ref y_trace, .int 0])), (y_lane, .inl (cI, 8, .inl la)), (y_many, .inl (cI, 8, .inl (fun _ => 0))), (y_item, .inl (cI, 320, .inl (fun _ => 0)))]) (b_runV (q0 := 0) (ci := 8) (As := [.int (sc 1)]) (c_X8_drop_ok l D cI cZ cC cS sq H.size x xs xt xc xd xr xi xv xw xh xm xa gs sh it (sc 1) (by assumption) (by assumption)) S gL_law_X8_drop rfl hdV_X8_drop ⟨Nat.le_of_ble_eq_true rfl, Nat.le_of_ble_eq_true rfl⟩ ⟨Nat.le_of_ble_eq_true rfl, Nat.le_of_ble_eq_true rfl⟩ hK hP hD rfl rfl [0, 1, 2] rfl (by decide) rfl hl.1 rfl (Nat.le_of_ble_eq_true rfl) dL_law_315) hP hD hS hA [0, 1, 2] [3, 4, 5, 6, 7] rfl rfl (by decide) (by decide) (fun r_2 w_3 H locs hw_4 hP hD hS => ?_)
    obtain ⟨rfl, rfl⟩ := hw_4
    have hP : va_P D vwCl [(it, .inl (cI, 40, .inl (fun _ => 0))), (y, .inr (9, [.int 0, .int 0, .ref y_lane, .ref y_many, .ref y_item, .ref y_city, .ref y_fresh, .int 0, .ref y_tape, .int 0, .int 0, .int 0, .int 0, .int 0, .int 0, .int 0, .int 0, .int 0, .int 0, .int 0, .ref y_cost, .ref y_away, .ref y_fee, .ref y_goesTo, .ref y_priceWas, .ref y_isKept, .ref y_kept, .ref y_trace, .int 0])), (y_lane, .inl (cI, 8, .inl la)), (y_many, .inl (cI, 8, .inl (fun _ => 0))), (y_item, .inl (cI, 320, .inl (fun _ => 0))), (xs, .inl (cS, 8, .inr (.inr (.inr (.inr gs))))), (sh, .inr (4, [.int (-1), .int 0, .ref it])), (x, .inr (8, [.ref xs, .ref xt, .ref xc, .ref xd, .ref xr, .ref xi, .ref xv, .ref xw, .ref xh, .ref xm, .ref xa, .int 0, .int 1]))] H := hP
    have hD : va_D A [(it, .inl (cI, 40, .inl (fun _ => 0))), (y, .inr (9, [.int 0, .int 0, .ref y_lane, .ref y_many, .ref y_item, .ref y_city, .ref y_fresh, .int 0, .ref y_tape, .int 0, .int 0, .int 0, .int 0, .int 0, .int 0, .int 0, .int 0, .int 0, .int 0, .int 0, .ref y_cost, .ref y_away, .ref y_fee, .ref y_goesTo, .ref y_priceWas, .ref y_isKept, .ref y_kept, .ref y_trace, .int 0])), (y_lane, .inl (cI, 8, .inl la)), (y_many, .inl (cI, 8, .inl (fun _ => 0))), (y_item, .inl (cI, 320, .inl (fun _ => 0))), (xs, .inl (cS, 8, .inr (.inr (.inr (.inr gs))))), (sh, .inr (4, [.int (-1), .int 0, .ref it])), (x, .inr (8, [.ref xs, .ref xt, .ref xc, .ref xd, .ref xr, .ref xi, .ref xv, .ref xw, .ref xh, .ref xm, .ref xa, .int 0, .int 1]))] := hD
    refine lv_aload_n S.1 S.2.1 dL_law_318 rfl (lv_at hl 1 rfl) ?_
    refine lv_aload_n S.1 S.2.1 dL_law_319 rfl (lv_at hl 3 rfl) ?_
    refine lv_iload_n S.1 S.2.1 dL_law_320 rfl (lv_at hl 0 rfl) ?_
    refine lv_iconst (v := 1) S.1 S.2.1 dL_law_321 (by decide) ?_
    refine lv_iadd S.1 S.2.1 dL_law_322 ?_
    refine lv_topi (fun x_5 ex_5 => ?_)
    have ex_5 : x_5 = 1 := by rw [ex_5]; decide
    subst ex_5
    refine va_sld S.1 S.2.1 hX hbl hbA hS (by unfold vp_in; decide) dL_law_323 ?_
    refine W.eq (g2 := F0 m 324 ls [.int (sc 1), .ref y, .int (-1000011)]) rfl ?_
    refine b_ai (wr := [(it, .inl (cI, 40, .inl (fun _ => 0))), (y_many, .inl (cI, 8, .inl (fun _ => 0))), (y_item, .inl (cI, 320, .inl (fun _ => 0))), (xs, .inl (cS, 8, .inr (.inr (.inr (.inr gs))))), (sh, .inr (4, [.int (-1), .int 0, .ref it])), (x, .inr (8, [.ref xs, .ref xt, .ref xc, .ref xd, .ref xr, .ref xi, .ref xv, .ref xw, .ref xh, .ref xm, .ref xa, .int 0, .int 1]))]) (b_runV (q0 := 1) (ci := 9) (As := [.int (sc 1)]) (c_X9_drop_ok l D cI cZ cC cS sq H.size y y_lane y_many y_item y_city y_fresh y_tape y_cost y_away y_fee y_goesTo y_priceWas y_isKept y_kept y_trace (sc 1) la (by assumption) (by assumption)) S gL_law_X9_drop rfl hdV_X9_drop ⟨Nat.le_of_ble_eq_true rfl, Nat.le_of_ble_eq_true rfl⟩ ⟨Nat.le_of_ble_eq_true rfl, Nat.le_of_ble_eq_true rfl⟩ hK hP hD rfl rfl [1, 2] rfl (by decide) rfl hl.1 rfl (Nat.le_of_ble_eq_true rfl) dL_law_324) hP hD hS hA [1, 2] [0, 3, 4, 5, 6, 7] rfl rfl (by decide) (by decide) (fun r_6 w_7 H locs hw_8 hP hD hS => ?_)
    obtain ⟨rfl, rfl⟩ := hw_8
    have hP : va_P D vwCl [(it, .inl (cI, 40, .inl (fun _ => 0))), (y_many, .inl (cI, 8, .inl (fun _ => 0))), (y_item, .inl (cI, 320, .inl (fun _ => 0))), (xs, .inl (cS, 8, .inr (.inr (.inr (.inr gs))))), (sh, .inr (4, [.int (-1), .int 0, .ref it])), (x, .inr (8, [.ref xs, .ref xt, .ref xc, .ref xd, .ref xr, .ref xi, .ref xv, .ref xw, .ref xh, .ref xm, .ref xa, .int 0, .int 1]))] H := hP
    have hD : va_D A [(it, .inl (cI, 40, .inl (fun _ => 0))), (y_many, .inl (cI, 8, .inl (fun _ => 0))), (y_item, .inl (cI, 320, .inl (fun _ => 0))), (xs, .inl (cS, 8, .inr (.inr (.inr (.inr gs))))), (sh, .inr (4, [.int (-1), .int 0, .ref it])), (x, .inr (8, [.ref xs, .ref xt, .ref xc, .ref xd, .ref xr, .ref xi, .ref xv, .ref xw, .ref xh, .ref xm, .ref xa, .int 0, .int 1]))] := hD
    refine lv_icmp_eq (tgt := 1034) S.1 S.2.1 dL_law_327 (by decide) (fun c_9 => ?_) (fun c_9 => absurd c_9 (by decide))
    exact law_tail C hS (lv_sub hl [0, 3] rfl) (by decide) (by decide)
set_option maxHeartbeats 4000000 in
set_option maxRecDepth 100000 in
theorem law_copy {p : Program} (l : Launch) {e : Env} {s : State} {m : MethodId} {below : List Frame} {meth : Method} {c : Code} (D : va_G) (cI cZ cC cS : ClassId) (sq : Nat) {b : Nat} {sc : Nat → Int32} {A : Nat → Prop} (C : lC p s m meth c b sc A) (hK : kW D (tyW cI cZ cC cS) sq s) (x : Nat) (xs : Nat) (xt : Nat) (xc : Nat) (xd : Nat) (xr : Nat) (xi : Nat) (xv : Nat) (xw : Nat) (xh : Nat) (xm : Nat) (xa : Nat) (y : Nat) (y_lane : Nat) (y_many : Nat) (y_item : Nat) (y_city : Nat) (y_fresh : Nat) (y_tape : Nat) (y_cost : Nat) (y_away : Nat) (y_fee : Nat) (y_goesTo : Nat) (y_priceWas : Nat) (y_isKept : Nat) (y_kept : Nat) (y_trace : Nat) (gs : Nat → Option Nat) (sh0 : Nat) (it0 : Nat) (sh1 : Nat) (it1 : Nat) (sh2 : Nat) (it2 : Nat) (sh3 : Nat) (it3 : Nat) (sh4 : Nat) (it4 : Nat) (sh5 : Nat) (it5 : Nat) (sh6 : Nat) (it6 : Nat) (sh7 : Nat) (it7 : Nat) (la : Nat → Int32) (hg0 : gs 0 = some sh0) (hg1 : gs 1 = some sh1) (hg2 : gs 2 = some sh2) (hg3 : gs 3 = some sh3) (hg4 : gs 4 = some sh4) (hg5 : gs 5 = some sh5) (hg6 : gs 6 = some sh6) (hg7 : gs 7 = some sh7) (hla : ∀ j, j < 8 → la j = -1) {H : Heap} {locs : List Loc} {ls : Array Slot} (hP : va_P D vwCl [(x, .inr (8, [.ref xs, .ref xt, .ref xc, .ref xd, .ref xr, .ref xi, .ref xv, .ref xw, .ref xh, .ref xm, .ref xa, .int 0, .int 0])), (xs, .inl (cS, 8, .inr (.inr (.inr (.inr gs))))), (sh0, .inr (4, [.int (-1), .int 0, .ref it0])), (it0, .inl (cI, 40, .inl (fun _ => 0))), (sh1, .inr (4, [.int (-1), .int 0, .ref it1])), (it1, .inl (cI, 40, .inl (fun _ => 0))), (sh2, .inr (4, [.int (-1), .int 0, .ref it2])), (it2, .inl (cI, 40, .inl (fun _ => 0))), (sh3, .inr (4, [.int (-1), .int 0, .ref it3])), (it3, .inl (cI, 40, .inl (fun _ => 0))), (sh4, .inr (4, [.int (-1), .int 0, .ref it4])), (it4, .inl (cI, 40, .inl (fun _ => 0))), (sh5, .inr (4, [.int (-1), .int 0, .ref it5])), (it5, .inl (cI, 40, .inl (fun _ => 0))), (sh6, .inr (4, [.int (-1), .int 0, .ref it6])), (it6, .inl (cI, 40, .inl (fun _ => 0))), (sh7, .inr (4, [.int (-1), .int 0, .ref it7])), (it7, .inl (cI, 40, .inl (fun _ => 0))), (y, .inr (9, [.int 0, .int 0, .ref y_lane, .ref y_many, .ref y_item, .ref y_city, .ref y_fresh, .int 0, .ref y_tape, .int 0, .int 0, .int 0, .int 0, .int 0, .int 0, .int 0, .int 0, .int 0, .int 0, .int 0, .ref y_cost, .ref y_away, .ref y_fee, .ref y_goesTo, .ref y_priceWas, .ref y_isKept, .ref y_kept, .ref y_trace, .int 0])), (y_lane, .inl (cI, 8, .inl la)), (y_many, .inl (cI, 8, .inl (fun _ => 0))), (y_item, .inl (cI, 320, .inl (fun _ => 0)))] H) (hD : va_D A [(x, .inr (8, [.ref xs, .ref xt, .ref xc, .ref xd, .ref xr, .ref xi, .ref xv, .ref xw, .ref xh, .ref xm, .ref xa, .int 0, .int 0])), (xs, .inl (cS, 8, .inr (.inr (.inr (.inr gs))))), (sh0, .inr (4, [.int (-1), .int 0, .ref it0])), (it0, .inl (cI, 40, .inl (fun _ => 0))), (sh1, .inr (4, [.int (-1), .int 0, .ref it1])), (it1, .inl (cI, 40, .inl (fun _ => 0))), (sh2, .inr (4, [.int (-1), .int 0, .ref it2])), (it2, .inl (cI, 40, .inl (fun _ => 0))), (sh3, .inr (4, [.int (-1), .int 0, .ref it3])), (it3, .inl (cI, 40, .inl (fun _ => 0))), (sh4, .inr (4, [.int (-1), .int 0, .ref it4])), (it4, .inl (cI, 40, .inl (fun _ => 0))), (sh5, .inr (4, [.int (-1), .int 0, .ref it5])), (it5, .inl (cI, 40, .inl (fun _ => 0))), (sh6, .inr (4, [.int (-1), .int 0, .ref it6])), (it6, .inl (cI, 40, .inl (fun _ => 0))), (sh7, .inr (4, [.int (-1), .int 0, .ref it7])), (it7, .inl (cI, 40, .inl (fun _ => 0))), (y, .inr (9, [.int 0, .int 0, .ref y_lane, .ref y_many, .ref y_item, .ref y_city, .ref y_fresh, .int 0, .ref y_tape, .int 0, .int 0, .int 0, .int 0, .int 0, .int 0, .int 0, .int 0, .int 0, .int 0, .int 0, .ref y_cost, .ref y_away, .ref y_fee, .ref y_goesTo, .ref y_priceWas, .ref y_isKept, .ref y_kept, .ref y_trace, .int 0])), (y_lane, .inl (cI, 8, .inl la)), (y_many, .inl (cI, 8, .inl (fun _ => 0))), (y_item, .inl (cI, 320, .inl (fun _ => 0)))]) (hS : va_S A s.heap H locs) (hl : lv_has ls 4 [(3, .int 0), (2, .ref y), (1, .ref x), (0, .ref b)]) : W p l e room_1 s m #[Value.ref b] below meth c H locs 98 12032 (lw_Z below #[Value.ref b] s) (F0 m 246 ls []) := by
  obtain ⟨S, hr_, hk_, hX, hbl, hA, hAf⟩ := id C
  have hbA : ¬ A b := fun z => absurd (hAf b z) (Nat.not_le.mpr hbl)
  rcases (show ((sc 1).toInt < 0 ∨ 7 < (sc 1).toInt) ∨ ((0 ≤ (sc 1).toInt ∧ (sc 1).toInt ≤ 7) ∧ ((sc 3).toInt < 0 ∨ 7 < (sc 3).toInt)) ∨ ((0 ≤ (sc 1).toInt ∧ (sc 1).toInt ≤ 7) ∧ (0 ≤ (sc 3).toInt ∧ (sc 3).toInt ≤ 7)) by omega) with hr | ⟨hr, hb⟩ | ⟨hr, hb⟩
  · refine lv_aload_n S.1 S.2.1 dL_law_246 rfl (lv_at hl 2 rfl) ?_
    refine lv_aload_n S.1 S.2.1 dL_law_247 rfl (lv_at hl 3 rfl) ?_
    refine lv_iload_n S.1 S.2.1 dL_law_248 rfl (lv_at hl 0 rfl) ?_
    refine lv_iconst (v := 1) S.1 S.2.1 dL_law_249 (by decide) ?_
    refine lv_iadd S.1 S.2.1 dL_law_250 ?_
    refine lv_topi (fun x_1 ex_1 => ?_)
    have ex_1 : x_1 = 1 := by rw [ex_1]; decide
    subst ex_1
    refine va_sld S.1 S.2.1 hX hbl hbA hS (by unfold vp_in; decide) dL_law_251 ?_
    refine W.eq (g2 := F0 m 252 ls [.int (sc 1), .ref x]) rfl ?_
    refine lv_aload_n S.1 S.2.1 dL_law_252 rfl (lv_at hl 3 rfl) ?_
    refine lv_iload_n S.1 S.2.1 dL_law_253 rfl (lv_at hl 0 rfl) ?_
    refine lv_iconst (v := 2) S.1 S.2.1 dL_law_254 (by decide) ?_
    refine lv_iadd S.1 S.2.1 dL_law_255 ?_
    refine lv_topi (fun x_2 ex_2 => ?_)
    have ex_2 : x_2 = 2 := by rw [ex_2]; decide
    subst ex_2
    refine va_sld S.1 S.2.1 hX hbl hbA hS (by unfold vp_in; decide) dL_law_256 ?_
    refine W.eq (g2 := F0 m 257 ls [.int (sc 2), .int (sc 1), .ref x]) rfl ?_
    refine lv_aload_n S.1 S.2.1 dL_law_257 rfl (lv_at hl 3 rfl) ?_
    refine lv_iload_n S.1 S.2.1 dL_law_258 rfl (lv_at hl 0 rfl) ?_
    refine lv_iconst (v := 3) S.1 S.2.1 dL_law_259 (by decide) ?_
    refine lv_iadd S.1 S.2.1 dL_law_260 ?_
    refine lv_topi (fun x_3 ex_3 => ?_)
    have ex_3 : x_3 = 3 := by rw [ex_3]; decide
    subst ex_3
    refine va_sld S.1 S.2.1 hX hbl hbA hS (by unfold vp_in; decide) dL_law_261 ?_
    refine W.eq (g2 := F0 m 262 ls [.int (sc 3), .int (sc 2), .int (sc 1), .ref x]) rfl ?_
    refine lv_aload_n S.1 S.2.1 dL_law_262 rfl (lv_at hl 3 rfl) ?_
    refine lv_iload_n S.1 S.2.1 dL_law_263 rfl (lv_at hl 0 rfl) ?_
    refine lv_iconst (v := 4) S.1 S.2.1 dL_law_264 (by decide) ?_
    refine lv_iadd S.1 S.2.1 dL_law_265 ?_
    refine lv_topi (fun x_4 ex_4 => ?_)
    have ex_4 : x_4 = 4 := by rw [ex_4]; decide
    subst ex_4
    refine va_sld S.1 S.2.1 hX hbl hbA hS (by unfold vp_in; decide) dL_law_266 ?_
    refine W.eq (g2 := F0 m 267 ls [.int (sc 4), .int (sc 3), .int (sc 2), .int (sc 1), .ref x]) rfl ?_
    refine lv_aload_n S.1 S.2.1 dL_law_267 rfl (lv_at hl 3 rfl) ?_
    refine lv_iload_n S.1 S.2.1 dL_law_268 rfl (lv_at hl 0 rfl) ?_
    refine lv_iconst (v := 5) S.1 S.2.1 dL_law_269 (by decide) ?_
    refine lv_iadd S.1 S.2.1 dL_law_270 ?_
    refine lv_topi (fun x_5 ex_5 => ?_)
    have ex_5 : x_5 = 5 := by rw [ex_5]; decide
    subst ex_5
    refine va_sld S.1 S.2.1 hX hbl hbA hS (by unfold vp_in; decide) dL_law_271 ?_
    refine W.eq (g2 := F0 m 272 ls [.int (sc 5), .int (sc 4), .int (sc 3), .int (sc 2), .int (sc 1), .ref x]) rfl ?_
    refine b_ai (wr := [(xs, .inl (cS, 8, .inr (.inr (.inr (.inr gs))))), (sh0, .inr (4, [.int (-1), .int 0, .ref it0])), (it0, .inl (cI, 40, .inl (fun _ => 0))), (sh1, .inr (4, [.int (-1), .int 0, .ref it1])), (it1, .inl (cI, 40, .inl (fun _ => 0))), (sh2, .inr (4, [.int (-1), .int 0, .ref it2])), (it2, .inl (cI, 40, .inl (fun _ => 0))), (sh3, .inr (4, [.int (-1), .int 0, .ref it3])), (it3, .inl (cI, 40, .inl (fun _ => 0))), (sh4, .inr (4, [.int (-1), .int 0, .ref it4])), (it4, .inl (cI, 40, .inl (fun _ => 0))), (sh5, .inr (4, [.int (-1), .int 0, .ref it5])), (it5, .inl (cI, 40, .inl (fun _ => 0))), (sh6, .inr (4, [.int (-1), .int 0, .ref it6])), (it6, .inl (cI, 40, .inl (fun _ => 0))), (sh7, .inr (4, [.int (-1), .int 0, .ref it7])), (it7, .inl (cI, 40, .inl (fun _ => 0))), (y, .inr (9, [.int 0, .int 0, .ref y_lane, .ref y_many, .ref y_item, .ref y_city, .ref y_fresh, .int 0, .ref y_tape, .int 0, .int 0, .int 0, .int 0, .int 0, .int 0, .int 0, .int 0, .int 0, .int 0, .int 0, .ref y_cost, .ref y_away, .ref y_fee, .ref y_goesTo, .ref y_priceWas, .ref y_isKept, .ref y_kept, .ref y_trace, .int 0])), (y_lane, .inl (cI, 8, .inl la)), (y_many, .inl (cI, 8, .inl (fun _ => 0))), (y_item, .inl (cI, 320, .inl (fun _ => 0)))]) (b_runV (q0 := 0) (ci := 8) (As := [.int (sc 1), .int (sc 2), .int (sc 3), .int (sc 4), .int (sc 5)]) (c_X8_copy_a l D cI cZ cC cS sq H.size x xs xt xc xd xr xi xv xw xh xm xa (sc 1) (sc 2) (sc 3) (sc 4) (sc 5) (by assumption)) S gL_law_X8_copy rfl hdV_X8_copy ⟨Nat.le_of_ble_eq_true rfl, Nat.le_of_ble_eq_true rfl⟩ ⟨Nat.le_of_ble_eq_true rfl, Nat.le_of_ble_eq_true rfl⟩ hK hP hD rfl rfl [0] rfl (by decide) rfl hl.1 rfl (Nat.le_of_ble_eq_true rfl) dL_law_272) hP hD hS hA [0] [1, 2, 3, 4, 5, 6, 7, 8, 9, 10, 11, 12, 13, 14, 15, 16, 17, 18, 19, 20, 21] rfl rfl (by decide) (by decide) (fun r_6 w_7 H locs hw_8 hP hD hS => ?_)
    obtain ⟨rfl, rfl⟩ := hw_8
    have hP : va_P D vwCl [(xs, .inl (cS, 8, .inr (.inr (.inr (.inr gs))))), (sh0, .inr (4, [.int (-1), .int 0, .ref it0])), (it0, .inl (cI, 40, .inl (fun _ => 0))), (sh1, .inr (4, [.int (-1), .int 0, .ref it1])), (it1, .inl (cI, 40, .inl (fun _ => 0))), (sh2, .inr (4, [.int (-1), .int 0, .ref it2])), (it2, .inl (cI, 40, .inl (fun _ => 0))), (sh3, .inr (4, [.int (-1), .int 0, .ref it3])), (it3, .inl (cI, 40, .inl (fun _ => 0))), (sh4, .inr (4, [.int (-1), .int 0, .ref it4])), (it4, .inl (cI, 40, .inl (fun _ => 0))), (sh5, .inr (4, [.int (-1), .int 0, .ref it5])), (it5, .inl (cI, 40, .inl (fun _ => 0))), (sh6, .inr (4, [.int (-1), .int 0, .ref it6])), (it6, .inl (cI, 40, .inl (fun _ => 0))), (sh7, .inr (4, [.int (-1), .int 0, .ref it7])), (it7, .inl (cI, 40, .inl (fun _ => 0))), (y, .inr (9, [.int 0, .int 0, .ref y_lane, .ref y_many, .ref y_item, .ref y_city, .ref y_fresh, .int 0, .ref y_tape, .int 0, .int 0, .int 0, .int 0, .int 0, .int 0, .int 0, .int 0, .int 0, .int 0, .int 0, .ref y_cost, .ref y_away, .ref y_fee, .ref y_goesTo, .ref y_priceWas, .ref y_isKept, .ref y_kept, .ref y_trace, .int 0])), (y_lane, .inl (cI, 8, .inl la)), (y_many, .inl (cI, 8, .inl (fun _ => 0))), (y_item, .inl (cI, 320, .inl (fun _ => 0))), (x, .inr (8, [.ref xs, .ref xt, .ref xc, .ref xd, .ref xr, .ref xi, .ref xv, .ref xw, .ref xh, .ref xm, .ref xa, .int 0, .int 0]))] H := hP
    have hD : va_D A [(xs, .inl (cS, 8, .inr (.inr (.inr (.inr gs))))), (sh0, .inr (4, [.int (-1), .int 0, .ref it0])), (it0, .inl (cI, 40, .inl (fun _ => 0))), (sh1, .inr (4, [.int (-1), .int 0, .ref it1])), (it1, .inl (cI, 40, .inl (fun _ => 0))), (sh2, .inr (4, [.int (-1), .int 0, .ref it2])), (it2, .inl (cI, 40, .inl (fun _ => 0))), (sh3, .inr (4, [.int (-1), .int 0, .ref it3])), (it3, .inl (cI, 40, .inl (fun _ => 0))), (sh4, .inr (4, [.int (-1), .int 0, .ref it4])), (it4, .inl (cI, 40, .inl (fun _ => 0))), (sh5, .inr (4, [.int (-1), .int 0, .ref it5])), (it5, .inl (cI, 40, .inl (fun _ => 0))), (sh6, .inr (4, [.int (-1), .int 0, .ref it6])), (it6, .inl (cI, 40, .inl (fun _ => 0))), (sh7, .inr (4, [.int (-1), .int 0, .ref it7])), (it7, .inl (cI, 40, .inl (fun _ => 0))), (y, .inr (9, [.int 0, .int 0, .ref y_lane, .ref y_many, .ref y_item, .ref y_city, .ref y_fresh, .int 0, .ref y_tape, .int 0, .int 0, .int 0, .int 0, .int 0, .int 0, .int 0, .int 0, .int 0, .int 0, .int 0, .ref y_cost, .ref y_away, .ref y_fee, .ref y_goesTo, .ref y_priceWas, .ref y_isKept, .ref y_kept, .ref y_trace, .int 0])), (y_lane, .inl (cI, 8, .inl la)), (y_many, .inl (cI, 8, .inl (fun _ => 0))), (y_item, .inl (cI, 320, .inl (fun _ => 0))), (x, .inr (8, [.ref xs, .ref xt, .ref xc, .ref xd, .ref xr, .ref xi, .ref xv, .ref xw, .ref xh, .ref xm, .ref xa, .int 0, .int 0]))] := hD
    refine lv_aload_n S.1 S.2.1 dL_law_275 rfl (lv_at hl 1 rfl) ?_
    refine lv_aload_n S.1 S.2.1 dL_law_276 rfl (lv_at hl 3 rfl) ?_
    refine lv_iload_n S.1 S.2.1 dL_law_277 rfl (lv_at hl 0 rfl) ?_
    refine lv_iconst (v := 1) S.1 S.2.1 dL_law_278 (by decide) ?_
    refine lv_iadd S.1 S.2.1 dL_law_279 ?_
    refine lv_topi (fun x_9 ex_9 => ?_)
    have ex_9 : x_9 = 1 := by rw [ex_9]; decide
    subst ex_9
    refine va_sld S.1 S.2.1 hX hbl hbA hS (by unfold vp_in; decide) dL_law_280 ?_
    refine W.eq (g2 := F0 m 281 ls [.int (sc 1), .ref y, .int (-1000001)]) rfl ?_
    refine lv_aload_n S.1 S.2.1 dL_law_281 rfl (lv_at hl 3 rfl) ?_
    refine lv_iload_n S.1 S.2.1 dL_law_282 rfl (lv_at hl 0 rfl) ?_
    refine lv_iconst (v := 2) S.1 S.2.1 dL_law_283 (by decide) ?_
    refine lv_iadd S.1 S.2.1 dL_law_284 ?_
    refine lv_topi (fun x_10 ex_10 => ?_)
    have ex_10 : x_10 = 2 := by rw [ex_10]; decide
    subst ex_10
    refine va_sld S.1 S.2.1 hX hbl hbA hS (by unfold vp_in; decide) dL_law_285 ?_
    refine W.eq (g2 := F0 m 286 ls [.int (sc 2), .int (sc 1), .ref y, .int (-1000001)]) rfl ?_
    refine lv_aload_n S.1 S.2.1 dL_law_286 rfl (lv_at hl 3 rfl) ?_
    refine lv_iload_n S.1 S.2.1 dL_law_287 rfl (lv_at hl 0 rfl) ?_
    refine lv_iconst (v := 3) S.1 S.2.1 dL_law_288 (by decide) ?_
    refine lv_iadd S.1 S.2.1 dL_law_289 ?_
    refine lv_topi (fun x_11 ex_11 => ?_)
    have ex_11 : x_11 = 3 := by rw [ex_11]; decide
    subst ex_11
    refine va_sld S.1 S.2.1 hX hbl hbA hS (by unfold vp_in; decide) dL_law_290 ?_
    refine W.eq (g2 := F0 m 291 ls [.int (sc 3), .int (sc 2), .int (sc 1), .ref y, .int (-1000001)]) rfl ?_
    refine lv_aload_n S.1 S.2.1 dL_law_291 rfl (lv_at hl 3 rfl) ?_
    refine lv_iload_n S.1 S.2.1 dL_law_292 rfl (lv_at hl 0 rfl) ?_
    refine lv_iconst (v := 4) S.1 S.2.1 dL_law_293 (by decide) ?_
    refine lv_iadd S.1 S.2.1 dL_law_294 ?_
    refine lv_topi (fun x_12 ex_12 => ?_)
    have ex_12 : x_12 = 4 := by rw [ex_12]; decide
    subst ex_12
    refine va_sld S.1 S.2.1 hX hbl hbA hS (by unfold vp_in; decide) dL_law_295 ?_
    refine W.eq (g2 := F0 m 296 ls [.int (sc 4), .int (sc 3), .int (sc 2), .int (sc 1), .ref y, .int (-1000001)]) rfl ?_
    refine lv_aload_n S.1 S.2.1 dL_law_296 rfl (lv_at hl 3 rfl) ?_
    refine lv_iload_n S.1 S.2.1 dL_law_297 rfl (lv_at hl 0 rfl) ?_
    refine lv_iconst (v := 5) S.1 S.2.1 dL_law_298 (by decide) ?_
    refine lv_iadd S.1 S.2.1 dL_law_299 ?_
    refine lv_topi (fun x_13 ex_13 => ?_)
    have ex_13 : x_13 = 5 := by rw [ex_13]; decide
    subst ex_13
    refine va_sld S.1 S.2.1 hX hbl hbA hS (by unfold vp_in; decide) dL_law_300 ?_
    refine W.eq (g2 := F0 m 301 ls [.int (sc 5), .int (sc 4), .int (sc 3), .int (sc 2), .int (sc 1), .ref y, .int (-1000001)]) rfl ?_
    refine b_ai (wr := [(xs, .inl (cS, 8, .inr (.inr (.inr (.inr gs))))), (sh0, .inr (4, [.int (-1), .int 0, .ref it0])), (it0, .inl (cI, 40, .inl (fun _ => 0))), (sh1, .inr (4, [.int (-1), .int 0, .ref it1])), (it1, .inl (cI, 40, .inl (fun _ => 0))), (sh2, .inr (4, [.int (-1), .int 0, .ref it2])), (it2, .inl (cI, 40, .inl (fun _ => 0))), (sh3, .inr (4, [.int (-1), .int 0, .ref it3])), (it3, .inl (cI, 40, .inl (fun _ => 0))), (sh4, .inr (4, [.int (-1), .int 0, .ref it4])), (it4, .inl (cI, 40, .inl (fun _ => 0))), (sh5, .inr (4, [.int (-1), .int 0, .ref it5])), (it5, .inl (cI, 40, .inl (fun _ => 0))), (sh6, .inr (4, [.int (-1), .int 0, .ref it6])), (it6, .inl (cI, 40, .inl (fun _ => 0))), (sh7, .inr (4, [.int (-1), .int 0, .ref it7])), (it7, .inl (cI, 40, .inl (fun _ => 0))), (y_lane, .inl (cI, 8, .inl la)), (y_many, .inl (cI, 8, .inl (fun _ => 0))), (y_item, .inl (cI, 320, .inl (fun _ => 0))), (x, .inr (8, [.ref xs, .ref xt, .ref xc, .ref xd, .ref xr, .ref xi, .ref xv, .ref xw, .ref xh, .ref xm, .ref xa, .int 0, .int 0]))]) (b_runV (q0 := 17) (ci := 9) (As := [.int (sc 1), .int (sc 2), .int (sc 3), .int (sc 4), .int (sc 5)]) (c_X9_copy_a l D cI cZ cC cS sq H.size y y_lane y_many y_item y_city y_fresh y_tape y_cost y_away y_fee y_goesTo y_priceWas y_isKept y_kept y_trace (sc 1) (sc 2) (sc 3) (sc 4) (sc 5) (by assumption)) S gL_law_X9_copy rfl hdV_X9_copy ⟨Nat.le_of_ble_eq_true rfl, Nat.le_of_ble_eq_true rfl⟩ ⟨Nat.le_of_ble_eq_true rfl, Nat.le_of_ble_eq_true rfl⟩ hK hP hD rfl rfl [17] rfl (by decide) rfl hl.1 rfl (Nat.le_of_ble_eq_true rfl) dL_law_301) hP hD hS hA [17] [0, 1, 2, 3, 4, 5, 6, 7, 8, 9, 10, 11, 12, 13, 14, 15, 16, 18, 19, 20, 21] rfl rfl (by decide) (by decide) (fun r_14 w_15 H locs hw_16 hP hD hS => ?_)
    obtain ⟨rfl, rfl⟩ := hw_16
    have hP : va_P D vwCl [(xs, .inl (cS, 8, .inr (.inr (.inr (.inr gs))))), (sh0, .inr (4, [.int (-1), .int 0, .ref it0])), (it0, .inl (cI, 40, .inl (fun _ => 0))), (sh1, .inr (4, [.int (-1), .int 0, .ref it1])), (it1, .inl (cI, 40, .inl (fun _ => 0))), (sh2, .inr (4, [.int (-1), .int 0, .ref it2])), (it2, .inl (cI, 40, .inl (fun _ => 0))), (sh3, .inr (4, [.int (-1), .int 0, .ref it3])), (it3, .inl (cI, 40, .inl (fun _ => 0))), (sh4, .inr (4, [.int (-1), .int 0, .ref it4])), (it4, .inl (cI, 40, .inl (fun _ => 0))), (sh5, .inr (4, [.int (-1), .int 0, .ref it5])), (it5, .inl (cI, 40, .inl (fun _ => 0))), (sh6, .inr (4, [.int (-1), .int 0, .ref it6])), (it6, .inl (cI, 40, .inl (fun _ => 0))), (sh7, .inr (4, [.int (-1), .int 0, .ref it7])), (it7, .inl (cI, 40, .inl (fun _ => 0))), (y_lane, .inl (cI, 8, .inl la)), (y_many, .inl (cI, 8, .inl (fun _ => 0))), (y_item, .inl (cI, 320, .inl (fun _ => 0))), (x, .inr (8, [.ref xs, .ref xt, .ref xc, .ref xd, .ref xr, .ref xi, .ref xv, .ref xw, .ref xh, .ref xm, .ref xa, .int 0, .int 0]))] H := hP
    have hD : va_D A [(xs, .inl (cS, 8, .inr (.inr (.inr (.inr gs))))), (sh0, .inr (4, [.int (-1), .int 0, .ref it0])), (it0, .inl (cI, 40, .inl (fun _ => 0))), (sh1, .inr (4, [.int (-1), .int 0, .ref it1])), (it1, .inl (cI, 40, .inl (fun _ => 0))), (sh2, .inr (4, [.int (-1), .int 0, .ref it2])), (it2, .inl (cI, 40, .inl (fun _ => 0))), (sh3, .inr (4, [.int (-1), .int 0, .ref it3])), (it3, .inl (cI, 40, .inl (fun _ => 0))), (sh4, .inr (4, [.int (-1), .int 0, .ref it4])), (it4, .inl (cI, 40, .inl (fun _ => 0))), (sh5, .inr (4, [.int (-1), .int 0, .ref it5])), (it5, .inl (cI, 40, .inl (fun _ => 0))), (sh6, .inr (4, [.int (-1), .int 0, .ref it6])), (it6, .inl (cI, 40, .inl (fun _ => 0))), (sh7, .inr (4, [.int (-1), .int 0, .ref it7])), (it7, .inl (cI, 40, .inl (fun _ => 0))), (y_lane, .inl (cI, 8, .inl la)), (y_many, .inl (cI, 8, .inl (fun _ => 0))), (y_item, .inl (cI, 320, .inl (fun _ => 0))), (x, .inr (8, [.ref xs, .ref xt, .ref xc, .ref xd, .ref xr, .ref xi, .ref xv, .ref xw, .ref xh, .ref xm, .ref xa, .int 0, .int 0]))] := hD
    refine lv_icmp_eq (tgt := 1034) S.1 S.2.1 dL_law_304 (by decide) (fun c_17 => ?_) (fun c_17 => absurd c_17 (by decide))
    exact law_tail C hS (lv_sub hl [0, 3] rfl) (by decide) (by decide)
  · refine lv_aload_n S.1 S.2.1 dL_law_246 rfl (lv_at hl 2 rfl) ?_
    refine lv_aload_n S.1 S.2.1 dL_law_247 rfl (lv_at hl 3 rfl) ?_
    refine lv_iload_n S.1 S.2.1 dL_law_248 rfl (lv_at hl 0 rfl) ?_
    refine lv_iconst (v := 1) S.1 S.2.1 dL_law_249 (by decide) ?_
    refine lv_iadd S.1 S.2.1 dL_law_250 ?_
    refine lv_topi (fun x_1 ex_1 => ?_)
    have ex_1 : x_1 = 1 := by rw [ex_1]; decide
    subst ex_1
    refine va_sld S.1 S.2.1 hX hbl hbA hS (by unfold vp_in; decide) dL_law_251 ?_
    refine W.eq (g2 := F0 m 252 ls [.int (sc 1), .ref x]) rfl ?_
    refine lv_aload_n S.1 S.2.1 dL_law_252 rfl (lv_at hl 3 rfl) ?_
    refine lv_iload_n S.1 S.2.1 dL_law_253 rfl (lv_at hl 0 rfl) ?_
    refine lv_iconst (v := 2) S.1 S.2.1 dL_law_254 (by decide) ?_
    refine lv_iadd S.1 S.2.1 dL_law_255 ?_
    refine lv_topi (fun x_2 ex_2 => ?_)
    have ex_2 : x_2 = 2 := by rw [ex_2]; decide
    subst ex_2
    refine va_sld S.1 S.2.1 hX hbl hbA hS (by unfold vp_in; decide) dL_law_256 ?_
    refine W.eq (g2 := F0 m 257 ls [.int (sc 2), .int (sc 1), .ref x]) rfl ?_
    refine lv_aload_n S.1 S.2.1 dL_law_257 rfl (lv_at hl 3 rfl) ?_
    refine lv_iload_n S.1 S.2.1 dL_law_258 rfl (lv_at hl 0 rfl) ?_
    refine lv_iconst (v := 3) S.1 S.2.1 dL_law_259 (by decide) ?_
    refine lv_iadd S.1 S.2.1 dL_law_260 ?_
    refine lv_topi (fun x_3 ex_3 => ?_)
    have ex_3 : x_3 = 3 := by rw [ex_3]; decide
    subst ex_3
    refine va_sld S.1 S.2.1 hX hbl hbA hS (by unfold vp_in; decide) dL_law_261 ?_
    refine W.eq (g2 := F0 m 262 ls [.int (sc 3), .int (sc 2), .int (sc 1), .ref x]) rfl ?_
    refine lv_aload_n S.1 S.2.1 dL_law_262 rfl (lv_at hl 3 rfl) ?_
    refine lv_iload_n S.1 S.2.1 dL_law_263 rfl (lv_at hl 0 rfl) ?_
    refine lv_iconst (v := 4) S.1 S.2.1 dL_law_264 (by decide) ?_
    refine lv_iadd S.1 S.2.1 dL_law_265 ?_
    refine lv_topi (fun x_4 ex_4 => ?_)
    have ex_4 : x_4 = 4 := by rw [ex_4]; decide
    subst ex_4
    refine va_sld S.1 S.2.1 hX hbl hbA hS (by unfold vp_in; decide) dL_law_266 ?_
    refine W.eq (g2 := F0 m 267 ls [.int (sc 4), .int (sc 3), .int (sc 2), .int (sc 1), .ref x]) rfl ?_
    refine lv_aload_n S.1 S.2.1 dL_law_267 rfl (lv_at hl 3 rfl) ?_
    refine lv_iload_n S.1 S.2.1 dL_law_268 rfl (lv_at hl 0 rfl) ?_
    refine lv_iconst (v := 5) S.1 S.2.1 dL_law_269 (by decide) ?_
    refine lv_iadd S.1 S.2.1 dL_law_270 ?_
    refine lv_topi (fun x_5 ex_5 => ?_)
    have ex_5 : x_5 = 5 := by rw [ex_5]; decide
    subst ex_5
    refine va_sld S.1 S.2.1 hX hbl hbA hS (by unfold vp_in; decide) dL_law_271 ?_
    refine W.eq (g2 := F0 m 272 ls [.int (sc 5), .int (sc 4), .int (sc 3), .int (sc 2), .int (sc 1), .ref x]) rfl ?_
    refine b_ai (wr := [(xs, .inl (cS, 8, .inr (.inr (.inr (.inr gs))))), (sh0, .inr (4, [.int (-1), .int 0, .ref it0])), (it0, .inl (cI, 40, .inl (fun _ => 0))), (sh1, .inr (4, [.int (-1), .int 0, .ref it1])), (it1, .inl (cI, 40, .inl (fun _ => 0))), (sh2, .inr (4, [.int (-1), .int 0, .ref it2])), (it2, .inl (cI, 40, .inl (fun _ => 0))), (sh3, .inr (4, [.int (-1), .int 0, .ref it3])), (it3, .inl (cI, 40, .inl (fun _ => 0))), (sh4, .inr (4, [.int (-1), .int 0, .ref it4])), (it4, .inl (cI, 40, .inl (fun _ => 0))), (sh5, .inr (4, [.int (-1), .int 0, .ref it5])), (it5, .inl (cI, 40, .inl (fun _ => 0))), (sh6, .inr (4, [.int (-1), .int 0, .ref it6])), (it6, .inl (cI, 40, .inl (fun _ => 0))), (sh7, .inr (4, [.int (-1), .int 0, .ref it7])), (it7, .inl (cI, 40, .inl (fun _ => 0))), (y, .inr (9, [.int 0, .int 0, .ref y_lane, .ref y_many, .ref y_item, .ref y_city, .ref y_fresh, .int 0, .ref y_tape, .int 0, .int 0, .int 0, .int 0, .int 0, .int 0, .int 0, .int 0, .int 0, .int 0, .int 0, .ref y_cost, .ref y_away, .ref y_fee, .ref y_goesTo, .ref y_priceWas, .ref y_isKept, .ref y_kept, .ref y_trace, .int 0])), (y_lane, .inl (cI, 8, .inl la)), (y_many, .inl (cI, 8, .inl (fun _ => 0))), (y_item, .inl (cI, 320, .inl (fun _ => 0)))]) (b_runV (q0 := 0) (ci := 8) (As := [.int (sc 1), .int (sc 2), .int (sc 3), .int (sc 4), .int (sc 5)]) (c_X8_copy_b l D cI cZ cC cS sq H.size x xs xt xc xd xr xi xv xw xh xm xa (sc 1) (sc 2) (sc 3) (sc 4) (sc 5) (by assumption) (by assumption)) S gL_law_X8_copy rfl hdV_X8_copy ⟨Nat.le_of_ble_eq_true rfl, Nat.le_of_ble_eq_true rfl⟩ ⟨Nat.le_of_ble_eq_true rfl, Nat.le_of_ble_eq_true rfl⟩ hK hP hD rfl rfl [0] rfl (by decide) rfl hl.1 rfl (Nat.le_of_ble_eq_true rfl) dL_law_272) hP hD hS hA [0] [1, 2, 3, 4, 5, 6, 7, 8, 9, 10, 11, 12, 13, 14, 15, 16, 17, 18, 19, 20, 21] rfl rfl (by decide) (by decide) (fun r_6 w_7 H locs hw_8 hP hD hS => ?_)
    obtain ⟨rfl, rfl⟩ := hw_8
    have hP : va_P D vwCl [(xs, .inl (cS, 8, .inr (.inr (.inr (.inr gs))))), (sh0, .inr (4, [.int (-1), .int 0, .ref it0])), (it0, .inl (cI, 40, .inl (fun _ => 0))), (sh1, .inr (4, [.int (-1), .int 0, .ref it1])), (it1, .inl (cI, 40, .inl (fun _ => 0))), (sh2, .inr (4, [.int (-1), .int 0, .ref it2])), (it2, .inl (cI, 40, .inl (fun _ => 0))), (sh3, .inr (4, [.int (-1), .int 0, .ref it3])), (it3, .inl (cI, 40, .inl (fun _ => 0))), (sh4, .inr (4, [.int (-1), .int 0, .ref it4])), (it4, .inl (cI, 40, .inl (fun _ => 0))), (sh5, .inr (4, [.int (-1), .int 0, .ref it5])), (it5, .inl (cI, 40, .inl (fun _ => 0))), (sh6, .inr (4, [.int (-1), .int 0, .ref it6])), (it6, .inl (cI, 40, .inl (fun _ => 0))), (sh7, .inr (4, [.int (-1), .int 0, .ref it7])), (it7, .inl (cI, 40, .inl (fun _ => 0))), (y, .inr (9, [.int 0, .int 0, .ref y_lane, .ref y_many, .ref y_item, .ref y_city, .ref y_fresh, .int 0, .ref y_tape, .int 0, .int 0, .int 0, .int 0, .int 0, .int 0, .int 0, .int 0, .int 0, .int 0, .int 0, .ref y_cost, .ref y_away, .ref y_fee, .ref y_goesTo, .ref y_priceWas, .ref y_isKept, .ref y_kept, .ref y_trace, .int 0])), (y_lane, .inl (cI, 8, .inl la)), (y_many, .inl (cI, 8, .inl (fun _ => 0))), (y_item, .inl (cI, 320, .inl (fun _ => 0))), (x, .inr (8, [.ref xs, .ref xt, .ref xc, .ref xd, .ref xr, .ref xi, .ref xv, .ref xw, .ref xh, .ref xm, .ref xa, .int 0, .int 0]))] H := hP
    have hD : va_D A [(xs, .inl (cS, 8, .inr (.inr (.inr (.inr gs))))), (sh0, .inr (4, [.int (-1), .int 0, .ref it0])), (it0, .inl (cI, 40, .inl (fun _ => 0))), (sh1, .inr (4, [.int (-1), .int 0, .ref it1])), (it1, .inl (cI, 40, .inl (fun _ => 0))), (sh2, .inr (4, [.int (-1), .int 0, .ref it2])), (it2, .inl (cI, 40, .inl (fun _ => 0))), (sh3, .inr (4, [.int (-1), .int 0, .ref it3])), (it3, .inl (cI, 40, .inl (fun _ => 0))), (sh4, .inr (4, [.int (-1), .int 0, .ref it4])), (it4, .inl (cI, 40, .inl (fun _ => 0))), (sh5, .inr (4, [.int (-1), .int 0, .ref it5])), (it5, .inl (cI, 40, .inl (fun _ => 0))), (sh6, .inr (4, [.int (-1), .int 0, .ref it6])), (it6, .inl (cI, 40, .inl (fun _ => 0))), (sh7, .inr (4, [.int (-1), .int 0, .ref it7])), (it7, .inl (cI, 40, .inl (fun _ => 0))), (y, .inr (9, [.int 0, .int 0, .ref y_lane, .ref y_many, .ref y_item, .ref y_city, .ref y_fresh, .int 0, .ref y_tape, .int 0, .int 0, .int 0, .int 0, .int 0, .int 0, .int 0, .int 0, .int 0, .int 0, .int 0, .ref y_cost, .ref y_away, .ref y_fee, .ref y_goesTo, .ref y_priceWas, .ref y_isKept, .ref y_kept, .ref y_trace, .int 0])), (y_lane, .inl (cI, 8, .inl la)), (y_many, .inl (cI, 8, .inl (fun _ => 0))), (y_item, .inl (cI, 320, .inl (fun _ => 0))), (x, .inr (8, [.ref xs, .ref xt, .ref xc, .ref xd, .ref xr, .ref xi, .ref xv, .ref xw, .ref xh, .ref xm, .ref xa, .int 0, .int 0]))] := hD
    refine lv_aload_n S.1 S.2.1 dL_law_275 rfl (lv_at hl 1 rfl) ?_
    refine lv_aload_n S.1 S.2.1 dL_law_276 rfl (lv_at hl 3 rfl) ?_
    refine lv_iload_n S.1 S.2.1 dL_law_277 rfl (lv_at hl 0 rfl) ?_
    refine lv_iconst (v := 1) S.1 S.2.1 dL_law_278 (by decide) ?_
    refine lv_iadd S.1 S.2.1 dL_law_279 ?_
    refine lv_topi (fun x_9 ex_9 => ?_)
    have ex_9 : x_9 = 1 := by rw [ex_9]; decide
    subst ex_9
    refine va_sld S.1 S.2.1 hX hbl hbA hS (by unfold vp_in; decide) dL_law_280 ?_
    refine W.eq (g2 := F0 m 281 ls [.int (sc 1), .ref y, .int (-1000001)]) rfl ?_
    refine lv_aload_n S.1 S.2.1 dL_law_281 rfl (lv_at hl 3 rfl) ?_
    refine lv_iload_n S.1 S.2.1 dL_law_282 rfl (lv_at hl 0 rfl) ?_
    refine lv_iconst (v := 2) S.1 S.2.1 dL_law_283 (by decide) ?_
    refine lv_iadd S.1 S.2.1 dL_law_284 ?_
    refine lv_topi (fun x_10 ex_10 => ?_)
    have ex_10 : x_10 = 2 := by rw [ex_10]; decide
    subst ex_10
    refine va_sld S.1 S.2.1 hX hbl hbA hS (by unfold vp_in; decide) dL_law_285 ?_
    refine W.eq (g2 := F0 m 286 ls [.int (sc 2), .int (sc 1), .ref y, .int (-1000001)]) rfl ?_
    refine lv_aload_n S.1 S.2.1 dL_law_286 rfl (lv_at hl 3 rfl) ?_
    refine lv_iload_n S.1 S.2.1 dL_law_287 rfl (lv_at hl 0 rfl) ?_
    refine lv_iconst (v := 3) S.1 S.2.1 dL_law_288 (by decide) ?_
    refine lv_iadd S.1 S.2.1 dL_law_289 ?_
    refine lv_topi (fun x_11 ex_11 => ?_)
    have ex_11 : x_11 = 3 := by rw [ex_11]; decide
    subst ex_11
    refine va_sld S.1 S.2.1 hX hbl hbA hS (by unfold vp_in; decide) dL_law_290 ?_
    refine W.eq (g2 := F0 m 291 ls [.int (sc 3), .int (sc 2), .int (sc 1), .ref y, .int (-1000001)]) rfl ?_
    refine lv_aload_n S.1 S.2.1 dL_law_291 rfl (lv_at hl 3 rfl) ?_
    refine lv_iload_n S.1 S.2.1 dL_law_292 rfl (lv_at hl 0 rfl) ?_
    refine lv_iconst (v := 4) S.1 S.2.1 dL_law_293 (by decide) ?_
    refine lv_iadd S.1 S.2.1 dL_law_294 ?_
    refine lv_topi (fun x_12 ex_12 => ?_)
    have ex_12 : x_12 = 4 := by rw [ex_12]; decide
    subst ex_12
    refine va_sld S.1 S.2.1 hX hbl hbA hS (by unfold vp_in; decide) dL_law_295 ?_
    refine W.eq (g2 := F0 m 296 ls [.int (sc 4), .int (sc 3), .int (sc 2), .int (sc 1), .ref y, .int (-1000001)]) rfl ?_
    refine lv_aload_n S.1 S.2.1 dL_law_296 rfl (lv_at hl 3 rfl) ?_
    refine lv_iload_n S.1 S.2.1 dL_law_297 rfl (lv_at hl 0 rfl) ?_
    refine lv_iconst (v := 5) S.1 S.2.1 dL_law_298 (by decide) ?_
    refine lv_iadd S.1 S.2.1 dL_law_299 ?_
    refine lv_topi (fun x_13 ex_13 => ?_)
    have ex_13 : x_13 = 5 := by rw [ex_13]; decide
    subst ex_13
    refine va_sld S.1 S.2.1 hX hbl hbA hS (by unfold vp_in; decide) dL_law_300 ?_
    refine W.eq (g2 := F0 m 301 ls [.int (sc 5), .int (sc 4), .int (sc 3), .int (sc 2), .int (sc 1), .ref y, .int (-1000001)]) rfl ?_
    refine b_ai (wr := [(xs, .inl (cS, 8, .inr (.inr (.inr (.inr gs))))), (sh0, .inr (4, [.int (-1), .int 0, .ref it0])), (it0, .inl (cI, 40, .inl (fun _ => 0))), (sh1, .inr (4, [.int (-1), .int 0, .ref it1])), (it1, .inl (cI, 40, .inl (fun _ => 0))), (sh2, .inr (4, [.int (-1), .int 0, .ref it2])), (it2, .inl (cI, 40, .inl (fun _ => 0))), (sh3, .inr (4, [.int (-1), .int 0, .ref it3])), (it3, .inl (cI, 40, .inl (fun _ => 0))), (sh4, .inr (4, [.int (-1), .int 0, .ref it4])), (it4, .inl (cI, 40, .inl (fun _ => 0))), (sh5, .inr (4, [.int (-1), .int 0, .ref it5])), (it5, .inl (cI, 40, .inl (fun _ => 0))), (sh6, .inr (4, [.int (-1), .int 0, .ref it6])), (it6, .inl (cI, 40, .inl (fun _ => 0))), (sh7, .inr (4, [.int (-1), .int 0, .ref it7])), (it7, .inl (cI, 40, .inl (fun _ => 0))), (y_lane, .inl (cI, 8, .inl la)), (y_many, .inl (cI, 8, .inl (fun _ => 0))), (y_item, .inl (cI, 320, .inl (fun _ => 0))), (x, .inr (8, [.ref xs, .ref xt, .ref xc, .ref xd, .ref xr, .ref xi, .ref xv, .ref xw, .ref xh, .ref xm, .ref xa, .int 0, .int 0]))]) (b_runV (q0 := 17) (ci := 9) (As := [.int (sc 1), .int (sc 2), .int (sc 3), .int (sc 4), .int (sc 5)]) (c_X9_copy_b l D cI cZ cC cS sq H.size y y_lane y_many y_item y_city y_fresh y_tape y_cost y_away y_fee y_goesTo y_priceWas y_isKept y_kept y_trace (sc 1) (sc 2) (sc 3) (sc 4) (sc 5) (by assumption) (by assumption)) S gL_law_X9_copy rfl hdV_X9_copy ⟨Nat.le_of_ble_eq_true rfl, Nat.le_of_ble_eq_true rfl⟩ ⟨Nat.le_of_ble_eq_true rfl, Nat.le_of_ble_eq_true rfl⟩ hK hP hD rfl rfl [17] rfl (by decide) rfl hl.1 rfl (Nat.le_of_ble_eq_true rfl) dL_law_301) hP hD hS hA [17] [0, 1, 2, 3, 4, 5, 6, 7, 8, 9, 10, 11, 12, 13, 14, 15, 16, 18, 19, 20, 21] rfl rfl (by decide) (by decide) (fun r_14 w_15 H locs hw_16 hP hD hS => ?_)
    obtain ⟨rfl, rfl⟩ := hw_16
    have hP : va_P D vwCl [(xs, .inl (cS, 8, .inr (.inr (.inr (.inr gs))))), (sh0, .inr (4, [.int (-1), .int 0, .ref it0])), (it0, .inl (cI, 40, .inl (fun _ => 0))), (sh1, .inr (4, [.int (-1), .int 0, .ref it1])), (it1, .inl (cI, 40, .inl (fun _ => 0))), (sh2, .inr (4, [.int (-1), .int 0, .ref it2])), (it2, .inl (cI, 40, .inl (fun _ => 0))), (sh3, .inr (4, [.int (-1), .int 0, .ref it3])), (it3, .inl (cI, 40, .inl (fun _ => 0))), (sh4, .inr (4, [.int (-1), .int 0, .ref it4])), (it4, .inl (cI, 40, .inl (fun _ => 0))), (sh5, .inr (4, [.int (-1), .int 0, .ref it5])), (it5, .inl (cI, 40, .inl (fun _ => 0))), (sh6, .inr (4, [.int (-1), .int 0, .ref it6])), (it6, .inl (cI, 40, .inl (fun _ => 0))), (sh7, .inr (4, [.int (-1), .int 0, .ref it7])), (it7, .inl (cI, 40, .inl (fun _ => 0))), (y_lane, .inl (cI, 8, .inl la)), (y_many, .inl (cI, 8, .inl (fun _ => 0))), (y_item, .inl (cI, 320, .inl (fun _ => 0))), (x, .inr (8, [.ref xs, .ref xt, .ref xc, .ref xd, .ref xr, .ref xi, .ref xv, .ref xw, .ref xh, .ref xm, .ref xa, .int 0, .int 0]))] H := hP
    have hD : va_D A [(xs, .inl (cS, 8, .inr (.inr (.inr (.inr gs))))), (sh0, .inr (4, [.int (-1), .int 0, .ref it0])), (it0, .inl (cI, 40, .inl (fun _ => 0))), (sh1, .inr (4, [.int (-1), .int 0, .ref it1])), (it1, .inl (cI, 40, .inl (fun _ => 0))), (sh2, .inr (4, [.int (-1), .int 0, .ref it2])), (it2, .inl (cI, 40, .inl (fun _ => 0))), (sh3, .inr (4, [.int (-1), .int 0, .ref it3])), (it3, .inl (cI, 40, .inl (fun _ => 0))), (sh4, .inr (4, [.int (-1), .int 0, .ref it4])), (it4, .inl (cI, 40, .inl (fun _ => 0))), (sh5, .inr (4, [.int (-1), .int 0, .ref it5])), (it5, .inl (cI, 40, .inl (fun _ => 0))), (sh6, .inr (4, [.int (-1), .int 0, .ref it6])), (it6, .inl (cI, 40, .inl (fun _ => 0))), (sh7, .inr (4, [.int (-1), .int 0, .ref it7])), (it7, .inl (cI, 40, .inl (fun _ => 0))), (y_lane, .inl (cI, 8, .inl la)), (y_many, .inl (cI, 8, .inl (fun _ => 0))), (y_item, .inl (cI, 320, .inl (fun _ => 0))), (x, .inr (8, [.ref xs, .ref xt, .ref xc, .ref xd, .ref xr, .ref xi, .ref xv, .ref xw, .ref xh, .ref xm, .ref xa, .int 0, .int 0]))] := hD
    refine lv_icmp_eq (tgt := 1034) S.1 S.2.1 dL_law_304 (by decide) (fun c_17 => ?_) (fun c_17 => absurd c_17 (by decide))
    exact law_tail C hS (lv_sub hl [0, 3] rfl) (by decide) (by decide)
  · have hjb : (sc 3).toNatClampNeg < 8 := cl8 hb
    obtain ⟨sb, hfb⟩ : ∃ sb : Nat, gs (sc 3).toNatClampNeg = some sb := by
      generalize (sc 3).toNatClampNeg = j at hjb ⊢
      rcases (show j = 0 ∨ j = 1 ∨ j = 2 ∨ j = 3 ∨ j = 4 ∨ j = 5 ∨ j = 6 ∨ j = 7 by omega) with rfl | rfl | rfl | rfl | rfl | rfl | rfl | rfl
      · exact ⟨_, hg0⟩
      · exact ⟨_, hg1⟩
      · exact ⟨_, hg2⟩
      · exact ⟨_, hg3⟩
      · exact ⟨_, hg4⟩
      · exact ⟨_, hg5⟩
      · exact ⟨_, hg6⟩
      · exact ⟨_, hg7⟩
    have hj : (sc 1).toNatClampNeg < 8 := cl8 hr
    obtain ⟨sh, it, hfs, hP, hD⟩ : ∃ (sh it : Nat), gs (sc 1).toNatClampNeg = some sh ∧ va_P D vwCl [(x, .inr (8, [.ref xs, .ref xt, .ref xc, .ref xd, .ref xr, .ref xi, .ref xv, .ref xw, .ref xh, .ref xm, .ref xa, .int 0, .int 0])), (xs, .inl (cS, 8, .inr (.inr (.inr (.inr gs))))), (sh, .inr (4, [.int (-1), .int 0, .ref it])), (it, .inl (cI, 40, .inl (fun _ => 0))), (y, .inr (9, [.int 0, .int 0, .ref y_lane, .ref y_many, .ref y_item, .ref y_city, .ref y_fresh, .int 0, .ref y_tape, .int 0, .int 0, .int 0, .int 0, .int 0, .int 0, .int 0, .int 0, .int 0, .int 0, .int 0, .ref y_cost, .ref y_away, .ref y_fee, .ref y_goesTo, .ref y_priceWas, .ref y_isKept, .ref y_kept, .ref y_trace, .int 0])), (y_lane, .inl (cI, 8, .inl la)), (y_many, .inl (cI, 8, .inl (fun _ => 0))), (y_item, .inl (cI, 320, .inl (fun _ => 0)))] H ∧ va_D A [(x, .inr (8, [.ref xs, .ref xt, .ref xc, .ref xd, .ref xr, .ref xi, .ref xv, .ref xw, .ref xh, .ref xm, .ref xa, .int 0, .int 0])), (xs, .inl (cS, 8, .inr (.inr (.inr (.inr gs))))), (sh, .inr (4, [.int (-1), .int 0, .ref it])), (it, .inl (cI, 40, .inl (fun _ => 0))), (y, .inr (9, [.int 0, .int 0, .ref y_lane, .ref y_many, .ref y_item, .ref y_city, .ref y_fresh, .int 0, .ref y_tape, .int 0, .int 0, .int 0, .int 0, .int 0, .int 0, .int 0, .int 0, .int 0, .int 0, .int 0, .ref y_cost, .ref y_away, .ref y_fee, .ref y_goesTo, .ref y_priceWas, .ref y_isKept, .ref y_kept, .ref y_trace, .int 0])), (y_lane, .inl (cI, 8, .inl la)), (y_many, .inl (cI, 8, .inl (fun _ => 0))), (y_item, .inl (cI, 320, .inl (fun _ => 0)))] := by
      generalize (sc 1).toNatClampNeg = j at hj ⊢
      rcases (show j = 0 ∨ j = 1 ∨ j = 2 ∨ j = 3 ∨ j = 4 ∨ j = 5 ∨ j = 6 ∨ j = 7 by omega) with rfl | rfl | rfl | rfl | rfl | rfl | rfl | rfl
      · exact ⟨sh0, it0, hg0, hP.sub [0, 1, 2, 3, 18, 19, 20, 21] rfl, hD.sub [0, 1, 2, 3, 18, 19, 20, 21] (by decide) rfl⟩
      · exact ⟨sh1, it1, hg1, hP.sub [0, 1, 4, 5, 18, 19, 20, 21] rfl, hD.sub [0, 1, 4, 5, 18, 19, 20, 21] (by decide) rfl⟩
      · exact ⟨sh2, it2, hg2, hP.sub [0, 1, 6, 7, 18, 19, 20, 21] rfl, hD.sub [0, 1, 6, 7, 18, 19, 20, 21] (by decide) rfl⟩
      · exact ⟨sh3, it3, hg3, hP.sub [0, 1, 8, 9, 18, 19, 20, 21] rfl, hD.sub [0, 1, 8, 9, 18, 19, 20, 21] (by decide) rfl⟩
      · exact ⟨sh4, it4, hg4, hP.sub [0, 1, 10, 11, 18, 19, 20, 21] rfl, hD.sub [0, 1, 10, 11, 18, 19, 20, 21] (by decide) rfl⟩
      · exact ⟨sh5, it5, hg5, hP.sub [0, 1, 12, 13, 18, 19, 20, 21] rfl, hD.sub [0, 1, 12, 13, 18, 19, 20, 21] (by decide) rfl⟩
      · exact ⟨sh6, it6, hg6, hP.sub [0, 1, 14, 15, 18, 19, 20, 21] rfl, hD.sub [0, 1, 14, 15, 18, 19, 20, 21] (by decide) rfl⟩
      · exact ⟨sh7, it7, hg7, hP.sub [0, 1, 16, 17, 18, 19, 20, 21] rfl, hD.sub [0, 1, 16, 17, 18, 19, 20, 21] (by decide) rfl⟩
    refine lv_aload_n S.1 S.2.1 dL_law_246 rfl (lv_at hl 2 rfl) ?_
    refine lv_aload_n S.1 S.2.1 dL_law_247 rfl (lv_at hl 3 rfl) ?_
    refine lv_iload_n S.1 S.2.1 dL_law_248 rfl (lv_at hl 0 rfl) ?_
    refine lv_iconst (v := 1) S.1 S.2.1 dL_law_249 (by decide) ?_
    refine lv_iadd S.1 S.2.1 dL_law_250 ?_
    refine lv_topi (fun x_1 ex_1 => ?_)
    have ex_1 : x_1 = 1 := by rw [ex_1]; decide
    subst ex_1
    refine va_sld S.1 S.2.1 hX hbl hbA hS (by unfold vp_in; decide) dL_law_251 ?_
    refine W.eq (g2 := F0 m 252 ls [.int (sc 1), .ref x]) rfl ?_
    refine lv_aload_n S.1 S.2.1 dL_law_252 rfl (lv_at hl 3 rfl) ?_
    refine lv_iload_n S.1 S.2.1 dL_law_253 rfl (lv_at hl 0 rfl) ?_
    refine lv_iconst (v := 2) S.1 S.2.1 dL_law_254 (by decide) ?_
    refine lv_iadd S.1 S.2.1 dL_law_255 ?_
    refine lv_topi (fun x_2 ex_2 => ?_)
    have ex_2 : x_2 = 2 := by rw [ex_2]; decide
    subst ex_2
    refine va_sld S.1 S.2.1 hX hbl hbA hS (by unfold vp_in; decide) dL_law_256 ?_
    refine W.eq (g2 := F0 m 257 ls [.int (sc 2), .int (sc 1), .ref x]) rfl ?_
    refine lv_aload_n S.1 S.2.1 dL_law_257 rfl (lv_at hl 3 rfl) ?_
    refine lv_iload_n S.1 S.2.1 dL_law_258 rfl (lv_at hl 0 rfl) ?_
    refine lv_iconst (v := 3) S.1 S.2.1 dL_law_259 (by decide) ?_
    refine lv_iadd S.1 S.2.1 dL_law_260 ?_
    refine lv_topi (fun x_3 ex_3 => ?_)
    have ex_3 : x_3 = 3 := by rw [ex_3]; decide
    subst ex_3
    refine va_sld S.1 S.2.1 hX hbl hbA hS (by unfold vp_in; decide) dL_law_261 ?_
    refine W.eq (g2 := F0 m 262 ls [.int (sc 3), .int (sc 2), .int (sc 1), .ref x]) rfl ?_
    refine lv_aload_n S.1 S.2.1 dL_law_262 rfl (lv_at hl 3 rfl) ?_
    refine lv_iload_n S.1 S.2.1 dL_law_263 rfl (lv_at hl 0 rfl) ?_
    refine lv_iconst (v := 4) S.1 S.2.1 dL_law_264 (by decide) ?_
    refine lv_iadd S.1 S.2.1 dL_law_265 ?_
    refine lv_topi (fun x_4 ex_4 => ?_)
    have ex_4 : x_4 = 4 := by rw [ex_4]; decide
    subst ex_4
    refine va_sld S.1 S.2.1 hX hbl hbA hS (by unfold vp_in; decide) dL_law_266 ?_
    refine W.eq (g2 := F0 m 267 ls [.int (sc 4), .int (sc 3), .int (sc 2), .int (sc 1), .ref x]) rfl ?_
    refine lv_aload_n S.1 S.2.1 dL_law_267 rfl (lv_at hl 3 rfl) ?_
    refine lv_iload_n S.1 S.2.1 dL_law_268 rfl (lv_at hl 0 rfl) ?_
    refine lv_iconst (v := 5) S.1 S.2.1 dL_law_269 (by decide) ?_
    refine lv_iadd S.1 S.2.1 dL_law_270 ?_
    refine lv_topi (fun x_5 ex_5 => ?_)
    have ex_5 : x_5 = 5 := by rw [ex_5]; decide
    subst ex_5
    refine va_sld S.1 S.2.1 hX hbl hbA hS (by unfold vp_in; decide) dL_law_271 ?_
    refine W.eq (g2 := F0 m 272 ls [.int (sc 5), .int (sc 4), .int (sc 3), .int (sc 2), .int (sc 1), .ref x]) rfl ?_
    refine b_ai (wr := [(it, .inl (cI, 40, .inl (fun _ => 0))), (y, .inr (9, [.int 0, .int 0, .ref y_lane, .ref y_many, .ref y_item, .ref y_city, .ref y_fresh, .int 0, .ref y_tape, .int 0, .int 0, .int 0, .int 0, .int 0, .int 0, .int 0, .int 0, .int 0, .int 0, .int 0, .ref y_cost, .ref y_away, .ref y_fee, .ref y_goesTo, .ref y_priceWas, .ref y_isKept, .ref y_kept, .ref y_trace, .int 0])), (y_lane, .inl (cI, 8, .inl la)), (y_many, .inl (cI, 8, .inl (fun _ => 0))), (y_item, .inl (cI, 320, .inl (fun _ => 0)))]) (b_runV (q0 := 0) (ci := 8) (As := [.int (sc 1), .int (sc 2), .int (sc 3), .int (sc 4), .int (sc 5)]) (c_X8_copy_ok l D cI cZ cC cS sq H.size x xs xt xc xd xr xi xv xw xh xm xa gs sh it (sc 1) (sc 2) (sc 3) (sc 4) (sc 5) sb (by assumption) (by assumption) (by assumption) (by assumption)) S gL_law_X8_copy rfl hdV_X8_copy ⟨Nat.le_of_ble_eq_true rfl, Nat.le_of_ble_eq_true rfl⟩ ⟨Nat.le_of_ble_eq_true rfl, Nat.le_of_ble_eq_true rfl⟩ hK hP hD rfl rfl [0, 1, 2] rfl (by decide) rfl hl.1 rfl (Nat.le_of_ble_eq_true rfl) dL_law_272) hP hD hS hA [0, 1, 2] [3, 4, 5, 6, 7] rfl rfl (by decide) (by decide) (fun r_6 w_7 H locs hw_8 hP hD hS => ?_)
    obtain ⟨rfl, rfl⟩ := hw_8
    have hP : va_P D vwCl [(it, .inl (cI, 40, .inl (fun _ => 0))), (y, .inr (9, [.int 0, .int 0, .ref y_lane, .ref y_many, .ref y_item, .ref y_city, .ref y_fresh, .int 0, .ref y_tape, .int 0, .int 0, .int 0, .int 0, .int 0, .int 0, .int 0, .int 0, .int 0, .int 0, .int 0, .ref y_cost, .ref y_away, .ref y_fee, .ref y_goesTo, .ref y_priceWas, .ref y_isKept, .ref y_kept, .ref y_trace, .int 0])), (y_lane, .inl (cI, 8, .inl la)), (y_many, .inl (cI, 8, .inl (fun _ => 0))), (y_item, .inl (cI, 320, .inl (fun _ => 0))), (xs, .inl (cS, 8, .inr (.inr (.inr (.inr gs))))), (sh, .inr (4, [.int (-1), .int 0, .ref it])), (x, .inr (8, [.ref xs, .ref xt, .ref xc, .ref xd, .ref xr, .ref xi, .ref xv, .ref xw, .ref xh, .ref xm, .ref xa, .int 0, .int 1]))] H := hP
    have hD : va_D A [(it, .inl (cI, 40, .inl (fun _ => 0))), (y, .inr (9, [.int 0, .int 0, .ref y_lane, .ref y_many, .ref y_item, .ref y_city, .ref y_fresh, .int 0, .ref y_tape, .int 0, .int 0, .int 0, .int 0, .int 0, .int 0, .int 0, .int 0, .int 0, .int 0, .int 0, .ref y_cost, .ref y_away, .ref y_fee, .ref y_goesTo, .ref y_priceWas, .ref y_isKept, .ref y_kept, .ref y_trace, .int 0])), (y_lane, .inl (cI, 8, .inl la)), (y_many, .inl (cI, 8, .inl (fun _ => 0))), (y_item, .inl (cI, 320, .inl (fun _ => 0))), (xs, .inl (cS, 8, .inr (.inr (.inr (.inr gs))))), (sh, .inr (4, [.int (-1), .int 0, .ref it])), (x, .inr (8, [.ref xs, .ref xt, .ref xc, .ref xd, .ref xr, .ref xi, .ref xv, .ref xw, .ref xh, .ref xm, .ref xa, .int 0, .int 1]))] := hD
    refine lv_aload_n S.1 S.2.1 dL_law_275 rfl (lv_at hl 1 rfl) ?_
    refine lv_aload_n S.1 S.2.1 dL_law_276 rfl (lv_at hl 3 rfl) ?_
    refine lv_iload_n S.1 S.2.1 dL_law_277 rfl (lv_at hl 0 rfl) ?_
    refine lv_iconst (v := 1) S.1 S.2.1 dL_law_278 (by decide) ?_
    refine lv_iadd S.1 S.2.1 dL_law_279 ?_
    refine lv_topi (fun x_9 ex_9 => ?_)
    have ex_9 : x_9 = 1 := by rw [ex_9]; decide
    subst ex_9
    refine va_sld S.1 S.2.1 hX hbl hbA hS (by unfold vp_in; decide) dL_law_280 ?_
    refine W.eq (g2 := F0 m 281 ls [.int (sc 1), .ref y, .int (-1000011)]) rfl ?_
    refine lv_aload_n S.1 S.2.1 dL_law_281 rfl (lv_at hl 3 rfl) ?_
    refine lv_iload_n S.1 S.2.1 dL_law_282 rfl (lv_at hl 0 rfl) ?_
    refine lv_iconst (v := 2) S.1 S.2.1 dL_law_283 (by decide) ?_
    refine lv_iadd S.1 S.2.1 dL_law_284 ?_
    refine lv_topi (fun x_10 ex_10 => ?_)
    have ex_10 : x_10 = 2 := by rw [ex_10]; decide
    subst ex_10
    refine va_sld S.1 S.2.1 hX hbl hbA hS (by unfold vp_in; decide) dL_law_285 ?_
    refine W.eq (g2 := F0 m 286 ls [.int (sc 2), .int (sc 1), .ref y, .int (-1000011)]) rfl ?_
    refine lv_aload_n S.1 S.2.1 dL_law_286 rfl (lv_at hl 3 rfl) ?_
    refine lv_iload_n S.1 S.2.1 dL_law_287 rfl (lv_at hl 0 rfl) ?_
    refine lv_iconst (v := 3) S.1 S.2.1 dL_law_288 (by decide) ?_
    refine lv_iadd S.1 S.2.1 dL_law_289 ?_
    refine lv_topi (fun x_11 ex_11 => ?_)
    have ex_11 : x_11 = 3 := by rw [ex_11]; decide
    subst ex_11
    refine va_sld S.1 S.2.1 hX hbl hbA hS (by unfold vp_in; decide) dL_law_290 ?_
    refine W.eq (g2 := F0 m 291 ls [.int (sc 3), .int (sc 2), .int (sc 1), .ref y, .int (-1000011)]) rfl ?_
    refine lv_aload_n S.1 S.2.1 dL_law_291 rfl (lv_at hl 3 rfl) ?_
    refine lv_iload_n S.1 S.2.1 dL_law_292 rfl (lv_at hl 0 rfl) ?_
    refine lv_iconst (v := 4) S.1 S.2.1 dL_law_293 (by decide) ?_
    refine lv_iadd S.1 S.2.1 dL_law_294 ?_
    refine lv_topi (fun x_12 ex_12 => ?_)
    have ex_12 : x_12 = 4 := by rw [ex_12]; decide
    subst ex_12
    refine va_sld S.1 S.2.1 hX hbl hbA hS (by unfold vp_in; decide) dL_law_295 ?_
    refine W.eq (g2 := F0 m 296 ls [.int (sc 4), .int (sc 3), .int (sc 2), .int (sc 1), .ref y, .int (-1000011)]) rfl ?_
    refine lv_aload_n S.1 S.2.1 dL_law_296 rfl (lv_at hl 3 rfl) ?_
    refine lv_iload_n S.1 S.2.1 dL_law_297 rfl (lv_at hl 0 rfl) ?_
    refine lv_iconst (v := 5) S.1 S.2.1 dL_law_298 (by decide) ?_
    refine lv_iadd S.1 S.2.1 dL_law_299 ?_
    refine lv_topi (fun x_13 ex_13 => ?_)
    have ex_13 : x_13 = 5 := by rw [ex_13]; decide
    subst ex_13
    refine va_sld S.1 S.2.1 hX hbl hbA hS (by unfold vp_in; decide) dL_law_300 ?_
    refine W.eq (g2 := F0 m 301 ls [.int (sc 5), .int (sc 4), .int (sc 3), .int (sc 2), .int (sc 1), .ref y, .int (-1000011)]) rfl ?_
    refine b_ai (wr := [(it, .inl (cI, 40, .inl (fun _ => 0))), (y_many, .inl (cI, 8, .inl (fun _ => 0))), (y_item, .inl (cI, 320, .inl (fun _ => 0))), (xs, .inl (cS, 8, .inr (.inr (.inr (.inr gs))))), (sh, .inr (4, [.int (-1), .int 0, .ref it])), (x, .inr (8, [.ref xs, .ref xt, .ref xc, .ref xd, .ref xr, .ref xi, .ref xv, .ref xw, .ref xh, .ref xm, .ref xa, .int 0, .int 1]))]) (b_runV (q0 := 1) (ci := 9) (As := [.int (sc 1), .int (sc 2), .int (sc 3), .int (sc 4), .int (sc 5)]) (c_X9_copy_ok l D cI cZ cC cS sq H.size y y_lane y_many y_item y_city y_fresh y_tape y_cost y_away y_fee y_goesTo y_priceWas y_isKept y_kept y_trace (sc 1) (sc 2) (sc 3) (sc 4) (sc 5) la (by assumption) (by assumption) (by assumption)) S gL_law_X9_copy rfl hdV_X9_copy ⟨Nat.le_of_ble_eq_true rfl, Nat.le_of_ble_eq_true rfl⟩ ⟨Nat.le_of_ble_eq_true rfl, Nat.le_of_ble_eq_true rfl⟩ hK hP hD rfl rfl [1, 2] rfl (by decide) rfl hl.1 rfl (Nat.le_of_ble_eq_true rfl) dL_law_301) hP hD hS hA [1, 2] [0, 3, 4, 5, 6, 7] rfl rfl (by decide) (by decide) (fun r_14 w_15 H locs hw_16 hP hD hS => ?_)
    obtain ⟨rfl, rfl⟩ := hw_16
    have hP : va_P D vwCl [(it, .inl (cI, 40, .inl (fun _ => 0))), (y_many, .inl (cI, 8, .inl (fun _ => 0))), (y_item, .inl (cI, 320, .inl (fun _ => 0))), (xs, .inl (cS, 8, .inr (.inr (.inr (.inr gs))))), (sh, .inr (4, [.int (-1), .int 0, .ref it])), (x, .inr (8, [.ref xs, .ref xt, .ref xc, .ref xd, .ref xr, .ref xi, .ref xv, .ref xw, .ref xh, .ref xm, .ref xa, .int 0, .int 1]))] H := hP
    have hD : va_D A [(it, .inl (cI, 40, .inl (fun _ => 0))), (y_many, .inl (cI, 8, .inl (fun _ => 0))), (y_item, .inl (cI, 320, .inl (fun _ => 0))), (xs, .inl (cS, 8, .inr (.inr (.inr (.inr gs))))), (sh, .inr (4, [.int (-1), .int 0, .ref it])), (x, .inr (8, [.ref xs, .ref xt, .ref xc, .ref xd, .ref xr, .ref xi, .ref xv, .ref xw, .ref xh, .ref xm, .ref xa, .int 0, .int 1]))] := hD
    refine lv_icmp_eq (tgt := 1034) S.1 S.2.1 dL_law_304 (by decide) (fun c_17 => ?_) (fun c_17 => absurd c_17 (by decide))
    exact law_tail C hS (lv_sub hl [0, 3] rfl) (by decide) (by decide)
