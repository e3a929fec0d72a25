set_option maxRecDepth 20000 in
theorem ggL_law_X8_city : GoodIn wsL_law wsX8_city := goodIn_r _ [263, 27, 18, 243, 264, 46, 265, 266, 22, 23, 32, 267, 268, 269, 270, 26, 271, 82, 81, 272, 273, 274, 275, 21, 276, 63, 64, 65, 67, 68, 72, 73, 74, 277, 168, 169, 170, 278, 279, 280, 17, 281, 58, 282, 283, 284, 285, 55, 54, 57, 56, 286, 287, 288, 289, 290, 291, 292, 59, 293, 294, 295, 296, 297, 298, 299, 300, 301, 302, 303, 304, 305, 306, 307, 308, 309, 310, 311, 312, 313, 314, 315, 316, 317, 318, 319, 320, 321, 322, 323, 324, 325, 326, 327, 328, 329, 330, 331, 332, 333, 334, 335, 336, 337, 338, 339, 340, 341, 342, 343, 344, 345, 346, 347, 348, 349, 350, 351, 352, 353, 79, 354, 80, 355, 356, 357, 358, 359, 360, 361, 362, 363, 364, 365, 366, 367, 368, 369, 370, 371, 372, 373, 374, 375, 376, 377, 378, 379, 380, 381, 382, 383, 384, 385, 386, 387, 388, 389, 390, 391, 392, 393, 394, 395, 396, 397, 398, 399, 400, 401, 402, 403, 404, 405, 406, 407, 408, 409, 410, 411, 412, 413, 414, 415, 66, 416, 417, 418, 419, 420, 421, 422, 423, 424, 219, 220, 221, 69, 70, 71, 425, 426, 427, 31, 428, 429, 430, 431, 432, 86, 87, 433, 434, 435, 436, 437, 438, 439, 440, 441, 442, 443, 444, 445, 446, 447, 448, 449, 88, 89, 450, 451, 452, 453, 1101, 1102, 1103, 1104, 1105, 1106, 1107, 1108, 1109, 1110, 1111, 1112, 1113, 1143, 1144, 1145, 1146, 1147, 1148, 1161, 1162, 1163, 1164, 1149, 1150, 1151, 1152, 1153, 1154, 1155, 1156, 1157, 1158, 1159, 1160, 1165, 1166, 1167, 1168] (by decide +kernel) (by decide +kernel)
set_option maxRecDepth 20000 in
theorem gL_law_X8_city : GoodIn wsL_law (wsV RL 39 RX8 yX8_city wsX8_city) := goodIn_app (goodIn_of _ (by decide +kernel)) ggL_law_X8_city
set_option maxRecDepth 20000 in
theorem ggL_law_X8_copy : GoodIn wsL_law wsX8_copy := goodIn_r _ [215, 151, 14, 216, 217, 218, 219, 220, 221, 152, 153, 2, 154, 155, 156, 157, 200, 201, 202, 49, 203, 125, 158, 159, 160, 161, 47, 162, 222, 223, 224, 225, 126, 171, 172, 173, 174, 1101, 1102, 1103, 1104, 1105, 1106, 1107, 1108, 1109, 1110, 1111, 1112, 1113, 1188, 1189, 1190] (by decide +kernel) (by decide +kernel)
set_option maxRecDepth 20000 in
theorem gL_law_X8_copy : GoodIn wsL_law (wsV RL 22 RX8 yX8_copy wsX8_copy) := goodIn_app (goodIn_of _ (by decide +kernel)) ggL_law_X8_copy
set_option maxRecDepth 20000 in
theorem ggL_law_X8_drop : GoodIn wsL_law wsX8_drop := goodIn_r _ [233, 151, 14, 199, 152, 153, 2, 154, 155, 156, 157, 200, 201, 202, 49, 203, 125, 158, 159, 160, 161, 47, 162, 163, 164, 165, 166, 126, 127, 167, 168, 169, 170, 171, 172, 173, 174, 1101, 1102, 1103, 1104, 1105, 1106, 1107, 1108, 1109, 1110, 1111, 1112, 1113, 1188, 1189, 1190] (by decide +kernel) (by decide +kernel)
set_option maxRecDepth 20000 in
theorem gL_law_X8_drop : GoodIn wsL_law (wsV RL 27 RX8 yX8_drop wsX8_drop) := goodIn_app (goodIn_of _ (by decide +kernel)) ggL_law_X8_drop
set_option maxRecDepth 20000 in
theorem ggL_law_X8_fault : GoodIn wsL_law wsX8_fault := goodIn_r _ [547, 46, 1101, 1102, 1103, 1104, 1105, 1106, 1107, 1108, 1109, 1110, 1111, 1112, 1113] (by decide +kernel) (by decide +kernel)
set_option maxRecDepth 20000 in
theorem gL_law_X8_fault : GoodIn wsL_law (wsV RL 44 RX8 yX8_fault wsX8_fault) := goodIn_app (goodIn_of _ (by decide +kernel)) ggL_law_X8_fault
set_option maxRecDepth 20000 in
theorem ggL_law_X8_feed : GoodIn wsL_law wsX8_feed := goodIn_r _ [241, 151, 18, 242, 243, 244, 245, 246, 17, 247, 55, 248, 249, 250, 251, 54, 1101, 1102, 1103, 1104, 1105, 1106, 1107, 1108, 1109, 1110, 1111, 1112, 1113, 1143, 1144, 1145, 1146, 1147, 1148] (by decide +kernel) (by decide +kernel)
set_option maxRecDepth 20000 in
theorem gL_law_X8_feed : GoodIn wsL_law (wsV RL 34 RX8 yX8_feed wsX8_feed) := goodIn_app (goodIn_of _ (by decide +kernel)) ggL_law_X8_feed
set_option maxRecDepth 20000 in
theorem ggL_law_X8_got : GoodIn wsL_law wsX8_got := goodIn_r _ [729, 621, 22, 151, 623, 624, 625, 2, 626, 627, 628, 629, 21, 630, 63, 631, 632, 633, 155, 156, 157, 730, 731, 732, 733, 65, 73, 1101, 1102, 1103, 1104, 1105, 1106, 1107, 1108, 1109, 1110, 1111, 1112, 1113, 1149, 1150, 1151, 1152, 1153, 1154, 1155, 1156, 1157, 1158, 1159, 1160] (by decide +kernel) (by decide +kernel)
set_option maxRecDepth 20000 in
theorem gL_law_X8_got : GoodIn wsL_law (wsV RL 70 RX8 yX8_got wsX8_got) := goodIn_app (goodIn_of _ (by decide +kernel)) ggL_law_X8_got
set_option maxRecDepth 20000 in
theorem ggL_law_X8_look : GoodIn wsL_law wsX8_look := goodIn_r _ [555, 22, 151, 32, 556, 557, 558, 559, 413, 414, 21, 415, 66, 416, 417, 418, 419, 63, 64, 155, 156, 2, 157, 560, 561, 562, 563, 67, 564, 451, 452, 453, 565, 566, 567, 31, 568, 88, 1101, 1102, 1103, 1104, 1105, 1106, 1107, 1108, 1109, 1110, 1111, 1112, 1113, 1165, 1166, 1167, 1168, 1149, 1150, 1151, 1152, 1153, 1154, 1155, 1156, 1157, 1158, 1159, 1160] (by decide +kernel) (by decide +kernel)
set_option maxRecDepth 20000 in
theorem gL_law_X8_look : GoodIn wsL_law (wsV RL 48 RX8 yX8_look wsX8_look) := goodIn_app (goodIn_of _ (by decide +kernel)) ggL_law_X8_look
set_option maxRecDepth 20000 in
theorem ggL_law_X8_person : GoodIn wsL_law wsX8_person := goodIn_r _ [712, 151, 22, 669, 670, 661, 713, 656, 663, 648, 649, 650, 2, 651, 267, 155, 156, 157, 714, 715, 716, 21, 717, 73, 1101, 1102, 1103, 1104, 1105, 1106, 1107, 1108, 1109, 1110, 1111, 1112, 1113, 1149, 1150, 1151, 1152, 1153, 1154, 1155, 1156, 1157, 1158, 1159, 1160] (by decide +kernel) (by decide +kernel)
set_option maxRecDepth 20000 in
theorem gL_law_X8_person : GoodIn wsL_law (wsV RL 66 RX8 yX8_person wsX8_person) := goodIn_app (goodIn_of _ (by decide +kernel)) ggL_law_X8_person
set_option maxRecDepth 20000 in
theorem ggL_law_X8_price : GoodIn wsL_law wsX8_price := goodIn_r _ [620, 621, 151, 22, 622, 623, 624, 625, 2, 626, 627, 628, 629, 21, 630, 63, 631, 632, 633, 155, 156, 157, 1101, 1102, 1103, 1104, 1105, 1106, 1107, 1108, 1109, 1110, 1111, 1112, 1113, 1149, 1150, 1151, 1152, 1153, 1154, 1155, 1156, 1157, 1158, 1159, 1160] (by decide +kernel) (by decide +kernel)
set_option maxRecDepth 20000 in
theorem gL_law_X8_price : GoodIn wsL_law (wsV RL 52 RX8 yX8_price wsX8_price) := goodIn_app (goodIn_of _ (by decide +kernel)) ggL_law_X8_price
set_option maxRecDepth 20000 in
theorem ggL_law_X8_set : GoodIn wsL_law wsX8_set := goodIn_r _ [198, 151, 14, 199, 152, 153, 2, 154, 155, 156, 157, 200, 201, 202, 49, 203, 125, 158, 159, 160, 161, 47, 162, 204, 205, 206, 207, 127, 171, 172, 173, 174, 1101, 1102, 1103, 1104, 1105, 1106, 1107, 1108, 1109, 1110, 1111, 1112, 1113, 1188, 1189, 1190] (by decide +kernel) (by decide +kernel)
set_option maxRecDepth 20000 in
theorem gL_law_X8_set : GoodIn wsL_law (wsV RL 18 RX8 yX8_set wsX8_set) := goodIn_app (goodIn_of _ (by decide +kernel)) ggL_law_X8_set
set_option maxRecDepth 20000 in
theorem ggL_law_X8_sheet : GoodIn wsL_law wsX8_sheet := goodIn_r _ [150, 151, 14, 152, 153, 2, 154, 155, 156, 157, 158, 159, 160, 161, 47, 162, 163, 164, 165, 49, 166, 125, 126, 127, 167, 168, 169, 170, 171, 172, 173, 174, 1101, 1102, 1103, 1104, 1105, 1106, 1107, 1108, 1109, 1110, 1111, 1112, 1113, 1188, 1189, 1190] (by decide +kernel) (by decide +kernel)
set_option maxRecDepth 20000 in
theorem gL_law_X8_sheet : GoodIn wsL_law (wsV RL 13 RX8 yX8_sheet wsX8_sheet) := goodIn_app (goodIn_of _ (by decide +kernel)) ggL_law_X8_sheet
set_option maxRecDepth 20000 in
theorem ggL_law_X8_step : GoodIn wsL_law wsX8_step := goodIn_r _ [647, 151, 648, 649, 650, 2, 651, 22, 267, 155, 156, 157, 652, 653, 654, 655, 656, 657, 658, 659, 660, 661, 32, 662, 663, 664, 665, 666, 667, 668, 622, 669, 670, 671, 672, 673, 21, 674, 71, 68, 565, 566, 567, 31, 568, 88, 1101, 1102, 1103, 1104, 1105, 1106, 1107, 1108, 1109, 1110, 1111, 1112, 1113, 1149, 1150, 1151, 1152, 1153, 1154, 1155, 1156, 1157, 1158, 1159, 1160, 1165, 1166, 1167, 1168] (by decide +kernel) (by decide +kernel)
set_option maxRecDepth 20000 in
theorem gL_law_X8_step : GoodIn wsL_law (wsV RL 57 RX8 yX8_step wsX8_step) := goodIn_app (goodIn_of _ (by decide +kernel)) ggL_law_X8_step
set_option maxRecDepth 20000 in
theorem ggL_law_X8_walk : GoodIn wsL_law wsX8_walk := goodIn_r _ [703, 151, 14, 217, 648, 649, 650, 2, 651, 22, 267, 155, 156, 157, 152, 153, 154, 200, 201, 202, 49, 203, 125, 158, 159, 160, 161, 47, 162, 222, 223, 224, 225, 126, 652, 653, 654, 655, 656, 657, 658, 659, 660, 661, 32, 662, 663, 664, 665, 666, 667, 668, 622, 669, 670, 671, 672, 673, 21, 674, 71, 68, 565, 566, 567, 31, 568, 88, 171, 172, 173, 174, 1101, 1102, 1103, 1104, 1105, 1106, 1107, 1108, 1109, 1110, 1111, 1112, 1113, 1188, 1189, 1190, 1149, 1150, 1151, 1152, 1153, 1154, 1155, 1156, 1157, 1158, 1159, 1160, 1165, 1166, 1167, 1168] (by decide +kernel) (by decide +kernel)
set_option maxRecDepth 20000 in
theorem gL_law_X8_walk : GoodIn wsL_law (wsV RL 61 RX8 yX8_walk wsX8_walk) := goodIn_app (goodIn_of _ (by decide +kernel)) ggL_law_X8_walk
set_option maxRecDepth 20000 in
theorem ggL_law_X8_witnesses : GoodIn wsL_law wsX8_witnesses := goodIn_r _ [741, 621, 22, 151, 623, 624, 625, 2, 626, 627, 628, 629, 21, 630, 63, 631, 632, 633, 155, 156, 157, 742, 743, 744, 745, 65, 74, 1101, 1102, 1103, 1104, 1105, 1106, 1107, 1108, 1109, 1110, 1111, 1112, 1113, 1149, 1150, 1151, 1152, 1153, 1154, 1155, 1156, 1157, 1158, 1159, 1160] (by decide +kernel) (by decide +kernel)
set_option maxRecDepth 20000 in
theorem gL_law_X8_witnesses : GoodIn wsL_law (wsV RL 74 RX8 yX8_witnesses wsX8_witnesses) := goodIn_app (goodIn_of _ (by decide +kernel)) ggL_law_X8_witnesses
set_option maxRecDepth 20000 in
theorem ggL_law_X9_city : GoodIn wsL_law wsX9_city := goodIn_r _ [457, 179, 136, 458, 459, 460, 461, 462, 463, 464, 465, 466, 135, 467, 468, 469, 5, 470, 257, 471, 472, 473, 474, 475, 476, 477, 478, 479, 480, 481, 482, 483, 137, 484, 485, 486, 487, 488, 489, 490, 491, 492, 493, 494, 495, 496, 497, 498, 499, 500, 501, 502, 503, 504, 505, 506, 507, 508, 509, 510, 511, 512, 513, 514, 515, 516, 517, 518, 519, 520, 521, 522, 523, 524, 525, 526, 527, 528, 529, 530, 531, 532, 533, 187, 188, 189, 534, 535, 536, 537, 538, 539, 540, 541, 542, 543, 1114, 1115, 1116, 1117, 1118, 1119, 1120, 1121, 1122, 1123, 1124, 1125, 1126, 1127, 1128, 1129, 1130, 1131, 1132, 1133, 1134, 1135, 1136, 1137, 1138, 1139, 1140, 1141, 1142] (by decide +kernel) (by decide +kernel)
set_option maxRecDepth 20000 in
theorem gL_law_X9_city : GoodIn wsL_law (wsV RL 43 RX9 yX9_city wsX9_city) := goodIn_app (goodIn_of _ (by decide +kernel)) ggL_law_X9_city
set_option maxRecDepth 20000 in
theorem ggL_law_X9_copy : GoodIn wsL_law wsX9_copy := goodIn_r _ [229, 179, 181, 182, 132, 133, 134, 183, 184, 5, 185, 186, 187, 188, 189, 190, 191, 192, 193, 194, 1114, 1115, 1116, 1117, 1118, 1119, 1120, 1121, 1122, 1123, 1124, 1125, 1126, 1127, 1128, 1129, 1130, 1131, 1132, 1133, 1134, 1135, 1136, 1137, 1138, 1139, 1140, 1141, 1142] (by decide +kernel) (by decide +kernel)
set_option maxRecDepth 20000 in
theorem gL_law_X9_copy : GoodIn wsL_law (wsV RL 26 RX9 yX9_copy wsX9_copy) := goodIn_app (goodIn_of _ (by decide +kernel)) ggL_law_X9_copy
set_option maxRecDepth 20000 in
theorem ggL_law_X9_drop : GoodIn wsL_law wsX9_drop := goodIn_r _ [237, 179, 181, 182, 132, 133, 183, 184, 5, 185, 186, 187, 188, 189, 190, 191, 192, 193, 194, 1114, 1115, 1116, 1117, 1118, 1119, 1120, 1121, 1122, 1123, 1124, 1125, 1126, 1127, 1128, 1129, 1130, 1131, 1132, 1133, 1134, 1135, 1136, 1137, 1138, 1139, 1140, 1141, 1142] (by decide +kernel) (by decide +kernel)
set_option maxRecDepth 20000 in
theorem gL_law_X9_drop : GoodIn wsL_law (wsV RL 31 RX9 yX9_drop wsX9_drop) := goodIn_app (goodIn_of _ (by decide +kernel)) ggL_law_X9_drop
set_option maxRecDepth 20000 in
theorem ggL_law_X9_fault : GoodIn wsL_law wsX9_fault := goodIn_r _ [551, 179, 463, 1114, 1115, 1116, 1117, 1118, 1119, 1120, 1121, 1122, 1123, 1124, 1125, 1126, 1127, 1128, 1129, 1130, 1131, 1132, 1133, 1134, 1135, 1136, 1137, 1138, 1139, 1140, 1141, 1142] (by decide +kernel) (by decide +kernel)
set_option maxRecDepth 20000 in
theorem gL_law_X9_fault : GoodIn wsL_law (wsV RL 47 RX9 yX9_fault wsX9_fault) := goodIn_app (goodIn_of _ (by decide +kernel)) ggL_law_X9_fault
set_option maxRecDepth 20000 in
theorem ggL_law_X9_feed : GoodIn wsL_law wsX9_feed := goodIn_r _ [255, 179, 256, 181, 257, 258, 137, 259, 187, 188, 5, 189, 1114, 1115, 1116, 1117, 1118, 1119, 1120, 1121, 1122, 1123, 1124, 1125, 1126, 1127, 1128, 1129, 1130, 1131, 1132, 1133, 1134, 1135, 1136, 1137, 1138, 1139, 1140, 1141, 1142] (by decide +kernel) (by decide +kernel)
set_option maxRecDepth 20000 in
theorem gL_law_X9_feed : GoodIn wsL_law (wsV RL 38 RX9 yX9_feed wsX9_feed) := goodIn_app (goodIn_of _ (by decide +kernel)) ggL_law_X9_feed
set_option maxRecDepth 20000 in
theorem ggL_law_X9_got : GoodIn wsL_law wsX9_got := goodIn_r _ [737, 179, 466, 638, 135, 181, 640, 641, 5, 642, 643, 187, 188, 189, 1114, 1115, 1116, 1117, 1118, 1119, 1120, 1121, 1122, 1123, 1124, 1125, 1126, 1127, 1128, 1129, 1130, 1131, 1132, 1133, 1134, 1135, 1136, 1137, 1138, 1139, 1140, 1141, 1142] (by decide +kernel) (by decide +kernel)
set_option maxRecDepth 20000 in
theorem gL_law_X9_got : GoodIn wsL_law (wsV RL 73 RX9 yX9_got wsX9_got) := goodIn_app (goodIn_of _ (by decide +kernel)) ggL_law_X9_got
set_option maxRecDepth 20000 in
theorem ggL_law_X9_look : GoodIn wsL_law wsX9_look := goodIn_r _ [572, 179, 180, 181, 573, 478, 574, 575, 576, 577, 5, 578, 135, 579, 580, 581, 582, 583, 187, 188, 189, 584, 585, 586, 587, 588, 589, 590, 186, 591, 592, 593, 594, 595, 596, 597, 598, 599, 600, 601, 602, 603, 604, 605, 606, 607, 608, 609, 610, 611, 612, 613, 614, 615, 616, 1114, 1115, 1116, 1117, 1118, 1119, 1120, 1121, 1122, 1123, 1124, 1125, 1126, 1127, 1128, 1129, 1130, 1131, 1132, 1133, 1134, 1135, 1136, 1137, 1138, 1139, 1140, 1141, 1142] (by decide +kernel) (by decide +kernel)
set_option maxRecDepth 20000 in
theorem gL_law_X9_look : GoodIn wsL_law (wsV RL 51 RX9 yX9_look wsX9_look) := goodIn_app (goodIn_of _ (by decide +kernel)) ggL_law_X9_look
set_option maxRecDepth 20000 in
theorem ggL_law_X9_person : GoodIn wsL_law wsX9_person := goodIn_r _ [721, 179, 181, 722, 687, 723, 724, 135, 725, 679, 680, 681, 5, 682, 187, 188, 189, 688, 689, 690, 691, 1114, 1115, 1116, 1117, 1118, 1119, 1120, 1121, 1122, 1123, 1124, 1125, 1126, 1127, 1128, 1129, 1130, 1131, 1132, 1133, 1134, 1135, 1136, 1137, 1138, 1139, 1140, 1141, 1142] (by decide +kernel) (by decide +kernel)
set_option maxRecDepth 20000 in
theorem gL_law_X9_person : GoodIn wsL_law (wsV RL 69 RX9 yX9_person wsX9_person) := goodIn_app (goodIn_of _ (by decide +kernel)) ggL_law_X9_person
set_option maxRecDepth 20000 in
theorem ggL_law_X9_price : GoodIn wsL_law wsX9_price := goodIn_r _ [637, 179, 466, 638, 639, 181, 135, 640, 641, 5, 642, 643, 187, 188, 189, 1114, 1115, 1116, 1117, 1118, 1119, 1120, 1121, 1122, 1123, 1124, 1125, 1126, 1127, 1128, 1129, 1130, 1131, 1132, 1133, 1134, 1135, 1136, 1137, 1138, 1139, 1140, 1141, 1142] (by decide +kernel) (by decide +kernel)
set_option maxRecDepth 20000 in
theorem gL_law_X9_price : GoodIn wsL_law (wsV RL 56 RX9 yX9_price wsX9_price) := goodIn_app (goodIn_of _ (by decide +kernel)) ggL_law_X9_price
set_option maxRecDepth 20000 in
theorem ggL_law_X9_set : GoodIn wsL_law wsX9_set := goodIn_r _ [211, 179, 181, 182, 132, 133, 134, 183, 184, 5, 185, 186, 187, 188, 189, 190, 191, 192, 193, 194, 1114, 1115, 1116, 1117, 1118, 1119, 1120, 1121, 1122, 1123, 1124, 1125, 1126, 1127, 1128, 1129, 1130, 1131, 1132, 1133, 1134, 1135, 1136, 1137, 1138, 1139, 1140, 1141, 1142] (by decide +kernel) (by decide +kernel)
set_option maxRecDepth 20000 in
theorem gL_law_X9_set : GoodIn wsL_law (wsV RL 21 RX9 yX9_set wsX9_set) := goodIn_app (goodIn_of _ (by decide +kernel)) ggL_law_X9_set
set_option maxRecDepth 20000 in
theorem ggL_law_X9_sheet : GoodIn wsL_law wsX9_sheet := goodIn_r _ [178, 179, 180, 181, 182, 132, 133, 134, 183, 184, 5, 185, 186, 187, 188, 189, 190, 191, 192, 193, 194, 1114, 1115, 1116, 1117, 1118, 1119, 1120, 1121, 1122, 1123, 1124, 1125, 1126, 1127, 1128, 1129, 1130, 1131, 1132, 1133, 1134, 1135, 1136, 1137, 1138, 1139, 1140, 1141, 1142] (by decide +kernel) (by decide +kernel)
set_option maxRecDepth 20000 in
theorem gL_law_X9_sheet : GoodIn wsL_law (wsV RL 17 RX9 yX9_sheet wsX9_sheet) := goodIn_app (goodIn_of _ (by decide +kernel)) ggL_law_X9_sheet
set_option maxRecDepth 20000 in
theorem ggL_law_X9_step : GoodIn wsL_law wsX9_step := goodIn_r _ [678, 179, 181, 679, 680, 681, 5, 682, 135, 187, 188, 189, 683, 684, 685, 686, 687, 186, 688, 689, 690, 691, 692, 693, 694, 695, 591, 592, 593, 594, 574, 573, 595, 596, 597, 598, 599, 600, 601, 602, 603, 604, 605, 606, 607, 608, 584, 585, 586, 587, 613, 614, 615, 616, 696, 697, 698, 699, 609, 610, 611, 612, 1114, 1115, 1116, 1117, 1118, 1119, 1120, 1121, 1122, 1123, 1124, 1125, 1126, 1127, 1128, 1129, 1130, 1131, 1132, 1133, 1134, 1135, 1136, 1137, 1138, 1139, 1140, 1141, 1142] (by decide +kernel) (by decide +kernel)
set_option maxRecDepth 20000 in
theorem gL_law_X9_step : GoodIn wsL_law (wsV RL 60 RX9 yX9_step wsX9_step) := goodIn_app (goodIn_of _ (by decide +kernel)) ggL_law_X9_step
set_option maxRecDepth 20000 in
theorem ggL_law_X9_walk : GoodIn wsL_law wsX9_walk := goodIn_r _ [707, 179, 708, 181, 132, 133, 134, 182, 679, 680, 681, 5, 682, 135, 187, 188, 189, 183, 184, 185, 186, 190, 191, 192, 193, 194, 683, 684, 685, 686, 687, 688, 689, 690, 691, 692, 693, 694, 695, 591, 592, 593, 594, 574, 573, 595, 596, 597, 598, 599, 600, 601, 602, 603, 604, 605, 606, 607, 608, 584, 585, 586, 587, 613, 614, 615, 616, 696, 697, 698, 699, 609, 610, 611, 612, 1114, 1115, 1116, 1117, 1118, 1119, 1120, 1121, 1122, 1123, 1124, 1125, 1126, 1127, 1128, 1129, 1130, 1131, 1132, 1133, 1134, 1135, 1136, 1137, 1138, 1139, 1140, 1141, 1142] (by decide +kernel) (by decide +kernel)
set_option maxRecDepth 20000 in
theorem gL_law_X9_walk : GoodIn wsL_law (wsV RL 65 RX9 yX9_walk wsX9_walk) := goodIn_app (goodIn_of _ (by decide +kernel)) ggL_law_X9_walk
set_option maxRecDepth 20000 in
theorem ggL_law_X9_witnesses : GoodIn wsL_law wsX9_witnesses := goodIn_r _ [749, 179, 466, 638, 135, 181, 640, 641, 5, 642, 643, 187, 188, 189, 1114, 1115, 1116, 1117, 1118, 1119, 1120, 1121, 1122, 1123, 1124, 1125, 1126, 1127, 1128, 1129, 1130, 1131, 1132, 1133, 1134, 1135, 1136, 1137, 1138, 1139, 1140, 1141, 1142] (by decide +kernel) (by decide +kernel)
set_option maxRecDepth 20000 in
theorem gL_law_X9_witnesses : GoodIn wsL_law (wsV RL 77 RX9 yX9_witnesses wsX9_witnesses) := goodIn_app (goodIn_of _ (by decide +kernel)) ggL_law_X9_witnesses
theorem dL_law_160 : decode cL_law 160 = .ok (.aload_n 1, 1) := by decide +kernel
theorem dL_law_161 : decode cL_law 161 = .ok (.aload_n 0, 1) := by decide +kernel
theorem dL_law_162 : decode cL_law 162 = .ok (.iload_n 3, 1) := by decide +kernel
theorem dL_law_163 : decode cL_law 163 = .ok (.iconst 1, 1) := by decide +kernel
theorem dL_law_164 : decode cL_law 164 = .ok (.iadd, 1) := by decide +kernel
theorem dL_law_165 : decode cL_law 165 = .ok (.iaload, 1) := by decide +kernel
theorem dL_law_166 : decode cL_law 166 = .ok (.aload_n 0, 1) := by decide +kernel
theorem dL_law_167 : decode cL_law 167 = .ok (.iload_n 3, 1) := by decide +kernel
theorem dL_law_168 : decode cL_law 168 = .ok (.iconst 2, 1) := by decide +kernel
theorem dL_law_169 : decode cL_law 169 = .ok (.iadd, 1) := by decide +kernel
theorem dL_law_170 : decode cL_law 170 = .ok (.iaload, 1) := by decide +kernel
theorem dL_law_171 : decode cL_law 171 = .ok (.aload_n 0, 1) := by decide +kernel
theorem dL_law_172 : decode cL_law 172 = .ok (.iload_n 3, 1) := by decide +kernel
theorem dL_law_173 : decode cL_law 173 = .ok (.iconst 3, 1) := by decide +kernel
theorem dL_law_174 : decode cL_law 174 = .ok (.iadd, 1) := by decide +kernel
theorem dL_law_175 : decode cL_law 175 = .ok (.iaload, 1) := by decide +kernel
theorem dL_law_176 : decode cL_law 176 = .ok (.invokevirtual 13, 3) := by decide +kernel
theorem dL_law_179 : decode cL_law 179 = .ok (.pop, 1) := by decide +kernel
theorem dL_law_180 : decode cL_law 180 = .ok (.aload_n 2, 1) := by decide +kernel
theorem dL_law_181 : decode cL_law 181 = .ok (.aload_n 0, 1) := by decide +kernel
theorem dL_law_182 : decode cL_law 182 = .ok (.iload_n 3, 1) := by decide +kernel
theorem dL_law_183 : decode cL_law 183 = .ok (.iconst 1, 1) := by decide +kernel
theorem dL_law_184 : decode cL_law 184 = .ok (.iadd, 1) := by decide +kernel
theorem dL_law_185 : decode cL_law 185 = .ok (.iaload, 1) := by decide +kernel
theorem dL_law_186 : decode cL_law 186 = .ok (.aload_n 0, 1) := by decide +kernel
theorem dL_law_187 : decode cL_law 187 = .ok (.iload_n 3, 1) := by decide +kernel
theorem dL_law_188 : decode cL_law 188 = .ok (.iconst 2, 1) := by decide +kernel
theorem dL_law_189 : decode cL_law 189 = .ok (.iadd, 1) := by decide +kernel
theorem dL_law_190 : decode cL_law 190 = .ok (.iaload, 1) := by decide +kernel
theorem dL_law_191 : decode cL_law 191 = .ok (.aload_n 0, 1) := by decide +kernel
theorem dL_law_192 : decode cL_law 192 = .ok (.iload_n 3, 1) := by decide +kernel
theorem dL_law_193 : decode cL_law 193 = .ok (.iconst 3, 1) := by decide +kernel
theorem dL_law_194 : decode cL_law 194 = .ok (.iadd, 1) := by decide +kernel
theorem dL_law_195 : decode cL_law 195 = .ok (.iaload, 1) := by decide +kernel
theorem dL_law_196 : decode cL_law 196 = .ok (.invokevirtual 17, 3) := by decide +kernel
theorem dL_law_199 : decode cL_law 199 = .ok (.pop, 1) := by decide +kernel
theorem dL_law_200 : decode cL_law 200 = .ok (.goto 834, 3) := by decide +kernel
theorem dL_law_203 : decode cL_law 203 = .ok (.aload_n 1, 1) := by decide +kernel
theorem dL_law_204 : decode cL_law 204 = .ok (.aload_n 0, 1) := by decide +kernel
theorem dL_law_205 : decode cL_law 205 = .ok (.iload_n 3, 1) := by decide +kernel
theorem dL_law_206 : decode cL_law 206 = .ok (.iconst 1, 1) := by decide +kernel
theorem dL_law_207 : decode cL_law 207 = .ok (.iadd, 1) := by decide +kernel
theorem dL_law_208 : decode cL_law 208 = .ok (.iaload, 1) := by decide +kernel
theorem dL_law_209 : decode cL_law 209 = .ok (.aload_n 0, 1) := by decide +kernel
theorem dL_law_210 : decode cL_law 210 = .ok (.iload_n 3, 1) := by decide +kernel
theorem dL_law_211 : decode cL_law 211 = .ok (.iconst 2, 1) := by decide +kernel
theorem dL_law_212 : decode cL_law 212 = .ok (.iadd, 1) := by decide +kernel
theorem dL_law_213 : decode cL_law 213 = .ok (.iaload, 1) := by decide +kernel
theorem dL_law_214 : decode cL_law 214 = .ok (.aload_n 0, 1) := by decide +kernel
theorem dL_law_215 : decode cL_law 215 = .ok (.iload_n 3, 1) := by decide +kernel
theorem dL_law_216 : decode cL_law 216 = .ok (.iconst 3, 1) := by decide +kernel
theorem dL_law_217 : decode cL_law 217 = .ok (.iadd, 1) := by decide +kernel
theorem dL_law_218 : decode cL_law 218 = .ok (.iaload, 1) := by decide +kernel
theorem dL_law_219 : decode cL_law 219 = .ok (.invokevirtual 18, 3) := by decide +kernel
theorem dL_law_222 : decode cL_law 222 = .ok (.pop, 1) := by decide +kernel
theorem dL_law_223 : decode cL_law 223 = .ok (.aload_n 2, 1) := by decide +kernel
theorem dL_law_224 : decode cL_law 224 = .ok (.aload_n 0, 1) := by decide +kernel
theorem dL_law_225 : decode cL_law 225 = .ok (.iload_n 3, 1) := by decide +kernel
theorem dL_law_226 : decode cL_law 226 = .ok (.iconst 1, 1) := by decide +kernel
theorem dL_law_227 : decode cL_law 227 = .ok (.iadd, 1) := by decide +kernel
theorem dL_law_228 : decode cL_law 228 = .ok (.iaload, 1) := by decide +kernel
theorem dL_law_229 : decode cL_law 229 = .ok (.aload_n 0, 1) := by decide +kernel
theorem dL_law_230 : decode cL_law 230 = .ok (.iload_n 3, 1) := by decide +kernel
theorem dL_law_231 : decode cL_law 231 = .ok (.iconst 2, 1) := by decide +kernel
theorem dL_law_232 : decode cL_law 232 = .ok (.iadd, 1) := by decide +kernel
theorem dL_law_233 : decode cL_law 233 = .ok (.iaload, 1) := by decide +kernel
theorem dL_law_234 : decode cL_law 234 = .ok (.aload_n 0, 1) := by decide +kernel
theorem dL_law_235 : decode cL_law 235 = .ok (.iload_n 3, 1) := by decide +kernel
theorem dL_law_236 : decode cL_law 236 = .ok (.iconst 3, 1) := by decide +kernel
theorem dL_law_237 : decode cL_law 237 = .ok (.iadd, 1) := by decide +kernel
theorem dL_law_238 : decode cL_law 238 = .ok (.iaload, 1) := by decide +kernel
theorem dL_law_239 : decode cL_law 239 = .ok (.invokevirtual 21, 3) := by decide +kernel
theorem dL_law_242 : decode cL_law 242 = .ok (.pop, 1) := by decide +kernel
theorem dL_law_243 : decode cL_law 243 = .ok (.goto 791, 3) := by decide +kernel
theorem dL_law_246 : decode cL_law 246 = .ok (.aload_n 1, 1) := by decide +kernel
theorem dL_law_247 : decode cL_law 247 = .ok (.aload_n 0, 1) := by decide +kernel
theorem dL_law_248 : decode cL_law 248 = .ok (.iload_n 3, 1) := by decide +kernel
theorem dL_law_249 : decode cL_law 249 = .ok (.iconst 1, 1) := by decide +kernel
theorem dL_law_250 : decode cL_law 250 = .ok (.iadd, 1) := by decide +kernel
theorem dL_law_251 : decode cL_law 251 = .ok (.iaload, 1) := by decide +kernel
theorem dL_law_252 : decode cL_law 252 = .ok (.aload_n 0, 1) := by decide +kernel
theorem dL_law_253 : decode cL_law 253 = .ok (.iload_n 3, 1) := by decide +kernel
theorem dL_law_254 : decode cL_law 254 = .ok (.iconst 2, 1) := by decide +kernel
theorem dL_law_255 : decode cL_law 255 = .ok (.iadd, 1) := by decide +kernel
theorem dL_law_256 : decode cL_law 256 = .ok (.iaload, 1) := by decide +kernel
theorem dL_law_257 : decode cL_law 257 = .ok (.aload_n 0, 1) := by decide +kernel
theorem dL_law_258 : decode cL_law 258 = .ok (.iload_n 3, 1) := by decide +kernel
theorem dL_law_259 : decode cL_law 259 = .ok (.iconst 3, 1) := by decide +kernel
theorem dL_law_260 : decode cL_law 260 = .ok (.iadd, 1) := by decide +kernel
theorem dL_law_261 : decode cL_law 261 = .ok (.iaload, 1) := by decide +kernel
theorem dL_law_262 : decode cL_law 262 = .ok (.aload_n 0, 1) := by decide +kernel
theorem dL_law_263 : decode cL_law 263 = .ok (.iload_n 3, 1) := by decide +kernel
theorem dL_law_264 : decode cL_law 264 = .ok (.iconst 4, 1) := by decide +kernel
theorem dL_law_265 : decode cL_law 265 = .ok (.iadd, 1) := by decide +kernel
theorem dL_law_266 : decode cL_law 266 = .ok (.iaload, 1) := by decide +kernel
theorem dL_law_267 : decode cL_law 267 = .ok (.aload_n 0, 1) := by decide +kernel
theorem dL_law_268 : decode cL_law 268 = .ok (.iload_n 3, 1) := by decide +kernel
theorem dL_law_269 : decode cL_law 269 = .ok (.iconst 5, 1) := by decide +kernel
theorem dL_law_270 : decode cL_law 270 = .ok (.iadd, 1) := by decide +kernel
theorem dL_law_271 : decode cL_law 271 = .ok (.iaload, 1) := by decide +kernel
theorem dL_law_272 : decode cL_law 272 = .ok (.invokevirtual 22, 3) := by decide +kernel
theorem dL_law_275 : decode cL_law 275 = .ok (.pop, 1) := by decide +kernel
theorem dL_law_276 : decode cL_law 276 = .ok (.aload_n 2, 1) := by decide +kernel
theorem dL_law_277 : decode cL_law 277 = .ok (.aload_n 0, 1) := by decide +kernel
theorem dL_law_278 : decode cL_law 278 = .ok (.iload_n 3, 1) := by decide +kernel
theorem dL_law_279 : decode cL_law 279 = .ok (.iconst 1, 1) := by decide +kernel
theorem dL_law_280 : decode cL_law 280 = .ok (.iadd, 1) := by decide +kernel
theorem dL_law_281 : decode cL_law 281 = .ok (.iaload, 1) := by decide +kernel
theorem dL_law_282 : decode cL_law 282 = .ok (.aload_n 0, 1) := by decide +kernel
theorem dL_law_283 : decode cL_law 283 = .ok (.iload_n 3, 1) := by decide +kernel
theorem dL_law_284 : decode cL_law 284 = .ok (.iconst 2, 1) := by decide +kernel
theorem dL_law_285 : decode cL_law 285 = .ok (.iadd, 1) := by decide +kernel
theorem dL_law_286 : decode cL_law 286 = .ok (.iaload, 1) := by decide +kernel
theorem dL_law_287 : decode cL_law 287 = .ok (.aload_n 0, 1) := by decide +kernel
theorem dL_law_288 : decode cL_law 288 = .ok (.iload_n 3, 1) := by decide +kernel
theorem dL_law_289 : decode cL_law 289 = .ok (.iconst 3, 1) := by decide +kernel
theorem dL_law_290 : decode cL_law 290 = .ok (.iadd, 1) := by decide +kernel
theorem dL_law_291 : decode cL_law 291 = .ok (.iaload, 1) := by decide +kernel
theorem dL_law_292 : decode cL_law 292 = .ok (.aload_n 0, 1) := by decide +kernel
theorem dL_law_293 : decode cL_law 293 = .ok (.iload_n 3, 1) := by decide +kernel
theorem dL_law_294 : decode cL_law 294 = .ok (.iconst 4, 1) := by decide +kernel
theorem dL_law_295 : decode cL_law 295 = .ok (.iadd, 1) := by decide +kernel
theorem dL_law_296 : decode cL_law 296 = .ok (.iaload, 1) := by decide +kernel
theorem dL_law_297 : decode cL_law 297 = .ok (.aload_n 0, 1) := by decide +kernel
theorem dL_law_298 : decode cL_law 298 = .ok (.iload_n 3, 1) := by decide +kernel
theorem dL_law_299 : decode cL_law 299 = .ok (.iconst 5, 1) := by decide +kernel
theorem dL_law_300 : decode cL_law 300 = .ok (.iadd, 1) := by decide +kernel
theorem dL_law_301 : decode cL_law 301 = .ok (.iaload, 1) := by decide +kernel
theorem dL_law_302 : decode cL_law 302 = .ok (.invokevirtual 26, 3) := by decide +kernel
theorem dL_law_305 : decode cL_law 305 = .ok (.pop, 1) := by decide +kernel
theorem dL_law_306 : decode cL_law 306 = .ok (.goto 728, 3) := by decide +kernel
theorem dL_law_309 : decode cL_law 309 = .ok (.aload_n 1, 1) := by decide +kernel
theorem dL_law_310 : decode cL_law 310 = .ok (.aload_n 0, 1) := by decide +kernel
theorem dL_law_311 : decode cL_law 311 = .ok (.iload_n 3, 1) := by decide +kernel
theorem dL_law_312 : decode cL_law 312 = .ok (.iconst 1, 1) := by decide +kernel
theorem dL_law_313 : decode cL_law 313 = .ok (.iadd, 1) := by decide +kernel
theorem dL_law_314 : decode cL_law 314 = .ok (.iaload, 1) := by decide +kernel
theorem dL_law_315 : decode cL_law 315 = .ok (.invokevirtual 27, 3) := by decide +kernel
theorem dL_law_318 : decode cL_law 318 = .ok (.pop, 1) := by decide +kernel
theorem dL_law_319 : decode cL_law 319 = .ok (.aload_n 2, 1) := by decide +kernel
theorem dL_law_320 : decode cL_law 320 = .ok (.aload_n 0, 1) := by decide +kernel
theorem dL_law_321 : decode cL_law 321 = .ok (.iload_n 3, 1) := by decide +kernel
theorem dL_law_322 : decode cL_law 322 = .ok (.iconst 1, 1) := by decide +kernel
theorem dL_law_323 : decode cL_law 323 = .ok (.iadd, 1) := by decide +kernel
theorem dL_law_324 : decode cL_law 324 = .ok (.iaload, 1) := by decide +kernel
theorem dL_law_325 : decode cL_law 325 = .ok (.invokevirtual 31, 3) := by decide +kernel
theorem dL_law_328 : decode cL_law 328 = .ok (.pop, 1) := by decide +kernel
theorem dL_law_329 : decode cL_law 329 = .ok (.goto 705, 3) := by decide +kernel
theorem dL_law_332 : decode cL_law 332 = .ok (.aload_n 1, 1) := by decide +kernel
theorem dL_law_333 : decode cL_law 333 = .ok (.aload_n 0, 1) := by decide +kernel
theorem dL_law_334 : decode cL_law 334 = .ok (.iload_n 3, 1) := by decide +kernel
theorem dL_law_335 : decode cL_law 335 = .ok (.iconst 1, 1) := by decide +kernel
theorem dL_law_336 : decode cL_law 336 = .ok (.iadd, 1) := by decide +kernel
theorem dL_law_337 : decode cL_law 337 = .ok (.iaload, 1) := by decide +kernel
theorem dL_law_338 : decode cL_law 338 = .ok (.i2l, 1) := by decide +kernel
theorem dL_law_339 : decode cL_law 339 = .ok (.bipush 32, 2) := by decide +kernel
theorem dL_law_341 : decode cL_law 341 = .ok (.lshl, 1) := by decide +kernel
theorem dL_law_342 : decode cL_law 342 = .ok (.aload_n 0, 1) := by decide +kernel
theorem dL_law_343 : decode cL_law 343 = .ok (.iload_n 3, 1) := by decide +kernel
theorem dL_law_344 : decode cL_law 344 = .ok (.iconst 2, 1) := by decide +kernel
theorem dL_law_345 : decode cL_law 345 = .ok (.iadd, 1) := by decide +kernel
theorem dL_law_346 : decode cL_law 346 = .ok (.iaload, 1) := by decide +kernel
theorem dL_law_347 : decode cL_law 347 = .ok (.i2l, 1) := by decide +kernel
theorem dL_law_348 : decode cL_law 348 = .ok (.ldc2_w 32, 3) := by decide +kernel
theorem dL_law_351 : decode cL_law 351 = .ok (.land, 1) := by decide +kernel
theorem dL_law_352 : decode cL_law 352 = .ok (.lor, 1) := by decide +kernel
theorem dL_law_353 : decode cL_law 353 = .ok (.aload_n 0, 1) := by decide +kernel
theorem dL_law_354 : decode cL_law 354 = .ok (.iload_n 3, 1) := by decide +kernel
theorem dL_law_355 : decode cL_law 355 = .ok (.iconst 3, 1) := by decide +kernel
theorem dL_law_356 : decode cL_law 356 = .ok (.iadd, 1) := by decide +kernel
theorem dL_law_357 : decode cL_law 357 = .ok (.iaload, 1) := by decide +kernel
theorem dL_law_358 : decode cL_law 358 = .ok (.invokevirtual 34, 3) := by decide +kernel
theorem dL_law_361 : decode cL_law 361 = .ok (.aload_n 2, 1) := by decide +kernel
theorem dL_law_362 : decode cL_law 362 = .ok (.aload_n 0, 1) := by decide +kernel
theorem dL_law_363 : decode cL_law 363 = .ok (.iload_n 3, 1) := by decide +kernel
theorem dL_law_364 : decode cL_law 364 = .ok (.iconst 1, 1) := by decide +kernel
theorem dL_law_365 : decode cL_law 365 = .ok (.iadd, 1) := by decide +kernel
theorem dL_law_366 : decode cL_law 366 = .ok (.iaload, 1) := by decide +kernel
theorem dL_law_367 : decode cL_law 367 = .ok (.i2l, 1) := by decide +kernel
theorem dL_law_368 : decode cL_law 368 = .ok (.bipush 32, 2) := by decide +kernel
theorem dL_law_370 : decode cL_law 370 = .ok (.lshl, 1) := by decide +kernel
theorem dL_law_371 : decode cL_law 371 = .ok (.aload_n 0, 1) := by decide +kernel
theorem dL_law_372 : decode cL_law 372 = .ok (.iload_n 3, 1) := by decide +kernel
theorem dL_law_373 : decode cL_law 373 = .ok (.iconst 2, 1) := by decide +kernel
theorem dL_law_374 : decode cL_law 374 = .ok (.iadd, 1) := by decide +kernel
theorem dL_law_375 : decode cL_law 375 = .ok (.iaload, 1) := by decide +kernel
theorem dL_law_376 : decode cL_law 376 = .ok (.i2l, 1) := by decide +kernel
theorem dL_law_377 : decode cL_law 377 = .ok (.ldc2_w 32, 3) := by decide +kernel
theorem dL_law_380 : decode cL_law 380 = .ok (.land, 1) := by decide +kernel
theorem dL_law_381 : decode cL_law 381 = .ok (.lor, 1) := by decide +kernel
theorem dL_law_382 : decode cL_law 382 = .ok (.aload_n 0, 1) := by decide +kernel
theorem dL_law_383 : decode cL_law 383 = .ok (.iload_n 3, 1) := by decide +kernel
theorem dL_law_384 : decode cL_law 384 = .ok (.iconst 3, 1) := by decide +kernel
theorem dL_law_385 : decode cL_law 385 = .ok (.iadd, 1) := by decide +kernel
theorem dL_law_386 : decode cL_law 386 = .ok (.iaload, 1) := by decide +kernel
theorem dL_law_387 : decode cL_law 387 = .ok (.invokevirtual 38, 3) := by decide +kernel
theorem dL_law_390 : decode cL_law 390 = .ok (.if_icmp .eq 644, 3) := by decide +kernel
theorem dL_law_395 : decode cL_law 395 = .ok (.aload_n 1, 1) := by decide +kernel
theorem dL_law_396 : decode cL_law 396 = .ok (.invokevirtual 39, 3) := by decide +kernel
theorem dL_law_399 : decode cL_law 399 = .ok (.pop, 1) := by decide +kernel
theorem dL_law_400 : decode cL_law 400 = .ok (.aload_n 2, 1) := by decide +kernel
theorem dL_law_401 : decode cL_law 401 = .ok (.invokevirtual 43, 3) := by decide +kernel
theorem dL_law_404 : decode cL_law 404 = .ok (.pop, 1) := by decide +kernel
theorem dL_law_405 : decode cL_law 405 = .ok (.goto 629, 3) := by decide +kernel
theorem dL_law_408 : decode cL_law 408 = .ok (.aload_n 1, 1) := by decide +kernel
theorem dL_law_409 : decode cL_law 409 = .ok (.invokevirtual 44, 3) := by decide +kernel
theorem dL_law_412 : decode cL_law 412 = .ok (.pop, 1) := by decide +kernel
theorem dL_law_413 : decode cL_law 413 = .ok (.aload_n 2, 1) := by decide +kernel
theorem dL_law_414 : decode cL_law 414 = .ok (.invokevirtual 47, 3) := by decide +kernel
theorem dL_law_417 : decode cL_law 417 = .ok (.pop, 1) := by decide +kernel
theorem dL_law_418 : decode cL_law 418 = .ok (.goto 616, 3) := by decide +kernel
theorem dL_law_421 : decode cL_law 421 = .ok (.aload_n 1, 1) := by decide +kernel
theorem dL_law_422 : decode cL_law 422 = .ok (.aload_n 0, 1) := by decide +kernel
theorem dL_law_423 : decode cL_law 423 = .ok (.iload_n 3, 1) := by decide +kernel
theorem dL_law_424 : decode cL_law 424 = .ok (.iconst 1, 1) := by decide +kernel
theorem dL_law_425 : decode cL_law 425 = .ok (.iadd, 1) := by decide +kernel
theorem dL_law_426 : decode cL_law 426 = .ok (.iaload, 1) := by decide +kernel
theorem dL_law_427 : decode cL_law 427 = .ok (.aload_n 0, 1) := by decide +kernel
theorem dL_law_428 : decode cL_law 428 = .ok (.iload_n 3, 1) := by decide +kernel
theorem dL_law_429 : decode cL_law 429 = .ok (.iconst 2, 1) := by decide +kernel
theorem dL_law_430 : decode cL_law 430 = .ok (.iadd, 1) := by decide +kernel
theorem dL_law_431 : decode cL_law 431 = .ok (.iaload, 1) := by decide +kernel
theorem dL_law_432 : decode cL_law 432 = .ok (.aload_n 0, 1) := by decide +kernel
theorem dL_law_433 : decode cL_law 433 = .ok (.iload_n 3, 1) := by decide +kernel
theorem dL_law_434 : decode cL_law 434 = .ok (.iconst 3, 1) := by decide +kernel
theorem dL_law_435 : decode cL_law 435 = .ok (.iadd, 1) := by decide +kernel
theorem dL_law_436 : decode cL_law 436 = .ok (.iaload, 1) := by decide +kernel
theorem dL_law_437 : decode cL_law 437 = .ok (.invokevirtual 48, 3) := by decide +kernel
theorem dL_law_440 : decode cL_law 440 = .ok (.pop, 1) := by decide +kernel
theorem dL_law_441 : decode cL_law 441 = .ok (.aload_n 2, 1) := by decide +kernel
theorem dL_law_442 : decode cL_law 442 = .ok (.aload_n 0, 1) := by decide +kernel
theorem dL_law_443 : decode cL_law 443 = .ok (.iload_n 3, 1) := by decide +kernel
theorem dL_law_444 : decode cL_law 444 = .ok (.iconst 1, 1) := by decide +kernel
theorem dL_law_445 : decode cL_law 445 = .ok (.iadd, 1) := by decide +kernel
theorem dL_law_446 : decode cL_law 446 = .ok (.iaload, 1) := by decide +kernel
theorem dL_law_447 : decode cL_law 447 = .ok (.aload_n 0, 1) := by decide +kernel
theorem dL_law_448 : decode cL_law 448 = .ok (.iload_n 3, 1) := by decide +kernel
theorem dL_law_449 : decode cL_law 449 = .ok (.iconst 2, 1) := by decide +kernel
theorem dL_law_450 : decode cL_law 450 = .ok (.iadd, 1) := by decide +kernel
theorem dL_law_451 : decode cL_law 451 = .ok (.iaload, 1) := by decide +kernel
theorem dL_law_452 : decode cL_law 452 = .ok (.aload_n 0, 1) := by decide +kernel
theorem dL_law_453 : decode cL_law 453 = .ok (.iload_n 3, 1) := by decide +kernel
theorem dL_law_454 : decode cL_law 454 = .ok (.iconst 3, 1) := by decide +kernel
theorem dL_law_455 : decode cL_law 455 = .ok (.iadd, 1) := by decide +kernel
theorem dL_law_456 : decode cL_law 456 = .ok (.iaload, 1) := by decide +kernel
theorem dL_law_457 : decode cL_law 457 = .ok (.invokevirtual 51, 3) := by decide +kernel
theorem dL_law_460 : decode cL_law 460 = .ok (.pop, 1) := by decide +kernel
theorem dL_law_461 : decode cL_law 461 = .ok (.goto 573, 3) := by decide +kernel
theorem dL_law_464 : decode cL_law 464 = .ok (.aload_n 1, 1) := by decide +kernel
theorem dL_law_465 : decode cL_law 465 = .ok (.aload_n 0, 1) := by decide +kernel
theorem dL_law_466 : decode cL_law 466 = .ok (.iload_n 3, 1) := by decide +kernel
theorem dL_law_467 : decode cL_law 467 = .ok (.iconst 1, 1) := by decide +kernel
theorem dL_law_468 : decode cL_law 468 = .ok (.iadd, 1) := by decide +kernel
theorem dL_law_469 : decode cL_law 469 = .ok (.iaload, 1) := by decide +kernel
theorem dL_law_470 : decode cL_law 470 = .ok (.aload_n 0, 1) := by decide +kernel
theorem dL_law_471 : decode cL_law 471 = .ok (.iload_n 3, 1) := by decide +kernel
theorem dL_law_472 : decode cL_law 472 = .ok (.iconst 2, 1) := by decide +kernel
theorem dL_law_473 : decode cL_law 473 = .ok (.iadd, 1) := by decide +kernel
theorem dL_law_474 : decode cL_law 474 = .ok (.iaload, 1) := by decide +kernel
theorem dL_law_475 : decode cL_law 475 = .ok (.invokevirtual 52, 3) := by decide +kernel
theorem dL_law_478 : decode cL_law 478 = .ok (.pop, 1) := by decide +kernel
theorem dL_law_479 : decode cL_law 479 = .ok (.aload_n 2, 1) := by decide +kernel
theorem dL_law_480 : decode cL_law 480 = .ok (.aload_n 0, 1) := by decide +kernel
theorem dL_law_481 : decode cL_law 481 = .ok (.iload_n 3, 1) := by decide +kernel
theorem dL_law_482 : decode cL_law 482 = .ok (.iconst 1, 1) := by decide +kernel
theorem dL_law_483 : decode cL_law 483 = .ok (.iadd, 1) := by decide +kernel
theorem dL_law_484 : decode cL_law 484 = .ok (.iaload, 1) := by decide +kernel
theorem dL_law_485 : decode cL_law 485 = .ok (.aload_n 0, 1) := by decide +kernel
theorem dL_law_486 : decode cL_law 486 = .ok (.iload_n 3, 1) := by decide +kernel
theorem dL_law_487 : decode cL_law 487 = .ok (.iconst 2, 1) := by decide +kernel
theorem dL_law_488 : decode cL_law 488 = .ok (.iadd, 1) := by decide +kernel
theorem dL_law_489 : decode cL_law 489 = .ok (.iaload, 1) := by decide +kernel
theorem dL_law_490 : decode cL_law 490 = .ok (.invokevirtual 56, 3) := by decide +kernel
theorem dL_law_493 : decode cL_law 493 = .ok (.pop, 1) := by decide +kernel
theorem dL_law_494 : decode cL_law 494 = .ok (.goto 540, 3) := by decide +kernel
theorem dL_law_497 : decode cL_law 497 = .ok (.aload_n 1, 1) := by decide +kernel
theorem dL_law_498 : decode cL_law 498 = .ok (.aload_n 0, 1) := by decide +kernel
theorem dL_law_499 : decode cL_law 499 = .ok (.iload_n 3, 1) := by decide +kernel
theorem dL_law_500 : decode cL_law 500 = .ok (.iconst 1, 1) := by decide +kernel
theorem dL_law_501 : decode cL_law 501 = .ok (.iadd, 1) := by decide +kernel
theorem dL_law_502 : decode cL_law 502 = .ok (.iaload, 1) := by decide +kernel
theorem dL_law_503 : decode cL_law 503 = .ok (.aload_n 0, 1) := by decide +kernel
theorem dL_law_504 : decode cL_law 504 = .ok (.iload_n 3, 1) := by decide +kernel
theorem dL_law_505 : decode cL_law 505 = .ok (.iconst 2, 1) := by decide +kernel
theorem dL_law_506 : decode cL_law 506 = .ok (.iadd, 1) := by decide +kernel
theorem dL_law_507 : decode cL_law 507 = .ok (.iaload, 1) := by decide +kernel
theorem dL_law_508 : decode cL_law 508 = .ok (.invokevirtual 57, 3) := by decide +kernel
theorem dL_law_511 : decode cL_law 511 = .ok (.pop, 1) := by decide +kernel
theorem dL_law_512 : decode cL_law 512 = .ok (.aload_n 2, 1) := by decide +kernel
theorem dL_law_513 : decode cL_law 513 = .ok (.aload_n 0, 1) := by decide +kernel
theorem dL_law_514 : decode cL_law 514 = .ok (.iload_n 3, 1) := by decide +kernel
theorem dL_law_515 : decode cL_law 515 = .ok (.iconst 1, 1) := by decide +kernel
theorem dL_law_516 : decode cL_law 516 = .ok (.iadd, 1) := by decide +kernel
theorem dL_law_517 : decode cL_law 517 = .ok (.iaload, 1) := by decide +kernel
theorem dL_law_518 : decode cL_law 518 = .ok (.aload_n 0, 1) := by decide +kernel
theorem dL_law_519 : decode cL_law 519 = .ok (.iload_n 3, 1) := by decide +kernel
theorem dL_law_520 : decode cL_law 520 = .ok (.iconst 2, 1) := by decide +kernel
theorem dL_law_521 : decode cL_law 521 = .ok (.iadd, 1) := by decide +kernel
theorem dL_law_522 : decode cL_law 522 = .ok (.iaload, 1) := by decide +kernel
theorem dL_law_523 : decode cL_law 523 = .ok (.invokevirtual 60, 3) := by decide +kernel
theorem dL_law_526 : decode cL_law 526 = .ok (.pop, 1) := by decide +kernel
theorem dL_law_527 : decode cL_law 527 = .ok (.goto 507, 3) := by decide +kernel
theorem dL_law_530 : decode cL_law 530 = .ok (.aload_n 1, 1) := by decide +kernel
theorem dL_law_531 : decode cL_law 531 = .ok (.aload_n 0, 1) := by decide +kernel
theorem dL_law_532 : decode cL_law 532 = .ok (.iload_n 3, 1) := by decide +kernel
theorem dL_law_533 : decode cL_law 533 = .ok (.iconst 1, 1) := by decide +kernel
theorem dL_law_534 : decode cL_law 534 = .ok (.iadd, 1) := by decide +kernel
theorem dL_law_535 : decode cL_law 535 = .ok (.iaload, 1) := by decide +kernel
theorem dL_law_536 : decode cL_law 536 = .ok (.aload_n 0, 1) := by decide +kernel
theorem dL_law_537 : decode cL_law 537 = .ok (.iload_n 3, 1) := by decide +kernel
theorem dL_law_538 : decode cL_law 538 = .ok (.iconst 2, 1) := by decide +kernel
theorem dL_law_539 : decode cL_law 539 = .ok (.iadd, 1) := by decide +kernel
theorem dL_law_540 : decode cL_law 540 = .ok (.iaload, 1) := by decide +kernel
theorem dL_law_541 : decode cL_law 541 = .ok (.aload_n 0, 1) := by decide +kernel
theorem dL_law_542 : decode cL_law 542 = .ok (.iload_n 3, 1) := by decide +kernel
theorem dL_law_543 : decode cL_law 543 = .ok (.iconst 3, 1) := by decide +kernel
theorem dL_law_544 : decode cL_law 544 = .ok (.iadd, 1) := by decide +kernel
theorem dL_law_545 : decode cL_law 545 = .ok (.iaload, 1) := by decide +kernel
theorem dL_law_546 : decode cL_law 546 = .ok (.aload_n 0, 1) := by decide +kernel
theorem dL_law_547 : decode cL_law 547 = .ok (.iload_n 3, 1) := by decide +kernel
theorem dL_law_548 : decode cL_law 548 = .ok (.iconst 4, 1) := by decide +kernel
theorem dL_law_549 : decode cL_law 549 = .ok (.iadd, 1) := by decide +kernel
theorem dL_law_550 : decode cL_law 550 = .ok (.iaload, 1) := by decide +kernel
theorem dL_law_551 : decode cL_law 551 = .ok (.invokevirtual 61, 3) := by decide +kernel
theorem dL_law_554 : decode cL_law 554 = .ok (.pop, 1) := by decide +kernel
theorem dL_law_555 : decode cL_law 555 = .ok (.aload_n 2, 1) := by decide +kernel
theorem dL_law_556 : decode cL_law 556 = .ok (.aload_n 0, 1) := by decide +kernel
theorem dL_law_557 : decode cL_law 557 = .ok (.iload_n 3, 1) := by decide +kernel
theorem dL_law_558 : decode cL_law 558 = .ok (.iconst 1, 1) := by decide +kernel
theorem dL_law_559 : decode cL_law 559 = .ok (.iadd, 1) := by decide +kernel
theorem dL_law_560 : decode cL_law 560 = .ok (.iaload, 1) := by decide +kernel
theorem dL_law_561 : decode cL_law 561 = .ok (.aload_n 0, 1) := by decide +kernel
theorem dL_law_562 : decode cL_law 562 = .ok (.iload_n 3, 1) := by decide +kernel
theorem dL_law_563 : decode cL_law 563 = .ok (.iconst 2, 1) := by decide +kernel
theorem dL_law_564 : decode cL_law 564 = .ok (.iadd, 1) := by decide +kernel
theorem dL_law_565 : decode cL_law 565 = .ok (.iaload, 1) := by decide +kernel
theorem dL_law_566 : decode cL_law 566 = .ok (.aload_n 0, 1) := by decide +kernel
theorem dL_law_567 : decode cL_law 567 = .ok (.iload_n 3, 1) := by decide +kernel
theorem dL_law_568 : decode cL_law 568 = .ok (.iconst 3, 1) := by decide +kernel
theorem dL_law_569 : decode cL_law 569 = .ok (.iadd, 1) := by decide +kernel
theorem dL_law_570 : decode cL_law 570 = .ok (.iaload, 1) := by decide +kernel
theorem dL_law_571 : decode cL_law 571 = .ok (.aload_n 0, 1) := by decide +kernel
theorem dL_law_572 : decode cL_law 572 = .ok (.iload_n 3, 1) := by decide +kernel
theorem dL_law_573 : decode cL_law 573 = .ok (.iconst 4, 1) := by decide +kernel
theorem dL_law_574 : decode cL_law 574 = .ok (.iadd, 1) := by decide +kernel
theorem dL_law_575 : decode cL_law 575 = .ok (.iaload, 1) := by decide +kernel
theorem dL_law_576 : decode cL_law 576 = .ok (.invokevirtual 65, 3) := by decide +kernel
theorem dL_law_579 : decode cL_law 579 = .ok (.pop, 1) := by decide +kernel
theorem dL_law_580 : decode cL_law 580 = .ok (.goto 454, 3) := by decide +kernel
theorem dL_law_583 : decode cL_law 583 = .ok (.aload_n 1, 1) := by decide +kernel
theorem dL_law_584 : decode cL_law 584 = .ok (.aload_n 0, 1) := by decide +kernel
theorem dL_law_585 : decode cL_law 585 = .ok (.iload_n 3, 1) := by decide +kernel
theorem dL_law_586 : decode cL_law 586 = .ok (.iconst 1, 1) := by decide +kernel
theorem dL_law_587 : decode cL_law 587 = .ok (.iadd, 1) := by decide +kernel
theorem dL_law_588 : decode cL_law 588 = .ok (.iaload, 1) := by decide +kernel
theorem dL_law_589 : decode cL_law 589 = .ok (.aload_n 0, 1) := by decide +kernel
theorem dL_law_590 : decode cL_law 590 = .ok (.iload_n 3, 1) := by decide +kernel
theorem dL_law_591 : decode cL_law 591 = .ok (.iconst 2, 1) := by decide +kernel
theorem dL_law_592 : decode cL_law 592 = .ok (.iadd, 1) := by decide +kernel
theorem dL_law_593 : decode cL_law 593 = .ok (.iaload, 1) := by decide +kernel
theorem dL_law_594 : decode cL_law 594 = .ok (.invokevirtual 66, 3) := by decide +kernel
theorem dL_law_597 : decode cL_law 597 = .ok (.pop, 1) := by decide +kernel
theorem dL_law_598 : decode cL_law 598 = .ok (.aload_n 2, 1) := by decide +kernel
theorem dL_law_599 : decode cL_law 599 = .ok (.aload_n 0, 1) := by decide +kernel
theorem dL_law_600 : decode cL_law 600 = .ok (.iload_n 3, 1) := by decide +kernel
theorem dL_law_601 : decode cL_law 601 = .ok (.iconst 1, 1) := by decide +kernel
theorem dL_law_602 : decode cL_law 602 = .ok (.iadd, 1) := by decide +kernel
theorem dL_law_603 : decode cL_law 603 = .ok (.iaload, 1) := by decide +kernel
theorem dL_law_604 : decode cL_law 604 = .ok (.aload_n 0, 1) := by decide +kernel
theorem dL_law_605 : decode cL_law 605 = .ok (.iload_n 3, 1) := by decide +kernel
theorem dL_law_606 : decode cL_law 606 = .ok (.iconst 2, 1) := by decide +kernel
theorem dL_law_607 : decode cL_law 607 = .ok (.iadd, 1) := by decide +kernel
theorem dL_law_608 : decode cL_law 608 = .ok (.iaload, 1) := by decide +kernel
theorem dL_law_609 : decode cL_law 609 = .ok (.invokevirtual 69, 3) := by decide +kernel
theorem dL_law_612 : decode cL_law 612 = .ok (.pop, 1) := by decide +kernel
theorem dL_law_613 : decode cL_law 613 = .ok (.goto 421, 3) := by decide +kernel
theorem dL_law_616 : decode cL_law 616 = .ok (.aload_n 1, 1) := by decide +kernel
theorem dL_law_617 : decode cL_law 617 = .ok (.aload_n 0, 1) := by decide +kernel
theorem dL_law_618 : decode cL_law 618 = .ok (.iload_n 3, 1) := by decide +kernel
theorem dL_law_619 : decode cL_law 619 = .ok (.iconst 1, 1) := by decide +kernel
theorem dL_law_620 : decode cL_law 620 = .ok (.iadd, 1) := by decide +kernel
theorem dL_law_621 : decode cL_law 621 = .ok (.iaload, 1) := by decide +kernel
theorem dL_law_622 : decode cL_law 622 = .ok (.invokevirtual 70, 3) := by decide +kernel
theorem dL_law_625 : decode cL_law 625 = .ok (.pop, 1) := by decide +kernel
theorem dL_law_626 : decode cL_law 626 = .ok (.aload_n 2, 1) := by decide +kernel
theorem dL_law_627 : decode cL_law 627 = .ok (.aload_n 0, 1) := by decide +kernel
theorem dL_law_628 : decode cL_law 628 = .ok (.iload_n 3, 1) := by decide +kernel
theorem dL_law_629 : decode cL_law 629 = .ok (.iconst 1, 1) := by decide +kernel
theorem dL_law_630 : decode cL_law 630 = .ok (.iadd, 1) := by decide +kernel
theorem dL_law_631 : decode cL_law 631 = .ok (.iaload, 1) := by decide +kernel
theorem dL_law_632 : decode cL_law 632 = .ok (.invokevirtual 73, 3) := by decide +kernel
theorem dL_law_635 : decode cL_law 635 = .ok (.pop, 1) := by decide +kernel
theorem dL_law_636 : decode cL_law 636 = .ok (.goto 398, 3) := by decide +kernel
theorem dL_law_639 : decode cL_law 639 = .ok (.aload_n 1, 1) := by decide +kernel
theorem dL_law_640 : decode cL_law 640 = .ok (.aload_n 0, 1) := by decide +kernel
theorem dL_law_641 : decode cL_law 641 = .ok (.iload_n 3, 1) := by decide +kernel
theorem dL_law_642 : decode cL_law 642 = .ok (.iconst 1, 1) := by decide +kernel
theorem dL_law_643 : decode cL_law 643 = .ok (.iadd, 1) := by decide +kernel
theorem dL_law_644 : decode cL_law 644 = .ok (.iaload, 1) := by decide +kernel
theorem dL_law_645 : decode cL_law 645 = .ok (.invokevirtual 74, 3) := by decide +kernel
theorem dL_law_648 : decode cL_law 648 = .ok (.pop, 1) := by decide +kernel
theorem dL_law_649 : decode cL_law 649 = .ok (.aload_n 2, 1) := by decide +kernel
theorem dL_law_650 : decode cL_law 650 = .ok (.aload_n 0, 1) := by decide +kernel
theorem dL_law_651 : decode cL_law 651 = .ok (.iload_n 3, 1) := by decide +kernel
theorem dL_law_652 : decode cL_law 652 = .ok (.iconst 1, 1) := by decide +kernel
theorem dL_law_653 : decode cL_law 653 = .ok (.iadd, 1) := by decide +kernel
theorem dL_law_654 : decode cL_law 654 = .ok (.iaload, 1) := by decide +kernel
theorem dL_law_655 : decode cL_law 655 = .ok (.invokevirtual 77, 3) := by decide +kernel
theorem dL_law_658 : decode cL_law 658 = .ok (.pop, 1) := by decide +kernel
theorem dL_law_659 : decode cL_law 659 = .ok (.goto 375, 3) := by decide +kernel
theorem hdV_X8_city : yX8_city.cls = RX8 ∧ yX8_city.cls ≠ "java/lang/invoke/MethodHandle" ∧ yX8_city.cls ≠ "java/lang/invoke/VarHandle" ∧ (parseMethodDescriptor yX8_city.desc).map (fun d => d.parameters.length) = some 0 := by decide +kernel
theorem hdV_X8_copy : yX8_copy.cls = RX8 ∧ yX8_copy.cls ≠ "java/lang/invoke/MethodHandle" ∧ yX8_copy.cls ≠ "java/lang/invoke/VarHandle" ∧ (parseMethodDescriptor yX8_copy.desc).map (fun d => d.parameters.length) = some 5 := by decide +kernel
theorem hdV_X8_drop : yX8_drop.cls = RX8 ∧ yX8_drop.cls ≠ "java/lang/invoke/MethodHandle" ∧ yX8_drop.cls ≠ "java/lang/invoke/VarHandle" ∧ (parseMethodDescriptor yX8_drop.desc).map (fun d => d.parameters.length) = some 1 := by decide +kernel
theorem hdV_X8_fault : yX8_fault.cls = RX8 ∧ yX8_fault.cls ≠ "java/lang/invoke/MethodHandle" ∧ yX8_fault.cls ≠ "java/lang/invoke/VarHandle" ∧ (parseMethodDescriptor yX8_fault.desc).map (fun d => d.parameters.length) = some 0 := by decide +kernel
theorem hdV_X8_feed : yX8_feed.cls = RX8 ∧ yX8_feed.cls ≠ "java/lang/invoke/MethodHandle" ∧ yX8_feed.cls ≠ "java/lang/invoke/VarHandle" ∧ (parseMethodDescriptor yX8_feed.desc).map (fun d => d.parameters.length) = some 2 := by decide +kernel
theorem hdV_X8_got : yX8_got.cls = RX8 ∧ yX8_got.cls ≠ "java/lang/invoke/MethodHandle" ∧ yX8_got.cls ≠ "java/lang/invoke/VarHandle" ∧ (parseMethodDescriptor yX8_got.desc).map (fun d => d.parameters.length) = some 1 := by decide +kernel
theorem hdV_X8_look : yX8_look.cls = RX8 ∧ yX8_look.cls ≠ "java/lang/invoke/MethodHandle" ∧ yX8_look.cls ≠ "java/lang/invoke/VarHandle" ∧ (parseMethodDescriptor yX8_look.desc).map (fun d => d.parameters.length) = some 3 := by decide +kernel
theorem hdV_X8_person : yX8_person.cls = RX8 ∧ yX8_person.cls ≠ "java/lang/invoke/MethodHandle" ∧ yX8_person.cls ≠ "java/lang/invoke/VarHandle" ∧ (parseMethodDescriptor yX8_person.desc).map (fun d => d.parameters.length) = some 2 := by decide +kernel
theorem hdV_X8_price : yX8_price.cls = RX8 ∧ yX8_price.cls ≠ "java/lang/invoke/MethodHandle" ∧ yX8_price.cls ≠ "java/lang/invoke/VarHandle" ∧ (parseMethodDescriptor yX8_price.desc).map (fun d => d.parameters.length) = some 2 := by decide +kernel
theorem hdV_X8_set : yX8_set.cls = RX8 ∧ yX8_set.cls ≠ "java/lang/invoke/MethodHandle" ∧ yX8_set.cls ≠ "java/lang/invoke/VarHandle" ∧ (parseMethodDescriptor yX8_set.desc).map (fun d => d.parameters.length) = some 3 := by decide +kernel
theorem hdV_X8_sheet : yX8_sheet.cls = RX8 ∧ yX8_sheet.cls ≠ "java/lang/invoke/MethodHandle" ∧ yX8_sheet.cls ≠ "java/lang/invoke/VarHandle" ∧ (parseMethodDescriptor yX8_sheet.desc).map (fun d => d.parameters.length) = some 3 := by decide +kernel
theorem hdV_X8_step : yX8_step.cls = RX8 ∧ yX8_step.cls ≠ "java/lang/invoke/MethodHandle" ∧ yX8_step.cls ≠ "java/lang/invoke/VarHandle" ∧ (parseMethodDescriptor yX8_step.desc).map (fun d => d.parameters.length) = some 2 := by decide +kernel
theorem hdV_X8_walk : yX8_walk.cls = RX8 ∧ yX8_walk.cls ≠ "java/lang/invoke/MethodHandle" ∧ yX8_walk.cls ≠ "java/lang/invoke/VarHandle" ∧ (parseMethodDescriptor yX8_walk.desc).map (fun d => d.parameters.length) = some 4 := by decide +kernel
theorem hdV_X8_witnesses : yX8_witnesses.cls = RX8 ∧ yX8_witnesses.cls ≠ "java/lang/invoke/MethodHandle" ∧ yX8_witnesses.cls ≠ "java/lang/invoke/VarHandle" ∧ (parseMethodDescriptor yX8_witnesses.desc).map (fun d => d.parameters.length) = some 1 := by decide +kernel
theorem hdV_X9_city : yX9_city.cls = RX9 ∧ yX9_city.cls ≠ "java/lang/invoke/MethodHandle" ∧ yX9_city.cls ≠ "java/lang/invoke/VarHandle" ∧ (parseMethodDescriptor yX9_city.desc).map (fun d => d.parameters.length) = some 0 := by decide +kernel
theorem hdV_X9_copy : yX9_copy.cls = RX9 ∧ yX9_copy.cls ≠ "java/lang/invoke/MethodHandle" ∧ yX9_copy.cls ≠ "java/lang/invoke/VarHandle" ∧ (parseMethodDescriptor yX9_copy.desc).map (fun d => d.parameters.length) = some 5 := by decide +kernel
theorem hdV_X9_drop : yX9_drop.cls = RX9 ∧ yX9_drop.cls ≠ "java/lang/invoke/MethodHandle" ∧ yX9_drop.cls ≠ "java/lang/invoke/VarHandle" ∧ (parseMethodDescriptor yX9_drop.desc).map (fun d => d.parameters.length) = some 1 := by decide +kernel
theorem hdV_X9_fault : yX9_fault.cls = RX9 ∧ yX9_fault.cls ≠ "java/lang/invoke/MethodHandle" ∧ yX9_fault.cls ≠ "java/lang/invoke/VarHandle" ∧ (parseMethodDescriptor yX9_fault.desc).map (fun d => d.parameters.length) = some 0 := by decide +kernel
theorem hdV_X9_feed : yX9_feed.cls = RX9 ∧ yX9_feed.cls ≠ "java/lang/invoke/MethodHandle" ∧ yX9_feed.cls ≠ "java/lang/invoke/VarHandle" ∧ (parseMethodDescriptor yX9_feed.desc).map (fun d => d.parameters.length) = some 2 := by decide +kernel
theorem hdV_X9_got : yX9_got.cls = RX9 ∧ yX9_got.cls ≠ "java/lang/invoke/MethodHandle" ∧ yX9_got.cls ≠ "java/lang/invoke/VarHandle" ∧ (parseMethodDescriptor yX9_got.desc).map (fun d => d.parameters.length) = some 1 := by decide +kernel
theorem hdV_X9_look : yX9_look.cls = RX9 ∧ yX9_look.cls ≠ "java/lang/invoke/MethodHandle" ∧ yX9_look.cls ≠ "java/lang/invoke/VarHandle" ∧ (parseMethodDescriptor yX9_look.desc).map (fun d => d.parameters.length) = some 3 := by decide +kernel
theorem hdV_X9_person : yX9_person.cls = RX9 ∧ yX9_person.cls ≠ "java/lang/invoke/MethodHandle" ∧ yX9_person.cls ≠ "java/lang/invoke/VarHandle" ∧ (parseMethodDescriptor yX9_person.desc).map (fun d => d.parameters.length) = some 2 := by decide +kernel
theorem hdV_X9_price : yX9_price.cls = RX9 ∧ yX9_price.cls ≠ "java/lang/invoke/MethodHandle" ∧ yX9_price.cls ≠ "java/lang/invoke/VarHandle" ∧ (parseMethodDescriptor yX9_price.desc).map (fun d => d.parameters.length) = some 2 := by decide +kernel
theorem hdV_X9_set : yX9_set.cls = RX9 ∧ yX9_set.cls ≠ "java/lang/invoke/MethodHandle" ∧ yX9_set.cls ≠ "java/lang/invoke/VarHandle" ∧ (parseMethodDescriptor yX9_set.desc).map (fun d => d.parameters.length) = some 3 := by decide +kernel
theorem hdV_X9_sheet : yX9_sheet.cls = RX9 ∧ yX9_sheet.cls ≠ "java/lang/invoke/MethodHandle" ∧ yX9_sheet.cls ≠ "java/lang/invoke/VarHandle" ∧ (parseMethodDescriptor yX9_sheet.desc).map (fun d => d.parameters.length) = some 3 := by decide +kernel
theorem hdV_X9_step : yX9_step.cls = RX9 ∧ yX9_step.cls ≠ "java/lang/invoke/MethodHandle" ∧ yX9_step.cls ≠ "java/lang/invoke/VarHandle" ∧ (parseMethodDescriptor yX9_step.desc).map (fun d => d.parameters.length) = some 2 := by decide +kernel
theorem hdV_X9_walk : yX9_walk.cls = RX9 ∧ yX9_walk.cls ≠ "java/lang/invoke/MethodHandle" ∧ yX9_walk.cls ≠ "java/lang/invoke/VarHandle" ∧ (parseMethodDescriptor yX9_walk.desc).map (fun d => d.parameters.length) = some 4 := by decide +kernel
theorem hdV_X9_witnesses : yX9_witnesses.cls = RX9 ∧ yX9_witnesses.cls ≠ "java/lang/invoke/MethodHandle" ∧ yX9_witnesses.cls ≠ "java/lang/invoke/VarHandle" ∧ (parseMethodDescriptor yX9_witnesses.desc).map (fun d => d.parameters.length) = some 1 := by decide +kernel
set_option maxHeartbeats 4000000 in
set_option maxRecDepth 100000 in
theorem law_sheet {p : Program} (l : Launch) {e : Env} {s : State} {m : MethodId} {below : List Frame} {meth : Method} {c : Code} (D : va_G) (cI cZ cC cS : ClassId) (sq : Nat → Nat) {b L : Nat} {sc : Nat → Int32} {A : Nat → Prop} (C : lC p s m meth c b L sc A) (hK : kW D (tyW cI cZ cC cS) sq s) (hT : sT sq A s s.heap) (ad ay : Nat → Nat) (fq fim : Nat → Option Nat) (hL : L ≤ 3072) (i : Int32) (hi : 0 ≤ i.toInt ∧ i.toInt + 6 ≤ L) (K : ∀ (ln sn : Nat → Int32) (tz : Int32) (wx wy : va_W) (H : Heap) (locs : List Loc) (ls : Array Slot), IX cI cC cS ad fq fim ln sn tz wx → IY cI cZ ay ln sn tz wy → va_P D vwCl (wx ++ wy) H → va_D A (wx ++ wy) → va_S A s.heap H locs → lv_has ls 4 [(3, .int i), (2, .ref (ay 0)), (1, .ref (ad 0)), (0, .ref b)] → W p l e room_1 s m #[Value.ref b] below meth c H locs 98 12032 (lw_Z below #[Value.ref b] s) (F0 m 1034 ls [])) {ln sn : Nat → Int32} {tz : Int32} {wx wy : va_W} {H : Heap} {locs : List Loc} {ls : Array Slot} (hX_ : IX cI cC cS ad fq fim ln sn tz wx) (hY_ : IY cI cZ ay ln sn tz wy) (hP : va_P D vwCl (wx ++ wy) H) (hD : va_D A (wx ++ wy)) (hS : va_S A s.heap H locs) (hl : lv_has ls 4 [(3, .int i), (2, .ref (ay 0)), (1, .ref (ad 0)), (0, .ref b)]) : W p l e room_1 s m #[Value.ref b] below meth c H locs 98 12032 (lw_Z below #[Value.ref b] s) (F0 m 160 ls []) := by
  obtain ⟨S, hr_, hk_, hX, hbl, hA, hAf⟩ := id C
  have hbA : ¬ A b := fun z => absurd (hAf b z) (Nat.not_le.mpr hbl)
  refine lv_aload_n S.1 S.2.1 dL_law_160 rfl (lv_at hl 2 rfl) ?_
  refine lv_aload_n S.1 S.2.1 dL_law_161 rfl (lv_at hl 3 rfl) ?_
  refine lv_iload_n S.1 S.2.1 dL_law_162 rfl (lv_at hl 0 rfl) ?_
  refine lv_iconst (v := (1)) S.1 S.2.1 dL_law_163 (by decide) ?_
  refine lv_iadd S.1 S.2.1 dL_law_164 ?_
  refine lv_topi (fun x_1 ex_1 => ?_)
  have tx_1 : x_1.toInt = i.toInt + (1) := addI (A := i.toInt) (B := 1) ex_1 rfl rfl (by omega) (by omega)
  refine va_sld S.1 S.2.1 hX hbl hbA hS (in_of (by omega) (by omega)) dL_law_165 ?_
  refine lv_topi (fun v_2 ev_2 => ?_)
  refine lv_aload_n S.1 S.2.1 dL_law_166 rfl (lv_at hl 3 rfl) ?_
  refine lv_iload_n S.1 S.2.1 dL_law_167 rfl (lv_at hl 0 rfl) ?_
  refine lv_iconst (v := (2)) S.1 S.2.1 dL_law_168 (by decide) ?_
  refine lv_iadd S.1 S.2.1 dL_law_169 ?_
  refine lv_topi (fun x_3 ex_3 => ?_)
  have tx_3 : x_3.toInt = i.toInt + (2) := addI (A := i.toInt) (B := 2) ex_3 rfl rfl (by omega) (by omega)
  refine va_sld S.1 S.2.1 hX hbl hbA hS (in_of (by omega) (by omega)) dL_law_170 ?_
  refine lv_topi (fun v_4 ev_4 => ?_)
  refine lv_aload_n S.1 S.2.1 dL_law_171 rfl (lv_at hl 3 rfl) ?_
  refine lv_iload_n S.1 S.2.1 dL_law_172 rfl (lv_at hl 0 rfl) ?_
  refine lv_iconst (v := (3)) S.1 S.2.1 dL_law_173 (by decide) ?_
  refine lv_iadd S.1 S.2.1 dL_law_174 ?_
  refine lv_topi (fun x_5 ex_5 => ?_)
  have tx_5 : x_5.toInt = i.toInt + (3) := addI (A := i.toInt) (B := 3) ex_5 rfl rfl (by omega) (by omega)
  refine va_sld S.1 S.2.1 hX hbl hbA hS (in_of (by omega) (by omega)) dL_law_175 ?_
  refine lv_topi (fun v_6 ev_6 => ?_)
  obtain ⟨fs_, he_⟩ := IX_0 hX_
  refine law_ci (C := RX8) (ci := 8) (As := [.int v_2, .int v_4, .int v_6]) (fX_sheet l D cI cZ cC cS sq H.size ad fq fim ln sn tz v_2 v_4 v_6 hX_) S gL_law_X8_sheet rfl hdV_X8_sheet ⟨Nat.le_of_ble_eq_true rfl, Nat.le_of_ble_eq_true rfl⟩ ⟨Nat.le_of_ble_eq_true rfl, Nat.le_of_ble_eq_true rfl⟩ hK hT hS hA hP hD rfl he_ rfl hl.1 rfl (Nat.le_of_ble_eq_true rfl) dL_law_176 (fun r1 wx H locs hw hP hD hS => ?_)
  obtain ⟨ln1, sn1, hr1, hX_⟩ := hw
  refine lv_pop S.1 S.2.1 dL_law_179 rfl ?_
  refine lv_aload_n S.1 S.2.1 dL_law_180 rfl (lv_at hl 1 rfl) ?_
  refine lv_aload_n S.1 S.2.1 dL_law_181 rfl (lv_at hl 3 rfl) ?_
  refine lv_iload_n S.1 S.2.1 dL_law_182 rfl (lv_at hl 0 rfl) ?_
  refine lv_iconst (v := (1)) S.1 S.2.1 dL_law_183 (by decide) ?_
  refine lv_iadd S.1 S.2.1 dL_law_184 ?_
  refine lv_topi (fun x_7 ex_7 => ?_)
  have qx_7 : x_1 = x_7 := ex_1.trans ex_7.symm
  subst qx_7
  refine va_sld S.1 S.2.1 hX hbl hbA hS (in_of (by omega) (by omega)) dL_law_185 ?_
  refine lv_topi (fun v_8 ev_8 => ?_)
  have qv_8 : v_2 = v_8 := ev_2.trans ev_8.symm
  subst qv_8
  refine lv_aload_n S.1 S.2.1 dL_law_186 rfl (lv_at hl 3 rfl) ?_
  refine lv_iload_n S.1 S.2.1 dL_law_187 rfl (lv_at hl 0 rfl) ?_
  refine lv_iconst (v := (2)) S.1 S.2.1 dL_law_188 (by decide) ?_
  refine lv_iadd S.1 S.2.1 dL_law_189 ?_
  refine lv_topi (fun x_9 ex_9 => ?_)
  have qx_9 : x_3 = x_9 := ex_3.trans ex_9.symm
  subst qx_9
  refine va_sld S.1 S.2.1 hX hbl hbA hS (in_of (by omega) (by omega)) dL_law_190 ?_
  refine lv_topi (fun v_10 ev_10 => ?_)
  have qv_10 : v_4 = v_10 := ev_4.trans ev_10.symm
  subst qv_10
  refine lv_aload_n S.1 S.2.1 dL_law_191 rfl (lv_at hl 3 rfl) ?_
  refine lv_iload_n S.1 S.2.1 dL_law_192 rfl (lv_at hl 0 rfl) ?_
  refine lv_iconst (v := (3)) S.1 S.2.1 dL_law_193 (by decide) ?_
  refine lv_iadd S.1 S.2.1 dL_law_194 ?_
  refine lv_topi (fun x_11 ex_11 => ?_)
  have qx_11 : x_5 = x_11 := ex_5.trans ex_11.symm
  subst qx_11
  refine va_sld S.1 S.2.1 hX hbl hbA hS (in_of (by omega) (by omega)) dL_law_195 ?_
  refine lv_topi (fun v_12 ev_12 => ?_)
  have qv_12 : v_6 = v_12 := ev_6.trans ev_12.symm
  subst qv_12
  obtain ⟨fs_, he_⟩ := IY_0 hY_
  refine law_ci (C := RX9) (ci := 9) (As := [.int v_2, .int v_4, .int v_6]) (fY_sheet l D cI cZ cC cS sq H.size ay ln sn tz v_2 v_4 v_6 hY_) S gL_law_X9_sheet rfl hdV_X9_sheet ⟨Nat.le_of_ble_eq_true rfl, Nat.le_of_ble_eq_true rfl⟩ ⟨Nat.le_of_ble_eq_true rfl, Nat.le_of_ble_eq_true rfl⟩ hK hT hS hA hP hD rfl he_ rfl hl.1 rfl (Nat.le_of_ble_eq_true rfl) dL_law_196 (fun r2 wy H locs hw hP hD hS => ?_)
  obtain ⟨ln2, sn2, hr2, hY_⟩ := hw
  obtain ⟨er, el, es⟩ := stSheet_eq hr1 hr2
  subst el
  subst es
  refine lv_pop S.1 S.2.1 dL_law_199 rfl ?_
  refine lv_goto (tgt := 1034) S.1 S.2.1 dL_law_200 (by decide) ?_
  exact K ln1 sn1 tz wx wy H _ ls hX_ hY_ hP hD hS hl
set_option maxHeartbeats 4000000 in
set_option maxRecDepth 100000 in
theorem law_set {p : Program} (l : Launch) {e : Env} {s : State} {m : MethodId} {below : List Frame} {meth : Method} {c : Code} (D : va_G) (cI cZ cC cS : ClassId) (sq : Nat → Nat) {b L : Nat} {sc : Nat → Int32} {A : Nat → Prop} (C : lC p s m meth c b L sc A) (hK : kW D (tyW cI cZ cC cS) sq s) (hT : sT sq A s s.heap) (ad ay : Nat → Nat) (fq fim : Nat → Option Nat) (hL : L ≤ 3072) (i : Int32) (hi : 0 ≤ i.toInt ∧ i.toInt + 6 ≤ L) (K : ∀ (ln sn : Nat → Int32) (tz : Int32) (wx wy : va_W) (H : Heap) (locs : List Loc) (ls : Array Slot), IX cI cC cS ad fq fim ln sn tz wx → IY cI cZ ay ln sn tz wy → va_P D vwCl (wx ++ wy) H → va_D A (wx ++ wy) → va_S A s.heap H locs → lv_has ls 4 [(3, .int i), (2, .ref (ay 0)), (1, .ref (ad 0)), (0, .ref b)] → W p l e room_1 s m #[Value.ref b] below meth c H locs 98 12032 (lw_Z below #[Value.ref b] s) (F0 m 1034 ls [])) {ln sn : Nat → Int32} {tz : Int32} {wx wy : va_W} {H : Heap} {locs : List Loc} {ls : Array Slot} (hX_ : IX cI cC cS ad fq fim ln sn tz wx) (hY_ : IY cI cZ ay ln sn tz wy) (hP : va_P D vwCl (wx ++ wy) H) (hD : va_D A (wx ++ wy)) (hS : va_S A s.heap H locs) (hl : lv_has ls 4 [(3, .int i), (2, .ref (ay 0)), (1, .ref (ad 0)), (0, .ref b)]) : W p l e room_1 s m #[Value.ref b] below meth c H locs 98 12032 (lw_Z below #[Value.ref b] s) (F0 m 203 ls []) := by
  obtain ⟨S, hr_, hk_, hX, hbl, hA, hAf⟩ := id C
  have hbA : ¬ A b := fun z => absurd (hAf b z) (Nat.not_le.mpr hbl)
  refine lv_aload_n S.1 S.2.1 dL_law_203 rfl (lv_at hl 2 rfl) ?_
  refine lv_aload_n S.1 S.2.1 dL_law_204 rfl (lv_at hl 3 rfl) ?_
  refine lv_iload_n S.1 S.2.1 dL_law_205 rfl (lv_at hl 0 rfl) ?_
  refine lv_iconst (v := (1)) S.1 S.2.1 dL_law_206 (by decide) ?_
  refine lv_iadd S.1 S.2.1 dL_law_207 ?_
  refine lv_topi (fun x_1 ex_1 => ?_)
  have tx_1 : x_1.toInt = i.toInt + (1) := addI (A := i.toInt) (B := 1) ex_1 rfl rfl (by omega) (by omega)
  refine va_sld S.1 S.2.1 hX hbl hbA hS (in_of (by omega) (by omega)) dL_law_208 ?_
  refine lv_topi (fun v_2 ev_2 => ?_)
  refine lv_aload_n S.1 S.2.1 dL_law_209 rfl (lv_at hl 3 rfl) ?_
  refine lv_iload_n S.1 S.2.1 dL_law_210 rfl (lv_at hl 0 rfl) ?_
  refine lv_iconst (v := (2)) S.1 S.2.1 dL_law_211 (by decide) ?_
  refine lv_iadd S.1 S.2.1 dL_law_212 ?_
  refine lv_topi (fun x_3 ex_3 => ?_)
  have tx_3 : x_3.toInt = i.toInt + (2) := addI (A := i.toInt) (B := 2) ex_3 rfl rfl (by omega) (by omega)
  refine va_sld S.1 S.2.1 hX hbl hbA hS (in_of (by omega) (by omega)) dL_law_213 ?_
  refine lv_topi (fun v_4 ev_4 => ?_)
  refine lv_aload_n S.1 S.2.1 dL_law_214 rfl (lv_at hl 3 rfl) ?_
  refine lv_iload_n S.1 S.2.1 dL_law_215 rfl (lv_at hl 0 rfl) ?_
  refine lv_iconst (v := (3)) S.1 S.2.1 dL_law_216 (by decide) ?_
  refine lv_iadd S.1 S.2.1 dL_law_217 ?_
  refine lv_topi (fun x_5 ex_5 => ?_)
  have tx_5 : x_5.toInt = i.toInt + (3) := addI (A := i.toInt) (B := 3) ex_5 rfl rfl (by omega) (by omega)
  refine va_sld S.1 S.2.1 hX hbl hbA hS (in_of (by omega) (by omega)) dL_law_218 ?_
  refine lv_topi (fun v_6 ev_6 => ?_)
  obtain ⟨fs_, he_⟩ := IX_0 hX_
  refine law_ci (C := RX8) (ci := 8) (As := [.int v_2, .int v_4, .int v_6]) (fX_set l D cI cZ cC cS sq H.size ad fq fim ln sn tz v_2 v_4 v_6 hX_) S gL_law_X8_set rfl hdV_X8_set ⟨Nat.le_of_ble_eq_true rfl, Nat.le_of_ble_eq_true rfl⟩ ⟨Nat.le_of_ble_eq_true rfl, Nat.le_of_ble_eq_true rfl⟩ hK hT hS hA hP hD rfl he_ rfl hl.1 rfl (Nat.le_of_ble_eq_true rfl) dL_law_219 (fun r1 wx H locs hw hP hD hS => ?_)
  obtain ⟨hr1, hX_⟩ := hw
  refine lv_pop S.1 S.2.1 dL_law_222 rfl ?_
  refine lv_aload_n S.1 S.2.1 dL_law_223 rfl (lv_at hl 1 rfl) ?_
  refine lv_aload_n S.1 S.2.1 dL_law_224 rfl (lv_at hl 3 rfl) ?_
  refine lv_iload_n S.1 S.2.1 dL_law_225 rfl (lv_at hl 0 rfl) ?_
  refine lv_iconst (v := (1)) S.1 S.2.1 dL_law_226 (by decide) ?_
  refine lv_iadd S.1 S.2.1 dL_law_227 ?_
  refine lv_topi (fun x_7 ex_7 => ?_)
  have qx_7 : x_1 = x_7 := ex_1.trans ex_7.symm
  subst qx_7
  refine va_sld S.1 S.2.1 hX hbl hbA hS (in_of (by omega) (by omega)) dL_law_228 ?_
  refine lv_topi (fun v_8 ev_8 => ?_)
  have qv_8 : v_2 = v_8 := ev_2.trans ev_8.symm
  subst qv_8
  refine lv_aload_n S.1 S.2.1 dL_law_229 rfl (lv_at hl 3 rfl) ?_
  refine lv_iload_n S.1 S.2.1 dL_law_230 rfl (lv_at hl 0 rfl) ?_
  refine lv_iconst (v := (2)) S.1 S.2.1 dL_law_231 (by decide) ?_
  refine lv_iadd S.1 S.2.1 dL_law_232 ?_
  refine lv_topi (fun x_9 ex_9 => ?_)
  have qx_9 : x_3 = x_9 := ex_3.trans ex_9.symm
  subst qx_9
  refine va_sld S.1 S.2.1 hX hbl hbA hS (in_of (by omega) (by omega)) dL_law_233 ?_
  refine lv_topi (fun v_10 ev_10 => ?_)
  have qv_10 : v_4 = v_10 := ev_4.trans ev_10.symm
  subst qv_10
  refine lv_aload_n S.1 S.2.1 dL_law_234 rfl (lv_at hl 3 rfl) ?_
  refine lv_iload_n S.1 S.2.1 dL_law_235 rfl (lv_at hl 0 rfl) ?_
  refine lv_iconst (v := (3)) S.1 S.2.1 dL_law_236 (by decide) ?_
  refine lv_iadd S.1 S.2.1 dL_law_237 ?_
  refine lv_topi (fun x_11 ex_11 => ?_)
  have qx_11 : x_5 = x_11 := ex_5.trans ex_11.symm
  subst qx_11
  refine va_sld S.1 S.2.1 hX hbl hbA hS (in_of (by omega) (by omega)) dL_law_238 ?_
  refine lv_topi (fun v_12 ev_12 => ?_)
  have qv_12 : v_6 = v_12 := ev_6.trans ev_12.symm
  subst qv_12
  obtain ⟨fs_, he_⟩ := IY_0 hY_
  refine law_ci (C := RX9) (ci := 9) (As := [.int v_2, .int v_4, .int v_6]) (fY_set l D cI cZ cC cS sq H.size ay ln sn tz v_2 v_4 v_6 hY_) S gL_law_X9_set rfl hdV_X9_set ⟨Nat.le_of_ble_eq_true rfl, Nat.le_of_ble_eq_true rfl⟩ ⟨Nat.le_of_ble_eq_true rfl, Nat.le_of_ble_eq_true rfl⟩ hK hT hS hA hP hD rfl he_ rfl hl.1 rfl (Nat.le_of_ble_eq_true rfl) dL_law_239 (fun r2 wy H locs hw hP hD hS => ?_)
  obtain ⟨hr2, hY_⟩ := hw
  have er := stSet_eq hr1 hr2
  refine lv_pop S.1 S.2.1 dL_law_242 rfl ?_
  refine lv_goto (tgt := 1034) S.1 S.2.1 dL_law_243 (by decide) ?_
  exact K ln sn tz wx wy H _ ls hX_ hY_ hP hD hS hl
set_option maxHeartbeats 4000000 in
set_option maxRecDepth 100000 in
theorem law_copy {p : Program} (l : Launch) {e : Env} {s : State} {m : MethodId} {below : List Frame} {meth : Method} {c : Code} (D : va_G) (cI cZ cC cS : ClassId) (sq : Nat → Nat) {b L : Nat} {sc : Nat → Int32} {A : Nat → Prop} (C : lC p s m meth c b L sc A) (hK : kW D (tyW cI cZ cC cS) sq s) (hT : sT sq A s s.heap) (ad ay : Nat → Nat) (fq fim : Nat → Option Nat) (hL : L ≤ 3072) (i : Int32) (hi : 0 ≤ i.toInt ∧ i.toInt + 6 ≤ L) (K : ∀ (ln sn : Nat → Int32) (tz : Int32) (wx wy : va_W) (H : Heap) (locs : List Loc) (ls : Array Slot), IX cI cC cS ad fq fim ln sn tz wx → IY cI cZ ay ln sn tz wy → va_P D vwCl (wx ++ wy) H → va_D A (wx ++ wy) → va_S A s.heap H locs → lv_has ls 4 [(3, .int i), (2, .ref (ay 0)), (1, .ref (ad 0)), (0, .ref b)] → W p l e room_1 s m #[Value.ref b] below meth c H locs 98 12032 (lw_Z below #[Value.ref b] s) (F0 m 1034 ls [])) {ln sn : Nat → Int32} {tz : Int32} {wx wy : va_W} {H : Heap} {locs : List Loc} {ls : Array Slot} (hX_ : IX cI cC cS ad fq fim ln sn tz wx) (hY_ : IY cI cZ ay ln sn tz wy) (hP : va_P D vwCl (wx ++ wy) H) (hD : va_D A (wx ++ wy)) (hS : va_S A s.heap H locs) (hl : lv_has ls 4 [(3, .int i), (2, .ref (ay 0)), (1, .ref (ad 0)), (0, .ref b)]) : W p l e room_1 s m #[Value.ref b] below meth c H locs 98 12032 (lw_Z below #[Value.ref b] s) (F0 m 246 ls []) := by
  obtain ⟨S, hr_, hk_, hX, hbl, hA, hAf⟩ := id C
  have hbA : ¬ A b := fun z => absurd (hAf b z) (Nat.not_le.mpr hbl)
  refine lv_aload_n S.1 S.2.1 dL_law_246 rfl (lv_at hl 2 rfl) ?_
  refine lv_aload_n S.1 S.2.1 dL_law_247 rfl (lv_at hl 3 rfl) ?_
  refine lv_iload_n S.1 S.2.1 dL_law_248 rfl (lv_at hl 0 rfl) ?_
  refine lv_iconst (v := (1)) S.1 S.2.1 dL_law_249 (by decide) ?_
  refine lv_iadd S.1 S.2.1 dL_law_250 ?_
  refine lv_topi (fun x_1 ex_1 => ?_)
  have tx_1 : x_1.toInt = i.toInt + (1) := addI (A := i.toInt) (B := 1) ex_1 rfl rfl (by omega) (by omega)
  refine va_sld S.1 S.2.1 hX hbl hbA hS (in_of (by omega) (by omega)) dL_law_251 ?_
  refine lv_topi (fun v_2 ev_2 => ?_)
  refine lv_aload_n S.1 S.2.1 dL_law_252 rfl (lv_at hl 3 rfl) ?_
  refine lv_iload_n S.1 S.2.1 dL_law_253 rfl (lv_at hl 0 rfl) ?_
  refine lv_iconst (v := (2)) S.1 S.2.1 dL_law_254 (by decide) ?_
  refine lv_iadd S.1 S.2.1 dL_law_255 ?_
  refine lv_topi (fun x_3 ex_3 => ?_)
  have tx_3 : x_3.toInt = i.toInt + (2) := addI (A := i.toInt) (B := 2) ex_3 rfl rfl (by omega) (by omega)
  refine va_sld S.1 S.2.1 hX hbl hbA hS (in_of (by omega) (by omega)) dL_law_256 ?_
  refine lv_topi (fun v_4 ev_4 => ?_)
  refine lv_aload_n S.1 S.2.1 dL_law_257 rfl (lv_at hl 3 rfl) ?_
  refine lv_iload_n S.1 S.2.1 dL_law_258 rfl (lv_at hl 0 rfl) ?_
  refine lv_iconst (v := (3)) S.1 S.2.1 dL_law_259 (by decide) ?_
  refine lv_iadd S.1 S.2.1 dL_law_260 ?_
  refine lv_topi (fun x_5 ex_5 => ?_)
  have tx_5 : x_5.toInt = i.toInt + (3) := addI (A := i.toInt) (B := 3) ex_5 rfl rfl (by omega) (by omega)
  refine va_sld S.1 S.2.1 hX hbl hbA hS (in_of (by omega) (by omega)) dL_law_261 ?_
  refine lv_topi (fun v_6 ev_6 => ?_)
  refine lv_aload_n S.1 S.2.1 dL_law_262 rfl (lv_at hl 3 rfl) ?_
  refine lv_iload_n S.1 S.2.1 dL_law_263 rfl (lv_at hl 0 rfl) ?_
  refine lv_iconst (v := (4)) S.1 S.2.1 dL_law_264 (by decide) ?_
  refine lv_iadd S.1 S.2.1 dL_law_265 ?_
  refine lv_topi (fun x_7 ex_7 => ?_)
  have tx_7 : x_7.toInt = i.toInt + (4) := addI (A := i.toInt) (B := 4) ex_7 rfl rfl (by omega) (by omega)
  refine va_sld S.1 S.2.1 hX hbl hbA hS (in_of (by omega) (by omega)) dL_law_266 ?_
  refine lv_topi (fun v_8 ev_8 => ?_)
  refine lv_aload_n S.1 S.2.1 dL_law_267 rfl (lv_at hl 3 rfl) ?_
  refine lv_iload_n S.1 S.2.1 dL_law_268 rfl (lv_at hl 0 rfl) ?_
  refine lv_iconst (v := (5)) S.1 S.2.1 dL_law_269 (by decide) ?_
  refine lv_iadd S.1 S.2.1 dL_law_270 ?_
  refine lv_topi (fun x_9 ex_9 => ?_)
  have tx_9 : x_9.toInt = i.toInt + (5) := addI (A := i.toInt) (B := 5) ex_9 rfl rfl (by omega) (by omega)
  refine va_sld S.1 S.2.1 hX hbl hbA hS (in_of (by omega) (by omega)) dL_law_271 ?_
  refine lv_topi (fun v_10 ev_10 => ?_)
  obtain ⟨fs_, he_⟩ := IX_0 hX_
  refine law_ci (C := RX8) (ci := 8) (As := [.int v_2, .int v_4, .int v_6, .int v_8, .int v_10]) (fX_copy l D cI cZ cC cS sq H.size ad fq fim ln sn tz v_2 v_4 v_6 v_8 v_10 hX_) S gL_law_X8_copy rfl hdV_X8_copy ⟨Nat.le_of_ble_eq_true rfl, Nat.le_of_ble_eq_true rfl⟩ ⟨Nat.le_of_ble_eq_true rfl, Nat.le_of_ble_eq_true rfl⟩ hK hT hS hA hP hD rfl he_ rfl hl.1 rfl (Nat.le_of_ble_eq_true rfl) dL_law_272 (fun r1 wx H locs hw hP hD hS => ?_)
  obtain ⟨hr1, hX_⟩ := hw
  refine lv_pop S.1 S.2.1 dL_law_275 rfl ?_
  refine lv_aload_n S.1 S.2.1 dL_law_276 rfl (lv_at hl 1 rfl) ?_
  refine lv_aload_n S.1 S.2.1 dL_law_277 rfl (lv_at hl 3 rfl) ?_
  refine lv_iload_n S.1 S.2.1 dL_law_278 rfl (lv_at hl 0 rfl) ?_
  refine lv_iconst (v := (1)) S.1 S.2.1 dL_law_279 (by decide) ?_
  refine lv_iadd S.1 S.2.1 dL_law_280 ?_
  refine lv_topi (fun x_11 ex_11 => ?_)
  have qx_11 : x_1 = x_11 := ex_1.trans ex_11.symm
  subst qx_11
  refine va_sld S.1 S.2.1 hX hbl hbA hS (in_of (by omega) (by omega)) dL_law_281 ?_
  refine lv_topi (fun v_12 ev_12 => ?_)
  have qv_12 : v_2 = v_12 := ev_2.trans ev_12.symm
  subst qv_12
  refine lv_aload_n S.1 S.2.1 dL_law_282 rfl (lv_at hl 3 rfl) ?_
  refine lv_iload_n S.1 S.2.1 dL_law_283 rfl (lv_at hl 0 rfl) ?_
  refine lv_iconst (v := (2)) S.1 S.2.1 dL_law_284 (by decide) ?_
  refine lv_iadd S.1 S.2.1 dL_law_285 ?_
  refine lv_topi (fun x_13 ex_13 => ?_)
  have qx_13 : x_3 = x_13 := ex_3.trans ex_13.symm
  subst qx_13
  refine va_sld S.1 S.2.1 hX hbl hbA hS (in_of (by omega) (by omega)) dL_law_286 ?_
  refine lv_topi (fun v_14 ev_14 => ?_)
  have qv_14 : v_4 = v_14 := ev_4.trans ev_14.symm
  subst qv_14
  refine lv_aload_n S.1 S.2.1 dL_law_287 rfl (lv_at hl 3 rfl) ?_
  refine lv_iload_n S.1 S.2.1 dL_law_288 rfl (lv_at hl 0 rfl) ?_
  refine lv_iconst (v := (3)) S.1 S.2.1 dL_law_289 (by decide) ?_
  refine lv_iadd S.1 S.2.1 dL_law_290 ?_
  refine lv_topi (fun x_15 ex_15 => ?_)
  have qx_15 : x_5 = x_15 := ex_5.trans ex_15.symm
  subst qx_15
  refine va_sld S.1 S.2.1 hX hbl hbA hS (in_of (by omega) (by omega)) dL_law_291 ?_
  refine lv_topi (fun v_16 ev_16 => ?_)
  have qv_16 : v_6 = v_16 := ev_6.trans ev_16.symm
  subst qv_16
  refine lv_aload_n S.1 S.2.1 dL_law_292 rfl (lv_at hl 3 rfl) ?_
  refine lv_iload_n S.1 S.2.1 dL_law_293 rfl (lv_at hl 0 rfl) ?_
  refine lv_iconst (v := (4)) S.1 S.2.1 dL_law_294 (by decide) ?_
  refine lv_iadd S.1 S.2.1 dL_law_295 ?_
  refine lv_topi (fun x_17 ex_17 => ?_)
  have qx_17 : x_7 = x_17 := ex_7.trans ex_17.symm
  subst qx_17
  refine va_sld S.1 S.2.1 hX hbl hbA hS (in_of (by omega) (by omega)) dL_law_296 ?_
  refine lv_topi (fun v_18 ev_18 => ?_)
  have qv_18 : v_8 = v_18 := ev_8.trans ev_18.symm
  subst qv_18
  refine lv_aload_n S.1 S.2.1 dL_law_297 rfl (lv_at hl 3 rfl) ?_
  refine lv_iload_n S.1 S.2.1 dL_law_298 rfl (lv_at hl 0 rfl) ?_
  refine lv_iconst (v := (5)) S.1 S.2.1 dL_law_299 (by decide) ?_
  refine lv_iadd S.1 S.2.1 dL_law_300 ?_
  refine lv_topi (fun x_19 ex_19 => ?_)
  have qx_19 : x_9 = x_19 := ex_9.trans ex_19.symm
  subst qx_19
  refine va_sld S.1 S.2.1 hX hbl hbA hS (in_of (by omega) (by omega)) dL_law_301 ?_
  refine lv_topi (fun v_20 ev_20 => ?_)
  have qv_20 : v_10 = v_20 := ev_10.trans ev_20.symm
  subst qv_20
  obtain ⟨fs_, he_⟩ := IY_0 hY_
  refine law_ci (C := RX9) (ci := 9) (As := [.int v_2, .int v_4, .int v_6, .int v_8, .int v_10]) (fY_copy l D cI cZ cC cS sq H.size ay ln sn tz v_2 v_4 v_6 v_8 v_10 hY_) S gL_law_X9_copy rfl hdV_X9_copy ⟨Nat.le_of_ble_eq_true rfl, Nat.le_of_ble_eq_true rfl⟩ ⟨Nat.le_of_ble_eq_true rfl, Nat.le_of_ble_eq_true rfl⟩ hK hT hS hA hP hD rfl he_ rfl hl.1 rfl (Nat.le_of_ble_eq_true rfl) dL_law_302 (fun r2 wy H locs hw hP hD hS => ?_)
  obtain ⟨hr2, hY_⟩ := hw
  have er := stCopy_eq hr1 hr2
  refine lv_pop S.1 S.2.1 dL_law_305 rfl ?_
  refine lv_goto (tgt := 1034) S.1 S.2.1 dL_law_306 (by decide) ?_
  exact K ln sn tz wx wy H _ ls hX_ hY_ hP hD hS hl
set_option maxHeartbeats 4000000 in
set_option maxRecDepth 100000 in
theorem law_drop {p : Program} (l : Launch) {e : Env} {s : State} {m : MethodId} {below : List Frame} {meth : Method} {c : Code} (D : va_G) (cI cZ cC cS : ClassId) (sq : Nat → Nat) {b L : Nat} {sc : Nat → Int32} {A : Nat → Prop} (C : lC p s m meth c b L sc A) (hK : kW D (tyW cI cZ cC cS) sq s) (hT : sT sq A s s.heap) (ad ay : Nat → Nat) (fq fim : Nat → Option Nat) (hL : L ≤ 3072) (i : Int32) (hi : 0 ≤ i.toInt ∧ i.toInt + 6 ≤ L) (K : ∀ (ln sn : Nat → Int32) (tz : Int32) (wx wy : va_W) (H : Heap) (locs : List Loc) (ls : Array Slot), IX cI cC cS ad fq fim ln sn tz wx → IY cI cZ ay ln sn tz wy → va_P D vwCl (wx ++ wy) H → va_D A (wx ++ wy) → va_S A s.heap H locs → lv_has ls 4 [(3, .int i), (2, .ref (ay 0)), (1, .ref (ad 0)), (0, .ref b)] → W p l e room_1 s m #[Value.ref b] below meth c H locs 98 12032 (lw_Z below #[Value.ref b] s) (F0 m 1034 ls [])) {ln sn : Nat → Int32} {tz : Int32} {wx wy : va_W} {H : Heap} {locs : List Loc} {ls : Array Slot} (hX_ : IX cI cC cS ad fq fim ln sn tz wx) (hY_ : IY cI cZ ay ln sn tz wy) (hP : va_P D vwCl (wx ++ wy) H) (hD : va_D A (wx ++ wy)) (hS : va_S A s.heap H locs) (hl : lv_has ls 4 [(3, .int i), (2, .ref (ay 0)), (1, .ref (ad 0)), (0, .ref b)]) : W p l e room_1 s m #[Value.ref b] below meth c H locs 98 12032 (lw_Z below #[Value.ref b] s) (F0 m 309 ls []) := by
  obtain ⟨S, hr_, hk_, hX, hbl, hA, hAf⟩ := id C
  have hbA : ¬ A b := fun z => absurd (hAf b z) (Nat.not_le.mpr hbl)
  refine lv_aload_n S.1 S.2.1 dL_law_309 rfl (lv_at hl 2 rfl) ?_
  refine lv_aload_n S.1 S.2.1 dL_law_310 rfl (lv_at hl 3 rfl) ?_
  refine lv_iload_n S.1 S.2.1 dL_law_311 rfl (lv_at hl 0 rfl) ?_
  refine lv_iconst (v := (1)) S.1 S.2.1 dL_law_312 (by decide) ?_
  refine lv_iadd S.1 S.2.1 dL_law_313 ?_
  refine lv_topi (fun x_1 ex_1 => ?_)
  have tx_1 : x_1.toInt = i.toInt + (1) := addI (A := i.toInt) (B := 1) ex_1 rfl rfl (by omega) (by omega)
  refine va_sld S.1 S.2.1 hX hbl hbA hS (in_of (by omega) (by omega)) dL_law_314 ?_
  refine lv_topi (fun v_2 ev_2 => ?_)
  obtain ⟨fs_, he_⟩ := IX_0 hX_
  refine law_ci (C := RX8) (ci := 8) (As := [.int v_2]) (fX_drop l D cI cZ cC cS sq H.size ad fq fim ln sn tz v_2 hX_) S gL_law_X8_drop rfl hdV_X8_drop ⟨Nat.le_of_ble_eq_true rfl, Nat.le_of_ble_eq_true rfl⟩ ⟨Nat.le_of_ble_eq_true rfl, Nat.le_of_ble_eq_true rfl⟩ hK hT hS hA hP hD rfl he_ rfl hl.1 rfl (Nat.le_of_ble_eq_true rfl) dL_law_315 (fun r1 wx H locs hw hP hD hS => ?_)
  obtain ⟨ln1, sn1, hr1, hX_⟩ := hw
  refine lv_pop S.1 S.2.1 dL_law_318 rfl ?_
  refine lv_aload_n S.1 S.2.1 dL_law_319 rfl (lv_at hl 1 rfl) ?_
  refine lv_aload_n S.1 S.2.1 dL_law_320 rfl (lv_at hl 3 rfl) ?_
  refine lv_iload_n S.1 S.2.1 dL_law_321 rfl (lv_at hl 0 rfl) ?_
  refine lv_iconst (v := (1)) S.1 S.2.1 dL_law_322 (by decide) ?_
  refine lv_iadd S.1 S.2.1 dL_law_323 ?_
  refine lv_topi (fun x_3 ex_3 => ?_)
  have qx_3 : x_1 = x_3 := ex_1.trans ex_3.symm
  subst qx_3
  refine va_sld S.1 S.2.1 hX hbl hbA hS (in_of (by omega) (by omega)) dL_law_324 ?_
  refine lv_topi (fun v_4 ev_4 => ?_)
  have qv_4 : v_2 = v_4 := ev_2.trans ev_4.symm
  subst qv_4
  obtain ⟨fs_, he_⟩ := IY_0 hY_
  refine law_ci (C := RX9) (ci := 9) (As := [.int v_2]) (fY_drop l D cI cZ cC cS sq H.size ay ln sn tz v_2 hY_) S gL_law_X9_drop rfl hdV_X9_drop ⟨Nat.le_of_ble_eq_true rfl, Nat.le_of_ble_eq_true rfl⟩ ⟨Nat.le_of_ble_eq_true rfl, Nat.le_of_ble_eq_true rfl⟩ hK hT hS hA hP hD rfl he_ rfl hl.1 rfl (Nat.le_of_ble_eq_true rfl) dL_law_325 (fun r2 wy H locs hw hP hD hS => ?_)
  obtain ⟨ln2, sn2, hr2, hY_⟩ := hw
  obtain ⟨er, el, es⟩ := stDrop_eq hr1 hr2
  subst el
  subst es
  refine lv_pop S.1 S.2.1 dL_law_328 rfl ?_
  refine lv_goto (tgt := 1034) S.1 S.2.1 dL_law_329 (by decide) ?_
  exact K ln1 sn1 tz wx wy H _ ls hX_ hY_ hP hD hS hl
set_option maxHeartbeats 4000000 in
set_option maxRecDepth 100000 in
theorem law_feed {p : Program} (l : Launch) {e : Env} {s : State} {m : MethodId} {below : List Frame} {meth : Method} {c : Code} (D : va_G) (cI cZ cC cS : ClassId) (sq : Nat → Nat) {b L : Nat} {sc : Nat → Int32} {A : Nat → Prop} (C : lC p s m meth c b L sc A) (hK : kW D (tyW cI cZ cC cS) sq s) (hT : sT sq A s s.heap) (ad ay : Nat → Nat) (fq fim : Nat → Option Nat) (hL : L ≤ 3072) (i : Int32) (hi : 0 ≤ i.toInt ∧ i.toInt + 6 ≤ L) (K : ∀ (ln sn : Nat → Int32) (tz : Int32) (wx wy : va_W) (H : Heap) (locs : List Loc) (ls : Array Slot), IX cI cC cS ad fq fim ln sn tz wx → IY cI cZ ay ln sn tz wy → va_P D vwCl (wx ++ wy) H → va_D A (wx ++ wy) → va_S A s.heap H locs → lv_has ls 4 [(3, .int i), (2, .ref (ay 0)), (1, .ref (ad 0)), (0, .ref b)] → W p l e room_1 s m #[Value.ref b] below meth c H locs 98 12032 (lw_Z below #[Value.ref b] s) (F0 m 1034 ls [])) {ln sn : Nat → Int32} {tz : Int32} {wx wy : va_W} {H : Heap} {locs : List Loc} {ls : Array Slot} (hX_ : IX cI cC cS ad fq fim ln sn tz wx) (hY_ : IY cI cZ ay ln sn tz wy) (hP : va_P D vwCl (wx ++ wy) H) (hD : va_D A (wx ++ wy)) (hS : va_S A s.heap H locs) (hl : lv_has ls 4 [(3, .int i), (2, .ref (ay 0)), (1, .ref (ad 0)), (0, .ref b)]) : W p l e room_1 s m #[Value.ref b] below meth c H locs 98 12032 (lw_Z below #[Value.ref b] s) (F0 m 332 ls []) := by
  obtain ⟨S, hr_, hk_, hX, hbl, hA, hAf⟩ := id C
  have hbA : ¬ A b := fun z => absurd (hAf b z) (Nat.not_le.mpr hbl)
  refine lv_aload_n S.1 S.2.1 dL_law_332 rfl (lv_at hl 2 rfl) ?_
  refine lv_aload_n S.1 S.2.1 dL_law_333 rfl (lv_at hl 3 rfl) ?_
  refine lv_iload_n S.1 S.2.1 dL_law_334 rfl (lv_at hl 0 rfl) ?_
  refine lv_iconst (v := (1)) S.1 S.2.1 dL_law_335 (by decide) ?_
  refine lv_iadd S.1 S.2.1 dL_law_336 ?_
  refine lv_topi (fun x_1 ex_1 => ?_)
  have tx_1 : x_1.toInt = i.toInt + (1) := addI (A := i.toInt) (B := 1) ex_1 rfl rfl (by omega) (by omega)
  refine va_sld S.1 S.2.1 hX hbl hbA hS (in_of (by omega) (by omega)) dL_law_337 ?_
  refine lv_topi (fun v_2 ev_2 => ?_)
  refine lv_i2l (v := v_2.toInt64) S.1 S.2.1 dL_law_338 rfl ?_
  refine lv_bipush (v := (32)) S.1 S.2.1 dL_law_339 (by decide) ?_
  refine lv_lshl S.1 S.2.1 dL_law_341 rfl ?_
  refine lv_topl (fun z_3 ez_3 => ?_)
  refine lv_aload_n S.1 S.2.1 dL_law_342 rfl (lv_at hl 3 rfl) ?_
  refine lv_iload_n S.1 S.2.1 dL_law_343 rfl (lv_at hl 0 rfl) ?_
  refine lv_iconst (v := (2)) S.1 S.2.1 dL_law_344 (by decide) ?_
  refine lv_iadd S.1 S.2.1 dL_law_345 ?_
  refine lv_topi (fun x_4 ex_4 => ?_)
  have tx_4 : x_4.toInt = i.toInt + (2) := addI (A := i.toInt) (B := 2) ex_4 rfl rfl (by omega) (by omega)
  refine va_sld S.1 S.2.1 hX hbl hbA hS (in_of (by omega) (by omega)) dL_law_346 ?_
  refine lv_topi (fun v_5 ev_5 => ?_)
  refine lv_i2l (v := v_5.toInt64) S.1 S.2.1 dL_law_347 rfl ?_
  refine lv_ldc2 (v := (4294967295)) S.1 S.2.1 S.2.2.2.1 (S.2.2.2.2 (.constantLong RL 32 (4294967295)) (by decide +kernel)) dL_law_348 ?_
  refine lv_land S.1 S.2.1 dL_law_351 ?_
  refine lv_topl (fun z_6 ez_6 => ?_)
  refine lv_lor S.1 S.2.1 dL_law_352 ?_
  refine lv_topl (fun z_7 ez_7 => ?_)
  refine lv_aload_n S.1 S.2.1 dL_law_353 rfl (lv_at hl 3 rfl) ?_
  refine lv_iload_n S.1 S.2.1 dL_law_354 rfl (lv_at hl 0 rfl) ?_
  refine lv_iconst (v := (3)) S.1 S.2.1 dL_law_355 (by decide) ?_
  refine lv_iadd S.1 S.2.1 dL_law_356 ?_
  refine lv_topi (fun x_8 ex_8 => ?_)
  have tx_8 : x_8.toInt = i.toInt + (3) := addI (A := i.toInt) (B := 3) ex_8 rfl rfl (by omega) (by omega)
  refine va_sld S.1 S.2.1 hX hbl hbA hS (in_of (by omega) (by omega)) dL_law_357 ?_
  refine lv_topi (fun v_9 ev_9 => ?_)
  obtain ⟨fs_, he_⟩ := IX_0 hX_
  refine law_ci (C := RX8) (ci := 8) (As := [.long z_7, .int v_9]) (fX_feed l D cI cZ cC cS sq H.size ad fq fim ln sn tz z_7 v_9 hX_) S gL_law_X8_feed rfl hdV_X8_feed ⟨Nat.le_of_ble_eq_true rfl, Nat.le_of_ble_eq_true rfl⟩ ⟨Nat.le_of_ble_eq_true rfl, Nat.le_of_ble_eq_true rfl⟩ hK hT hS hA hP hD rfl he_ rfl hl.1 rfl (Nat.le_of_ble_eq_true rfl) dL_law_358 (fun r1 wx H locs hw hP hD hS => ?_)
  obtain ⟨tz1, hr1, hX_⟩ := hw
  refine lv_aload_n S.1 S.2.1 dL_law_361 rfl (lv_at hl 1 rfl) ?_
  refine lv_aload_n S.1 S.2.1 dL_law_362 rfl (lv_at hl 3 rfl) ?_
  refine lv_iload_n S.1 S.2.1 dL_law_363 rfl (lv_at hl 0 rfl) ?_
  refine lv_iconst (v := (1)) S.1 S.2.1 dL_law_364 (by decide) ?_
  refine lv_iadd S.1 S.2.1 dL_law_365 ?_
  refine lv_topi (fun x_10 ex_10 => ?_)
  have qx_10 : x_1 = x_10 := ex_1.trans ex_10.symm
  subst qx_10
  refine va_sld S.1 S.2.1 hX hbl hbA hS (in_of (by omega) (by omega)) dL_law_366 ?_
  refine lv_topi (fun v_11 ev_11 => ?_)
  have qv_11 : v_2 = v_11 := ev_2.trans ev_11.symm
  subst qv_11
  refine lv_i2l (v := v_2.toInt64) S.1 S.2.1 dL_law_367 rfl ?_
  refine lv_bipush (v := (32)) S.1 S.2.1 dL_law_368 (by decide) ?_
  refine lv_lshl S.1 S.2.1 dL_law_370 rfl ?_
  refine lv_topl (fun z_12 ez_12 => ?_)
  refine lv_aload_n S.1 S.2.1 dL_law_371 rfl (lv_at hl 3 rfl) ?_
  refine lv_iload_n S.1 S.2.1 dL_law_372 rfl (lv_at hl 0 rfl) ?_
  refine lv_iconst (v := (2)) S.1 S.2.1 dL_law_373 (by decide) ?_
  refine lv_iadd S.1 S.2.1 dL_law_374 ?_
  refine lv_topi (fun x_13 ex_13 => ?_)
  have qx_13 : x_4 = x_13 := ex_4.trans ex_13.symm
  subst qx_13
  refine va_sld S.1 S.2.1 hX hbl hbA hS (in_of (by omega) (by omega)) dL_law_375 ?_
  refine lv_topi (fun v_14 ev_14 => ?_)
  have qv_14 : v_5 = v_14 := ev_5.trans ev_14.symm
  subst qv_14
  refine lv_i2l (v := v_5.toInt64) S.1 S.2.1 dL_law_376 rfl ?_
  refine lv_ldc2 (v := (4294967295)) S.1 S.2.1 S.2.2.2.1 (S.2.2.2.2 (.constantLong RL 32 (4294967295)) (by decide +kernel)) dL_law_377 ?_
  refine lv_land S.1 S.2.1 dL_law_380 ?_
  refine lv_topl (fun z_15 ez_15 => ?_)
  refine lv_lor S.1 S.2.1 dL_law_381 ?_
  refine lv_topl (fun z_16 ez_16 => ?_)
  refine lv_aload_n S.1 S.2.1 dL_law_382 rfl (lv_at hl 3 rfl) ?_
  refine lv_iload_n S.1 S.2.1 dL_law_383 rfl (lv_at hl 0 rfl) ?_
  refine lv_iconst (v := (3)) S.1 S.2.1 dL_law_384 (by decide) ?_
  refine lv_iadd S.1 S.2.1 dL_law_385 ?_
  refine lv_topi (fun x_17 ex_17 => ?_)
  have qx_17 : x_8 = x_17 := ex_8.trans ex_17.symm
  subst qx_17
  refine va_sld S.1 S.2.1 hX hbl hbA hS (in_of (by omega) (by omega)) dL_law_386 ?_
  refine lv_topi (fun v_18 ev_18 => ?_)
  have qv_18 : v_9 = v_18 := ev_9.trans ev_18.symm
  subst qv_18
  obtain ⟨fs_, he_⟩ := IY_0 hY_
  refine law_ci (C := RX9) (ci := 9) (As := [.long z_16, .int v_9]) (fY_feed l D cI cZ cC cS sq H.size ay ln sn tz z_16 v_9 hY_) S gL_law_X9_feed rfl hdV_X9_feed ⟨Nat.le_of_ble_eq_true rfl, Nat.le_of_ble_eq_true rfl⟩ ⟨Nat.le_of_ble_eq_true rfl, Nat.le_of_ble_eq_true rfl⟩ hK hT hS hA hP hD rfl he_ rfl hl.1 rfl (Nat.le_of_ble_eq_true rfl) dL_law_387 (fun r2 wy H locs hw hP hD hS => ?_)
  obtain ⟨tz2, hr2, hY_⟩ := hw
  obtain ⟨er, et⟩ := stFeed_eq hr1 hr2
  subst et
  subst er
  refine lv_icmp_eq (tgt := 1034) S.1 S.2.1 dL_law_390 (by decide) (fun _ => ?_) (fun k => absurd rfl k)
  exact K ln sn tz1 wx wy H _ ls hX_ hY_ hP hD hS hl
set_option maxHeartbeats 4000000 in
set_option maxRecDepth 100000 in
theorem law_city {p : Program} (l : Launch) {e : Env} {s : State} {m : MethodId} {below : List Frame} {meth : Method} {c : Code} (D : va_G) (cI cZ cC cS : ClassId) (sq : Nat → Nat) {b L : Nat} {sc : Nat → Int32} {A : Nat → Prop} (C : lC p s m meth c b L sc A) (hK : kW D (tyW cI cZ cC cS) sq s) (hT : sT sq A s s.heap) (ad ay : Nat → Nat) (fq fim : Nat → Option Nat) (hL : L ≤ 3072) (i : Int32) (hi : 0 ≤ i.toInt ∧ i.toInt + 6 ≤ L) (K : ∀ (ln sn : Nat → Int32) (tz : Int32) (wx wy : va_W) (H : Heap) (locs : List Loc) (ls : Array Slot), IX cI cC cS ad fq fim ln sn tz wx → IY cI cZ ay ln sn tz wy → va_P D vwCl (wx ++ wy) H → va_D A (wx ++ wy) → va_S A s.heap H locs → lv_has ls 4 [(3, .int i), (2, .ref (ay 0)), (1, .ref (ad 0)), (0, .ref b)] → W p l e room_1 s m #[Value.ref b] below meth c H locs 98 12032 (lw_Z below #[Value.ref b] s) (F0 m 1034 ls [])) {ln sn : Nat → Int32} {tz : Int32} {wx wy : va_W} {H : Heap} {locs : List Loc} {ls : Array Slot} (hX_ : IX cI cC cS ad fq fim ln sn tz wx) (hY_ : IY cI cZ ay ln sn tz wy) (hP : va_P D vwCl (wx ++ wy) H) (hD : va_D A (wx ++ wy)) (hS : va_S A s.heap H locs) (hl : lv_has ls 4 [(3, .int i), (2, .ref (ay 0)), (1, .ref (ad 0)), (0, .ref b)]) : W p l e room_1 s m #[Value.ref b] below meth c H locs 98 12032 (lw_Z below #[Value.ref b] s) (F0 m 395 ls []) := by
  obtain ⟨S, hr_, hk_, hX, hbl, hA, hAf⟩ := id C
  have hbA : ¬ A b := fun z => absurd (hAf b z) (Nat.not_le.mpr hbl)
  refine lv_aload_n S.1 S.2.1 dL_law_395 rfl (lv_at hl 2 rfl) ?_
  obtain ⟨fs_, he_⟩ := IX_0 hX_
  refine law_ci (C := RX8) (ci := 8) (As := []) (fX_city l D cI cZ cC cS sq H.size ad fq fim ln sn tz  hX_) S gL_law_X8_city rfl hdV_X8_city ⟨Nat.le_of_ble_eq_true rfl, Nat.le_of_ble_eq_true rfl⟩ ⟨Nat.le_of_ble_eq_true rfl, Nat.le_of_ble_eq_true rfl⟩ hK hT hS hA hP hD rfl he_ rfl hl.1 rfl (Nat.le_of_ble_eq_true rfl) dL_law_396 (fun r1 wx H locs hw hP hD hS => ?_)
  have hX_ := hw
  refine lv_pop S.1 S.2.1 dL_law_399 rfl ?_
  refine lv_aload_n S.1 S.2.1 dL_law_400 rfl (lv_at hl 1 rfl) ?_
  obtain ⟨fs_, he_⟩ := IY_0 hY_
  refine law_ci (C := RX9) (ci := 9) (As := []) (fY_city l D cI cZ cC cS sq H.size ay ln sn tz  hY_) S gL_law_X9_city rfl hdV_X9_city ⟨Nat.le_of_ble_eq_true rfl, Nat.le_of_ble_eq_true rfl⟩ ⟨Nat.le_of_ble_eq_true rfl, Nat.le_of_ble_eq_true rfl⟩ hK hT hS hA hP hD rfl he_ rfl hl.1 rfl (Nat.le_of_ble_eq_true rfl) dL_law_401 (fun r2 wy H locs hw hP hD hS => ?_)
  have hY_ := hw
  refine lv_pop S.1 S.2.1 dL_law_404 rfl ?_
  refine lv_goto (tgt := 1034) S.1 S.2.1 dL_law_405 (by decide) ?_
  exact K ln sn 0 wx wy H _ ls hX_ hY_ hP hD hS hl
set_option maxHeartbeats 4000000 in
set_option maxRecDepth 100000 in
theorem law_fault {p : Program} (l : Launch) {e : Env} {s : State} {m : MethodId} {below : List Frame} {meth : Method} {c : Code} (D : va_G) (cI cZ cC cS : ClassId) (sq : Nat → Nat) {b L : Nat} {sc : Nat → Int32} {A : Nat → Prop} (C : lC p s m meth c b L sc A) (hK : kW D (tyW cI cZ cC cS) sq s) (hT : sT sq A s s.heap) (ad ay : Nat → Nat) (fq fim : Nat → Option Nat) (hL : L ≤ 3072) (i : Int32) (hi : 0 ≤ i.toInt ∧ i.toInt + 6 ≤ L) (K : ∀ (ln sn : Nat → Int32) (tz : Int32) (wx wy : va_W) (H : Heap) (locs : List Loc) (ls : Array Slot), IX cI cC cS ad fq fim ln sn tz wx → IY cI cZ ay ln sn tz wy → va_P D vwCl (wx ++ wy) H → va_D A (wx ++ wy) → va_S A s.heap H locs → lv_has ls 4 [(3, .int i), (2, .ref (ay 0)), (1, .ref (ad 0)), (0, .ref b)] → W p l e room_1 s m #[Value.ref b] below meth c H locs 98 12032 (lw_Z below #[Value.ref b] s) (F0 m 1034 ls [])) {ln sn : Nat → Int32} {tz : Int32} {wx wy : va_W} {H : Heap} {locs : List Loc} {ls : Array Slot} (hX_ : IX cI cC cS ad fq fim ln sn tz wx) (hY_ : IY cI cZ ay ln sn tz wy) (hP : va_P D vwCl (wx ++ wy) H) (hD : va_D A (wx ++ wy)) (hS : va_S A s.heap H locs) (hl : lv_has ls 4 [(3, .int i), (2, .ref (ay 0)), (1, .ref (ad 0)), (0, .ref b)]) : W p l e room_1 s m #[Value.ref b] below meth c H locs 98 12032 (lw_Z below #[Value.ref b] s) (F0 m 408 ls []) := by
  obtain ⟨S, hr_, hk_, hX, hbl, hA, hAf⟩ := id C
  have hbA : ¬ A b := fun z => absurd (hAf b z) (Nat.not_le.mpr hbl)
  refine lv_aload_n S.1 S.2.1 dL_law_408 rfl (lv_at hl 2 rfl) ?_
  obtain ⟨fs_, he_⟩ := IX_0 hX_
  refine law_ci (C := RX8) (ci := 8) (As := []) (fX_fault l D cI cZ cC cS sq H.size ad fq fim ln sn tz  hX_) S gL_law_X8_fault rfl hdV_X8_fault ⟨Nat.le_of_ble_eq_true rfl, Nat.le_of_ble_eq_true rfl⟩ ⟨Nat.le_of_ble_eq_true rfl, Nat.le_of_ble_eq_true rfl⟩ hK hT hS hA hP hD rfl he_ rfl hl.1 rfl (Nat.le_of_ble_eq_true rfl) dL_law_409 (fun r1 wx H locs hw hP hD hS => ?_)
  have hX_ := hw
  refine lv_pop S.1 S.2.1 dL_law_412 rfl ?_
  refine lv_aload_n S.1 S.2.1 dL_law_413 rfl (lv_at hl 1 rfl) ?_
  obtain ⟨fs_, he_⟩ := IY_0 hY_
  refine law_ci (C := RX9) (ci := 9) (As := []) (fY_fault l D cI cZ cC cS sq H.size ay ln sn tz  hY_) S gL_law_X9_fault rfl hdV_X9_fault ⟨Nat.le_of_ble_eq_true rfl, Nat.le_of_ble_eq_true rfl⟩ ⟨Nat.le_of_ble_eq_true rfl, Nat.le_of_ble_eq_true rfl⟩ hK hT hS hA hP hD rfl he_ rfl hl.1 rfl (Nat.le_of_ble_eq_true rfl) dL_law_414 (fun r2 wy H locs hw hP hD hS => ?_)
  have hY_ := hw
  refine lv_pop S.1 S.2.1 dL_law_417 rfl ?_
  refine lv_goto (tgt := 1034) S.1 S.2.1 dL_law_418 (by decide) ?_
  exact K ln sn tz wx wy H _ ls hX_ hY_ hP hD hS hl
set_option maxHeartbeats 4000000 in
set_option maxRecDepth 100000 in
theorem law_look {p : Program} (l : Launch) {e : Env} {s : State} {m : MethodId} {below : List Frame} {meth : Method} {c : Code} (D : va_G) (cI cZ cC cS : ClassId) (sq : Nat → Nat) {b L : Nat} {sc : Nat → Int32} {A : Nat → Prop} (C : lC p s m meth c b L sc A) (hK : kW D (tyW cI cZ cC cS) sq s) (hT : sT sq A s s.heap) (ad ay : Nat → Nat) (fq fim : Nat → Option Nat) (hL : L ≤ 3072) (i : Int32) (hi : 0 ≤ i.toInt ∧ i.toInt + 6 ≤ L) (K : ∀ (ln sn : Nat → Int32) (tz : Int32) (wx wy : va_W) (H : Heap) (locs : List Loc) (ls : Array Slot), IX cI cC cS ad fq fim ln sn tz wx → IY cI cZ ay ln sn tz wy → va_P D vwCl (wx ++ wy) H → va_D A (wx ++ wy) → va_S A s.heap H locs → lv_has ls 4 [(3, .int i), (2, .ref (ay 0)), (1, .ref (ad 0)), (0, .ref b)] → W p l e room_1 s m #[Value.ref b] below meth c H locs 98 12032 (lw_Z below #[Value.ref b] s) (F0 m 1034 ls [])) {ln sn : Nat → Int32} {tz : Int32} {wx wy : va_W} {H : Heap} {locs : List Loc} {ls : Array Slot} (hX_ : IX cI cC cS ad fq fim ln sn tz wx) (hY_ : IY cI cZ ay ln sn tz wy) (hP : va_P D vwCl (wx ++ wy) H) (hD : va_D A (wx ++ wy)) (hS : va_S A s.heap H locs) (hl : lv_has ls 4 [(3, .int i), (2, .ref (ay 0)), (1, .ref (ad 0)), (0, .ref b)]) : W p l e room_1 s m #[Value.ref b] below meth c H locs 98 12032 (lw_Z below #[Value.ref b] s) (F0 m 421 ls []) := by
  obtain ⟨S, hr_, hk_, hX, hbl, hA, hAf⟩ := id C
  have hbA : ¬ A b := fun z => absurd (hAf b z) (Nat.not_le.mpr hbl)
  refine lv_aload_n S.1 S.2.1 dL_law_421 rfl (lv_at hl 2 rfl) ?_
  refine lv_aload_n S.1 S.2.1 dL_law_422 rfl (lv_at hl 3 rfl) ?_
  refine lv_iload_n S.1 S.2.1 dL_law_423 rfl (lv_at hl 0 rfl) ?_
  refine lv_iconst (v := (1)) S.1 S.2.1 dL_law_424 (by decide) ?_
  refine lv_iadd S.1 S.2.1 dL_law_425 ?_
  refine lv_topi (fun x_1 ex_1 => ?_)
  have tx_1 : x_1.toInt = i.toInt + (1) := addI (A := i.toInt) (B := 1) ex_1 rfl rfl (by omega) (by omega)
  refine va_sld S.1 S.2.1 hX hbl hbA hS (in_of (by omega) (by omega)) dL_law_426 ?_
  refine lv_topi (fun v_2 ev_2 => ?_)
  refine lv_aload_n S.1 S.2.1 dL_law_427 rfl (lv_at hl 3 rfl) ?_
  refine lv_iload_n S.1 S.2.1 dL_law_428 rfl (lv_at hl 0 rfl) ?_
  refine lv_iconst (v := (2)) S.1 S.2.1 dL_law_429 (by decide) ?_
  refine lv_iadd S.1 S.2.1 dL_law_430 ?_
  refine lv_topi (fun x_3 ex_3 => ?_)
  have tx_3 : x_3.toInt = i.toInt + (2) := addI (A := i.toInt) (B := 2) ex_3 rfl rfl (by omega) (by omega)
  refine va_sld S.1 S.2.1 hX hbl hbA hS (in_of (by omega) (by omega)) dL_law_431 ?_
  refine lv_topi (fun v_4 ev_4 => ?_)
  refine lv_aload_n S.1 S.2.1 dL_law_432 rfl (lv_at hl 3 rfl) ?_
  refine lv_iload_n S.1 S.2.1 dL_law_433 rfl (lv_at hl 0 rfl) ?_
  refine lv_iconst (v := (3)) S.1 S.2.1 dL_law_434 (by decide) ?_
  refine lv_iadd S.1 S.2.1 dL_law_435 ?_
  refine lv_topi (fun x_5 ex_5 => ?_)
  have tx_5 : x_5.toInt = i.toInt + (3) := addI (A := i.toInt) (B := 3) ex_5 rfl rfl (by omega) (by omega)
  refine va_sld S.1 S.2.1 hX hbl hbA hS (in_of (by omega) (by omega)) dL_law_436 ?_
  refine lv_topi (fun v_6 ev_6 => ?_)
  obtain ⟨fs_, he_⟩ := IX_0 hX_
  refine law_ci (C := RX8) (ci := 8) (As := [.int v_2, .int v_4, .int v_6]) (fX_look l D cI cZ cC cS sq H.size ad fq fim ln sn tz v_2 v_4 v_6 hX_) S gL_law_X8_look rfl hdV_X8_look ⟨Nat.le_of_ble_eq_true rfl, Nat.le_of_ble_eq_true rfl⟩ ⟨Nat.le_of_ble_eq_true rfl, Nat.le_of_ble_eq_true rfl⟩ hK hT hS hA hP hD rfl he_ rfl hl.1 rfl (Nat.le_of_ble_eq_true rfl) dL_law_437 (fun r1 wx H locs hw hP hD hS => ?_)
  have hX_ := hw
  refine lv_pop S.1 S.2.1 dL_law_440 rfl ?_
  refine lv_aload_n S.1 S.2.1 dL_law_441 rfl (lv_at hl 1 rfl) ?_
  refine lv_aload_n S.1 S.2.1 dL_law_442 rfl (lv_at hl 3 rfl) ?_
  refine lv_iload_n S.1 S.2.1 dL_law_443 rfl (lv_at hl 0 rfl) ?_
  refine lv_iconst (v := (1)) S.1 S.2.1 dL_law_444 (by decide) ?_
  refine lv_iadd S.1 S.2.1 dL_law_445 ?_
  refine lv_topi (fun x_7 ex_7 => ?_)
  have qx_7 : x_1 = x_7 := ex_1.trans ex_7.symm
  subst qx_7
  refine va_sld S.1 S.2.1 hX hbl hbA hS (in_of (by omega) (by omega)) dL_law_446 ?_
  refine lv_topi (fun v_8 ev_8 => ?_)
  have qv_8 : v_2 = v_8 := ev_2.trans ev_8.symm
  subst qv_8
  refine lv_aload_n S.1 S.2.1 dL_law_447 rfl (lv_at hl 3 rfl) ?_
  refine lv_iload_n S.1 S.2.1 dL_law_448 rfl (lv_at hl 0 rfl) ?_
  refine lv_iconst (v := (2)) S.1 S.2.1 dL_law_449 (by decide) ?_
  refine lv_iadd S.1 S.2.1 dL_law_450 ?_
  refine lv_topi (fun x_9 ex_9 => ?_)
  have qx_9 : x_3 = x_9 := ex_3.trans ex_9.symm
  subst qx_9
  refine va_sld S.1 S.2.1 hX hbl hbA hS (in_of (by omega) (by omega)) dL_law_451 ?_
  refine lv_topi (fun v_10 ev_10 => ?_)
  have qv_10 : v_4 = v_10 := ev_4.trans ev_10.symm
  subst qv_10
  refine lv_aload_n S.1 S.2.1 dL_law_452 rfl (lv_at hl 3 rfl) ?_
  refine lv_iload_n S.1 S.2.1 dL_law_453 rfl (lv_at hl 0 rfl) ?_
  refine lv_iconst (v := (3)) S.1 S.2.1 dL_law_454 (by decide) ?_
  refine lv_iadd S.1 S.2.1 dL_law_455 ?_
  refine lv_topi (fun x_11 ex_11 => ?_)
  have qx_11 : x_5 = x_11 := ex_5.trans ex_11.symm
  subst qx_11
  refine va_sld S.1 S.2.1 hX hbl hbA hS (in_of (by omega) (by omega)) dL_law_456 ?_
  refine lv_topi (fun v_12 ev_12 => ?_)
  have qv_12 : v_6 = v_12 := ev_6.trans ev_12.symm
  subst qv_12
  obtain ⟨fs_, he_⟩ := IY_0 hY_
  refine law_ci (C := RX9) (ci := 9) (As := [.int v_2, .int v_4, .int v_6]) (fY_look l D cI cZ cC cS sq H.size ay ln sn tz v_2 v_4 v_6 hY_) S gL_law_X9_look rfl hdV_X9_look ⟨Nat.le_of_ble_eq_true rfl, Nat.le_of_ble_eq_true rfl⟩ ⟨Nat.le_of_ble_eq_true rfl, Nat.le_of_ble_eq_true rfl⟩ hK hT hS hA hP hD rfl he_ rfl hl.1 rfl (Nat.le_of_ble_eq_true rfl) dL_law_457 (fun r2 wy H locs hw hP hD hS => ?_)
  have hY_ := hw
  refine lv_pop S.1 S.2.1 dL_law_460 rfl ?_
  refine lv_goto (tgt := 1034) S.1 S.2.1 dL_law_461 (by decide) ?_
  exact K ln sn tz wx wy H _ ls hX_ hY_ hP hD hS hl
set_option maxHeartbeats 4000000 in
set_option maxRecDepth 100000 in
theorem law_price {p : Program} (l : Launch) {e : Env} {s : State} {m : MethodId} {below : List Frame} {meth : Method} {c : Code} (D : va_G) (cI cZ cC cS : ClassId) (sq : Nat → Nat) {b L : Nat} {sc : Nat → Int32} {A : Nat → Prop} (C : lC p s m meth c b L sc A) (hK : kW D (tyW cI cZ cC cS) sq s) (hT : sT sq A s s.heap) (ad ay : Nat → Nat) (fq fim : Nat → Option Nat) (hL : L ≤ 3072) (i : Int32) (hi : 0 ≤ i.toInt ∧ i.toInt + 6 ≤ L) (K : ∀ (ln sn : Nat → Int32) (tz : Int32) (wx wy : va_W) (H : Heap) (locs : List Loc) (ls : Array Slot), IX cI cC cS ad fq fim ln sn tz wx → IY cI cZ ay ln sn tz wy → va_P D vwCl (wx ++ wy) H → va_D A (wx ++ wy) → va_S A s.heap H locs → lv_has ls 4 [(3, .int i), (2, .ref (ay 0)), (1, .ref (ad 0)), (0, .ref b)] → W p l e room_1 s m #[Value.ref b] below meth c H locs 98 12032 (lw_Z below #[Value.ref b] s) (F0 m 1034 ls [])) {ln sn : Nat → Int32} {tz : Int32} {wx wy : va_W} {H : Heap} {locs : List Loc} {ls : Array Slot} (hX_ : IX cI cC cS ad fq fim ln sn tz wx) (hY_ : IY cI cZ ay ln sn tz wy) (hP : va_P D vwCl (wx ++ wy) H) (hD : va_D A (wx ++ wy)) (hS : va_S A s.heap H locs) (hl : lv_has ls 4 [(3, .int i), (2, .ref (ay 0)), (1, .ref (ad 0)), (0, .ref b)]) : W p l e room_1 s m #[Value.ref b] below meth c H locs 98 12032 (lw_Z below #[Value.ref b] s) (F0 m 464 ls []) := by
  obtain ⟨S, hr_, hk_, hX, hbl, hA, hAf⟩ := id C
  have hbA : ¬ A b := fun z => absurd (hAf b z) (Nat.not_le.mpr hbl)
  refine lv_aload_n S.1 S.2.1 dL_law_464 rfl (lv_at hl 2 rfl) ?_
  refine lv_aload_n S.1 S.2.1 dL_law_465 rfl (lv_at hl 3 rfl) ?_
  refine lv_iload_n S.1 S.2.1 dL_law_466 rfl (lv_at hl 0 rfl) ?_
  refine lv_iconst (v := (1)) S.1 S.2.1 dL_law_467 (by decide) ?_
  refine lv_iadd S.1 S.2.1 dL_law_468 ?_
  refine lv_topi (fun x_1 ex_1 => ?_)
  have tx_1 : x_1.toInt = i.toInt + (1) := addI (A := i.toInt) (B := 1) ex_1 rfl rfl (by omega) (by omega)
  refine va_sld S.1 S.2.1 hX hbl hbA hS (in_of (by omega) (by omega)) dL_law_469 ?_
  refine lv_topi (fun v_2 ev_2 => ?_)
  refine lv_aload_n S.1 S.2.1 dL_law_470 rfl (lv_at hl 3 rfl) ?_
  refine lv_iload_n S.1 S.2.1 dL_law_471 rfl (lv_at hl 0 rfl) ?_
  refine lv_iconst (v := (2)) S.1 S.2.1 dL_law_472 (by decide) ?_
  refine lv_iadd S.1 S.2.1 dL_law_473 ?_
  refine lv_topi (fun x_3 ex_3 => ?_)
  have tx_3 : x_3.toInt = i.toInt + (2) := addI (A := i.toInt) (B := 2) ex_3 rfl rfl (by omega) (by omega)
  refine va_sld S.1 S.2.1 hX hbl hbA hS (in_of (by omega) (by omega)) dL_law_474 ?_
  refine lv_topi (fun v_4 ev_4 => ?_)
  obtain ⟨fs_, he_⟩ := IX_0 hX_
  refine law_ci (C := RX8) (ci := 8) (As := [.int v_2, .int v_4]) (fX_price l D cI cZ cC cS sq H.size ad fq fim ln sn tz v_2 v_4 hX_) S gL_law_X8_price rfl hdV_X8_price ⟨Nat.le_of_ble_eq_true rfl, Nat.le_of_ble_eq_true rfl⟩ ⟨Nat.le_of_ble_eq_true rfl, Nat.le_of_ble_eq_true rfl⟩ hK hT hS hA hP hD rfl he_ rfl hl.1 rfl (Nat.le_of_ble_eq_true rfl) dL_law_475 (fun r1 wx H locs hw hP hD hS => ?_)
  have hX_ := hw
  refine lv_pop S.1 S.2.1 dL_law_478 rfl ?_
  refine lv_aload_n S.1 S.2.1 dL_law_479 rfl (lv_at hl 1 rfl) ?_
  refine lv_aload_n S.1 S.2.1 dL_law_480 rfl (lv_at hl 3 rfl) ?_
  refine lv_iload_n S.1 S.2.1 dL_law_481 rfl (lv_at hl 0 rfl) ?_
  refine lv_iconst (v := (1)) S.1 S.2.1 dL_law_482 (by decide) ?_
  refine lv_iadd S.1 S.2.1 dL_law_483 ?_
  refine lv_topi (fun x_5 ex_5 => ?_)
  have qx_5 : x_1 = x_5 := ex_1.trans ex_5.symm
  subst qx_5
  refine va_sld S.1 S.2.1 hX hbl hbA hS (in_of (by omega) (by omega)) dL_law_484 ?_
  refine lv_topi (fun v_6 ev_6 => ?_)
  have qv_6 : v_2 = v_6 := ev_2.trans ev_6.symm
  subst qv_6
  refine lv_aload_n S.1 S.2.1 dL_law_485 rfl (lv_at hl 3 rfl) ?_
  refine lv_iload_n S.1 S.2.1 dL_law_486 rfl (lv_at hl 0 rfl) ?_
  refine lv_iconst (v := (2)) S.1 S.2.1 dL_law_487 (by decide) ?_
  refine lv_iadd S.1 S.2.1 dL_law_488 ?_
  refine lv_topi (fun x_7 ex_7 => ?_)
  have qx_7 : x_3 = x_7 := ex_3.trans ex_7.symm
  subst qx_7
  refine va_sld S.1 S.2.1 hX hbl hbA hS (in_of (by omega) (by omega)) dL_law_489 ?_
  refine lv_topi (fun v_8 ev_8 => ?_)
  have qv_8 : v_4 = v_8 := ev_4.trans ev_8.symm
  subst qv_8
  obtain ⟨fs_, he_⟩ := IY_0 hY_
  refine law_ci (C := RX9) (ci := 9) (As := [.int v_2, .int v_4]) (fY_price l D cI cZ cC cS sq H.size ay ln sn tz v_2 v_4 hY_) S gL_law_X9_price rfl hdV_X9_price ⟨Nat.le_of_ble_eq_true rfl, Nat.le_of_ble_eq_true rfl⟩ ⟨Nat.le_of_ble_eq_true rfl, Nat.le_of_ble_eq_true rfl⟩ hK hT hS hA hP hD rfl he_ rfl hl.1 rfl (Nat.le_of_ble_eq_true rfl) dL_law_490 (fun r2 wy H locs hw hP hD hS => ?_)
  have hY_ := hw
  refine lv_pop S.1 S.2.1 dL_law_493 rfl ?_
  refine lv_goto (tgt := 1034) S.1 S.2.1 dL_law_494 (by decide) ?_
  exact K ln sn tz wx wy H _ ls hX_ hY_ hP hD hS hl
set_option maxHeartbeats 4000000 in
set_option maxRecDepth 100000 in
theorem law_step {p : Program} (l : Launch) {e : Env} {s : State} {m : MethodId} {below : List Frame} {meth : Method} {c : Code} (D : va_G) (cI cZ cC cS : ClassId) (sq : Nat → Nat) {b L : Nat} {sc : Nat → Int32} {A : Nat → Prop} (C : lC p s m meth c b L sc A) (hK : kW D (tyW cI cZ cC cS) sq s) (hT : sT sq A s s.heap) (ad ay : Nat → Nat) (fq fim : Nat → Option Nat) (hL : L ≤ 3072) (i : Int32) (hi : 0 ≤ i.toInt ∧ i.toInt + 6 ≤ L) (K : ∀ (ln sn : Nat → Int32) (tz : Int32) (wx wy : va_W) (H : Heap) (locs : List Loc) (ls : Array Slot), IX cI cC cS ad fq fim ln sn tz wx → IY cI cZ ay ln sn tz wy → va_P D vwCl (wx ++ wy) H → va_D A (wx ++ wy) → va_S A s.heap H locs → lv_has ls 4 [(3, .int i), (2, .ref (ay 0)), (1, .ref (ad 0)), (0, .ref b)] → W p l e room_1 s m #[Value.ref b] below meth c H locs 98 12032 (lw_Z below #[Value.ref b] s) (F0 m 1034 ls [])) {ln sn : Nat → Int32} {tz : Int32} {wx wy : va_W} {H : Heap} {locs : List Loc} {ls : Array Slot} (hX_ : IX cI cC cS ad fq fim ln sn tz wx) (hY_ : IY cI cZ ay ln sn tz wy) (hP : va_P D vwCl (wx ++ wy) H) (hD : va_D A (wx ++ wy)) (hS : va_S A s.heap H locs) (hl : lv_has ls 4 [(3, .int i), (2, .ref (ay 0)), (1, .ref (ad 0)), (0, .ref b)]) : W p l e room_1 s m #[Value.ref b] below meth c H locs 98 12032 (lw_Z below #[Value.ref b] s) (F0 m 497 ls []) := by
  obtain ⟨S, hr_, hk_, hX, hbl, hA, hAf⟩ := id C
  have hbA : ¬ A b := fun z => absurd (hAf b z) (Nat.not_le.mpr hbl)
  refine lv_aload_n S.1 S.2.1 dL_law_497 rfl (lv_at hl 2 rfl) ?_
  refine lv_aload_n S.1 S.2.1 dL_law_498 rfl (lv_at hl 3 rfl) ?_
  refine lv_iload_n S.1 S.2.1 dL_law_499 rfl (lv_at hl 0 rfl) ?_
  refine lv_iconst (v := (1)) S.1 S.2.1 dL_law_500 (by decide) ?_
  refine lv_iadd S.1 S.2.1 dL_law_501 ?_
  refine lv_topi (fun x_1 ex_1 => ?_)
  have tx_1 : x_1.toInt = i.toInt + (1) := addI (A := i.toInt) (B := 1) ex_1 rfl rfl (by omega) (by omega)
  refine va_sld S.1 S.2.1 hX hbl hbA hS (in_of (by omega) (by omega)) dL_law_502 ?_
  refine lv_topi (fun v_2 ev_2 => ?_)
  refine lv_aload_n S.1 S.2.1 dL_law_503 rfl (lv_at hl 3 rfl) ?_
  refine lv_iload_n S.1 S.2.1 dL_law_504 rfl (lv_at hl 0 rfl) ?_
  refine lv_iconst (v := (2)) S.1 S.2.1 dL_law_505 (by decide) ?_
  refine lv_iadd S.1 S.2.1 dL_law_506 ?_
  refine lv_topi (fun x_3 ex_3 => ?_)
  have tx_3 : x_3.toInt = i.toInt + (2) := addI (A := i.toInt) (B := 2) ex_3 rfl rfl (by omega) (by omega)
  refine va_sld S.1 S.2.1 hX hbl hbA hS (in_of (by omega) (by omega)) dL_law_507 ?_
  refine lv_topi (fun v_4 ev_4 => ?_)
  obtain ⟨fs_, he_⟩ := IX_0 hX_
  refine law_ci (C := RX8) (ci := 8) (As := [.int v_2, .int v_4]) (fX_step l D cI cZ cC cS sq H.size ad fq fim ln sn tz v_2 v_4 hX_) S gL_law_X8_step rfl hdV_X8_step ⟨Nat.le_of_ble_eq_true rfl, Nat.le_of_ble_eq_true rfl⟩ ⟨Nat.le_of_ble_eq_true rfl, Nat.le_of_ble_eq_true rfl⟩ hK hT hS hA hP hD rfl he_ rfl hl.1 rfl (Nat.le_of_ble_eq_true rfl) dL_law_508 (fun r1 wx H locs hw hP hD hS => ?_)
  have hX_ := hw
  refine lv_pop S.1 S.2.1 dL_law_511 rfl ?_
  refine lv_aload_n S.1 S.2.1 dL_law_512 rfl (lv_at hl 1 rfl) ?_
  refine lv_aload_n S.1 S.2.1 dL_law_513 rfl (lv_at hl 3 rfl) ?_
  refine lv_iload_n S.1 S.2.1 dL_law_514 rfl (lv_at hl 0 rfl) ?_
  refine lv_iconst (v := (1)) S.1 S.2.1 dL_law_515 (by decide) ?_
  refine lv_iadd S.1 S.2.1 dL_law_516 ?_
  refine lv_topi (fun x_5 ex_5 => ?_)
  have qx_5 : x_1 = x_5 := ex_1.trans ex_5.symm
  subst qx_5
  refine va_sld S.1 S.2.1 hX hbl hbA hS (in_of (by omega) (by omega)) dL_law_517 ?_
  refine lv_topi (fun v_6 ev_6 => ?_)
  have qv_6 : v_2 = v_6 := ev_2.trans ev_6.symm
  subst qv_6
  refine lv_aload_n S.1 S.2.1 dL_law_518 rfl (lv_at hl 3 rfl) ?_
  refine lv_iload_n S.1 S.2.1 dL_law_519 rfl (lv_at hl 0 rfl) ?_
  refine lv_iconst (v := (2)) S.1 S.2.1 dL_law_520 (by decide) ?_
  refine lv_iadd S.1 S.2.1 dL_law_521 ?_
  refine lv_topi (fun x_7 ex_7 => ?_)
  have qx_7 : x_3 = x_7 := ex_3.trans ex_7.symm
  subst qx_7
  refine va_sld S.1 S.2.1 hX hbl hbA hS (in_of (by omega) (by omega)) dL_law_522 ?_
  refine lv_topi (fun v_8 ev_8 => ?_)
  have qv_8 : v_4 = v_8 := ev_4.trans ev_8.symm
  subst qv_8
  obtain ⟨fs_, he_⟩ := IY_0 hY_
  refine law_ci (C := RX9) (ci := 9) (As := [.int v_2, .int v_4]) (fY_step l D cI cZ cC cS sq H.size ay ln sn tz v_2 v_4 hY_) S gL_law_X9_step rfl hdV_X9_step ⟨Nat.le_of_ble_eq_true rfl, Nat.le_of_ble_eq_true rfl⟩ ⟨Nat.le_of_ble_eq_true rfl, Nat.le_of_ble_eq_true rfl⟩ hK hT hS hA hP hD rfl he_ rfl hl.1 rfl (Nat.le_of_ble_eq_true rfl) dL_law_523 (fun r2 wy H locs hw hP hD hS => ?_)
  have hY_ := hw
  refine lv_pop S.1 S.2.1 dL_law_526 rfl ?_
  refine lv_goto (tgt := 1034) S.1 S.2.1 dL_law_527 (by decide) ?_
  exact K ln sn tz wx wy H _ ls hX_ hY_ hP hD hS hl
set_option maxHeartbeats 4000000 in
set_option maxRecDepth 100000 in
theorem law_walk {p : Program} (l : Launch) {e : Env} {s : State} {m : MethodId} {below : List Frame} {meth : Method} {c : Code} (D : va_G) (cI cZ cC cS : ClassId) (sq : Nat → Nat) {b L : Nat} {sc : Nat → Int32} {A : Nat → Prop} (C : lC p s m meth c b L sc A) (hK : kW D (tyW cI cZ cC cS) sq s) (hT : sT sq A s s.heap) (ad ay : Nat → Nat) (fq fim : Nat → Option Nat) (hL : L ≤ 3072) (i : Int32) (hi : 0 ≤ i.toInt ∧ i.toInt + 6 ≤ L) (K : ∀ (ln sn : Nat → Int32) (tz : Int32) (wx wy : va_W) (H : Heap) (locs : List Loc) (ls : Array Slot), IX cI cC cS ad fq fim ln sn tz wx → IY cI cZ ay ln sn tz wy → va_P D vwCl (wx ++ wy) H → va_D A (wx ++ wy) → va_S A s.heap H locs → lv_has ls 4 [(3, .int i), (2, .ref (ay 0)), (1, .ref (ad 0)), (0, .ref b)] → W p l e room_1 s m #[Value.ref b] below meth c H locs 98 12032 (lw_Z below #[Value.ref b] s) (F0 m 1034 ls [])) {ln sn : Nat → Int32} {tz : Int32} {wx wy : va_W} {H : Heap} {locs : List Loc} {ls : Array Slot} (hX_ : IX cI cC cS ad fq fim ln sn tz wx) (hY_ : IY cI cZ ay ln sn tz wy) (hP : va_P D vwCl (wx ++ wy) H) (hD : va_D A (wx ++ wy)) (hS : va_S A s.heap H locs) (hl : lv_has ls 4 [(3, .int i), (2, .ref (ay 0)), (1, .ref (ad 0)), (0, .ref b)]) : W p l e room_1 s m #[Value.ref b] below meth c H locs 98 12032 (lw_Z below #[Value.ref b] s) (F0 m 530 ls []) := by
  obtain ⟨S, hr_, hk_, hX, hbl, hA, hAf⟩ := id C
  have hbA : ¬ A b := fun z => absurd (hAf b z) (Nat.not_le.mpr hbl)
  refine lv_aload_n S.1 S.2.1 dL_law_530 rfl (lv_at hl 2 rfl) ?_
  refine lv_aload_n S.1 S.2.1 dL_law_531 rfl (lv_at hl 3 rfl) ?_
  refine lv_iload_n S.1 S.2.1 dL_law_532 rfl (lv_at hl 0 rfl) ?_
  refine lv_iconst (v := (1)) S.1 S.2.1 dL_law_533 (by decide) ?_
  refine lv_iadd S.1 S.2.1 dL_law_534 ?_
  refine lv_topi (fun x_1 ex_1 => ?_)
  have tx_1 : x_1.toInt = i.toInt + (1) := addI (A := i.toInt) (B := 1) ex_1 rfl rfl (by omega) (by omega)
  refine va_sld S.1 S.2.1 hX hbl hbA hS (in_of (by omega) (by omega)) dL_law_535 ?_
  refine lv_topi (fun v_2 ev_2 => ?_)
  refine lv_aload_n S.1 S.2.1 dL_law_536 rfl (lv_at hl 3 rfl) ?_
  refine lv_iload_n S.1 S.2.1 dL_law_537 rfl (lv_at hl 0 rfl) ?_
  refine lv_iconst (v := (2)) S.1 S.2.1 dL_law_538 (by decide) ?_
  refine lv_iadd S.1 S.2.1 dL_law_539 ?_
  refine lv_topi (fun x_3 ex_3 => ?_)
  have tx_3 : x_3.toInt = i.toInt + (2) := addI (A := i.toInt) (B := 2) ex_3 rfl rfl (by omega) (by omega)
  refine va_sld S.1 S.2.1 hX hbl hbA hS (in_of (by omega) (by omega)) dL_law_540 ?_
  refine lv_topi (fun v_4 ev_4 => ?_)
  refine lv_aload_n S.1 S.2.1 dL_law_541 rfl (lv_at hl 3 rfl) ?_
  refine lv_iload_n S.1 S.2.1 dL_law_542 rfl (lv_at hl 0 rfl) ?_
  refine lv_iconst (v := (3)) S.1 S.2.1 dL_law_543 (by decide) ?_
  refine lv_iadd S.1 S.2.1 dL_law_544 ?_
  refine lv_topi (fun x_5 ex_5 => ?_)
  have tx_5 : x_5.toInt = i.toInt + (3) := addI (A := i.toInt) (B := 3) ex_5 rfl rfl (by omega) (by omega)
  refine va_sld S.1 S.2.1 hX hbl hbA hS (in_of (by omega) (by omega)) dL_law_545 ?_
  refine lv_topi (fun v_6 ev_6 => ?_)
  refine lv_aload_n S.1 S.2.1 dL_law_546 rfl (lv_at hl 3 rfl) ?_
  refine lv_iload_n S.1 S.2.1 dL_law_547 rfl (lv_at hl 0 rfl) ?_
  refine lv_iconst (v := (4)) S.1 S.2.1 dL_law_548 (by decide) ?_
  refine lv_iadd S.1 S.2.1 dL_law_549 ?_
  refine lv_topi (fun x_7 ex_7 => ?_)
  have tx_7 : x_7.toInt = i.toInt + (4) := addI (A := i.toInt) (B := 4) ex_7 rfl rfl (by omega) (by omega)
  refine va_sld S.1 S.2.1 hX hbl hbA hS (in_of (by omega) (by omega)) dL_law_550 ?_
  refine lv_topi (fun v_8 ev_8 => ?_)
  obtain ⟨fs_, he_⟩ := IX_0 hX_
  refine law_ci (C := RX8) (ci := 8) (As := [.int v_2, .int v_4, .int v_6, .int v_8]) (fX_walk l D cI cZ cC cS sq H.size ad fq fim ln sn tz v_2 v_4 v_6 v_8 hX_) S gL_law_X8_walk rfl hdV_X8_walk ⟨Nat.le_of_ble_eq_true rfl, Nat.le_of_ble_eq_true rfl⟩ ⟨Nat.le_of_ble_eq_true rfl, Nat.le_of_ble_eq_true rfl⟩ hK hT hS hA hP hD rfl he_ rfl hl.1 rfl (Nat.le_of_ble_eq_true rfl) dL_law_551 (fun r1 wx H locs hw hP hD hS => ?_)
  have hX_ := hw
  refine lv_pop S.1 S.2.1 dL_law_554 rfl ?_
  refine lv_aload_n S.1 S.2.1 dL_law_555 rfl (lv_at hl 1 rfl) ?_
  refine lv_aload_n S.1 S.2.1 dL_law_556 rfl (lv_at hl 3 rfl) ?_
  refine lv_iload_n S.1 S.2.1 dL_law_557 rfl (lv_at hl 0 rfl) ?_
  refine lv_iconst (v := (1)) S.1 S.2.1 dL_law_558 (by decide) ?_
  refine lv_iadd S.1 S.2.1 dL_law_559 ?_
  refine lv_topi (fun x_9 ex_9 => ?_)
  have qx_9 : x_1 = x_9 := ex_1.trans ex_9.symm
  subst qx_9
  refine va_sld S.1 S.2.1 hX hbl hbA hS (in_of (by omega) (by omega)) dL_law_560 ?_
  refine lv_topi (fun v_10 ev_10 => ?_)
  have qv_10 : v_2 = v_10 := ev_2.trans ev_10.symm
  subst qv_10
  refine lv_aload_n S.1 S.2.1 dL_law_561 rfl (lv_at hl 3 rfl) ?_
  refine lv_iload_n S.1 S.2.1 dL_law_562 rfl (lv_at hl 0 rfl) ?_
  refine lv_iconst (v := (2)) S.1 S.2.1 dL_law_563 (by decide) ?_
  refine lv_iadd S.1 S.2.1 dL_law_564 ?_
  refine lv_topi (fun x_11 ex_11 => ?_)
  have qx_11 : x_3 = x_11 := ex_3.trans ex_11.symm
  subst qx_11
  refine va_sld S.1 S.2.1 hX hbl hbA hS (in_of (by omega) (by omega)) dL_law_565 ?_
  refine lv_topi (fun v_12 ev_12 => ?_)
  have qv_12 : v_4 = v_12 := ev_4.trans ev_12.symm
  subst qv_12
  refine lv_aload_n S.1 S.2.1 dL_law_566 rfl (lv_at hl 3 rfl) ?_
  refine lv_iload_n S.1 S.2.1 dL_law_567 rfl (lv_at hl 0 rfl) ?_
  refine lv_iconst (v := (3)) S.1 S.2.1 dL_law_568 (by decide) ?_
  refine lv_iadd S.1 S.2.1 dL_law_569 ?_
  refine lv_topi (fun x_13 ex_13 => ?_)
  have qx_13 : x_5 = x_13 := ex_5.trans ex_13.symm
  subst qx_13
  refine va_sld S.1 S.2.1 hX hbl hbA hS (in_of (by omega) (by omega)) dL_law_570 ?_
  refine lv_topi (fun v_14 ev_14 => ?_)
  have qv_14 : v_6 = v_14 := ev_6.trans ev_14.symm
  subst qv_14
  refine lv_aload_n S.1 S.2.1 dL_law_571 rfl (lv_at hl 3 rfl) ?_
  refine lv_iload_n S.1 S.2.1 dL_law_572 rfl (lv_at hl 0 rfl) ?_
  refine lv_iconst (v := (4)) S.1 S.2.1 dL_law_573 (by decide) ?_
  refine lv_iadd S.1 S.2.1 dL_law_574 ?_
  refine lv_topi (fun x_15 ex_15 => ?_)
  have qx_15 : x_7 = x_15 := ex_7.trans ex_15.symm
  subst qx_15
  refine va_sld S.1 S.2.1 hX hbl hbA hS (in_of (by omega) (by omega)) dL_law_575 ?_
  refine lv_topi (fun v_16 ev_16 => ?_)
  have qv_16 : v_8 = v_16 := ev_8.trans ev_16.symm
  subst qv_16
  obtain ⟨fs_, he_⟩ := IY_0 hY_
  refine law_ci (C := RX9) (ci := 9) (As := [.int v_2, .int v_4, .int v_6, .int v_8]) (fY_walk l D cI cZ cC cS sq H.size ay ln sn tz v_2 v_4 v_6 v_8 hY_) S gL_law_X9_walk rfl hdV_X9_walk ⟨Nat.le_of_ble_eq_true rfl, Nat.le_of_ble_eq_true rfl⟩ ⟨Nat.le_of_ble_eq_true rfl, Nat.le_of_ble_eq_true rfl⟩ hK hT hS hA hP hD rfl he_ rfl hl.1 rfl (Nat.le_of_ble_eq_true rfl) dL_law_576 (fun r2 wy H locs hw hP hD hS => ?_)
  have hY_ := hw
  refine lv_pop S.1 S.2.1 dL_law_579 rfl ?_
  refine lv_goto (tgt := 1034) S.1 S.2.1 dL_law_580 (by decide) ?_
  exact K ln sn tz wx wy H _ ls hX_ hY_ hP hD hS hl
set_option maxHeartbeats 4000000 in
set_option maxRecDepth 100000 in
theorem law_person {p : Program} (l : Launch) {e : Env} {s : State} {m : MethodId} {below : List Frame} {meth : Method} {c : Code} (D : va_G) (cI cZ cC cS : ClassId) (sq : Nat → Nat) {b L : Nat} {sc : Nat → Int32} {A : Nat → Prop} (C : lC p s m meth c b L sc A) (hK : kW D (tyW cI cZ cC cS) sq s) (hT : sT sq A s s.heap) (ad ay : Nat → Nat) (fq fim : Nat → Option Nat) (hL : L ≤ 3072) (i : Int32) (hi : 0 ≤ i.toInt ∧ i.toInt + 6 ≤ L) (K : ∀ (ln sn : Nat → Int32) (tz : Int32) (wx wy : va_W) (H : Heap) (locs : List Loc) (ls : Array Slot), IX cI cC cS ad fq fim ln sn tz wx → IY cI cZ ay ln sn tz wy → va_P D vwCl (wx ++ wy) H → va_D A (wx ++ wy) → va_S A s.heap H locs → lv_has ls 4 [(3, .int i), (2, .ref (ay 0)), (1, .ref (ad 0)), (0, .ref b)] → W p l e room_1 s m #[Value.ref b] below meth c H locs 98 12032 (lw_Z below #[Value.ref b] s) (F0 m 1034 ls [])) {ln sn : Nat → Int32} {tz : Int32} {wx wy : va_W} {H : Heap} {locs : List Loc} {ls : Array Slot} (hX_ : IX cI cC cS ad fq fim ln sn tz wx) (hY_ : IY cI cZ ay ln sn tz wy) (hP : va_P D vwCl (wx ++ wy) H) (hD : va_D A (wx ++ wy)) (hS : va_S A s.heap H locs) (hl : lv_has ls 4 [(3, .int i), (2, .ref (ay 0)), (1, .ref (ad 0)), (0, .ref b)]) : W p l e room_1 s m #[Value.ref b] below meth c H locs 98 12032 (lw_Z below #[Value.ref b] s) (F0 m 583 ls []) := by
  obtain ⟨S, hr_, hk_, hX, hbl, hA, hAf⟩ := id C
  have hbA : ¬ A b := fun z => absurd (hAf b z) (Nat.not_le.mpr hbl)
  refine lv_aload_n S.1 S.2.1 dL_law_583 rfl (lv_at hl 2 rfl) ?_
  refine lv_aload_n S.1 S.2.1 dL_law_584 rfl (lv_at hl 3 rfl) ?_
  refine lv_iload_n S.1 S.2.1 dL_law_585 rfl (lv_at hl 0 rfl) ?_
  refine lv_iconst (v := (1)) S.1 S.2.1 dL_law_586 (by decide) ?_
  refine lv_iadd S.1 S.2.1 dL_law_587 ?_
  refine lv_topi (fun x_1 ex_1 => ?_)
  have tx_1 : x_1.toInt = i.toInt + (1) := addI (A := i.toInt) (B := 1) ex_1 rfl rfl (by omega) (by omega)
  refine va_sld S.1 S.2.1 hX hbl hbA hS (in_of (by omega) (by omega)) dL_law_588 ?_
  refine lv_topi (fun v_2 ev_2 => ?_)
  refine lv_aload_n S.1 S.2.1 dL_law_589 rfl (lv_at hl 3 rfl) ?_
  refine lv_iload_n S.1 S.2.1 dL_law_590 rfl (lv_at hl 0 rfl) ?_
  refine lv_iconst (v := (2)) S.1 S.2.1 dL_law_591 (by decide) ?_
  refine lv_iadd S.1 S.2.1 dL_law_592 ?_
  refine lv_topi (fun x_3 ex_3 => ?_)
  have tx_3 : x_3.toInt = i.toInt + (2) := addI (A := i.toInt) (B := 2) ex_3 rfl rfl (by omega) (by omega)
  refine va_sld S.1 S.2.1 hX hbl hbA hS (in_of (by omega) (by omega)) dL_law_593 ?_
  refine lv_topi (fun v_4 ev_4 => ?_)
  obtain ⟨fs_, he_⟩ := IX_0 hX_
  refine law_ci (C := RX8) (ci := 8) (As := [.int v_2, .int v_4]) (fX_person l D cI cZ cC cS sq H.size ad fq fim ln sn tz v_2 v_4 hX_) S gL_law_X8_person rfl hdV_X8_person ⟨Nat.le_of_ble_eq_true rfl, Nat.le_of_ble_eq_true rfl⟩ ⟨Nat.le_of_ble_eq_true rfl, Nat.le_of_ble_eq_true rfl⟩ hK hT hS hA hP hD rfl he_ rfl hl.1 rfl (Nat.le_of_ble_eq_true rfl) dL_law_594 (fun r1 wx H locs hw hP hD hS => ?_)
  have hX_ := hw
  refine lv_pop S.1 S.2.1 dL_law_597 rfl ?_
  refine lv_aload_n S.1 S.2.1 dL_law_598 rfl (lv_at hl 1 rfl) ?_
  refine lv_aload_n S.1 S.2.1 dL_law_599 rfl (lv_at hl 3 rfl) ?_
  refine lv_iload_n S.1 S.2.1 dL_law_600 rfl (lv_at hl 0 rfl) ?_
  refine lv_iconst (v := (1)) S.1 S.2.1 dL_law_601 (by decide) ?_
  refine lv_iadd S.1 S.2.1 dL_law_602 ?_
  refine lv_topi (fun x_5 ex_5 => ?_)
  have qx_5 : x_1 = x_5 := ex_1.trans ex_5.symm
  subst qx_5
  refine va_sld S.1 S.2.1 hX hbl hbA hS (in_of (by omega) (by omega)) dL_law_603 ?_
  refine lv_topi (fun v_6 ev_6 => ?_)
  have qv_6 : v_2 = v_6 := ev_2.trans ev_6.symm
  subst qv_6
  refine lv_aload_n S.1 S.2.1 dL_law_604 rfl (lv_at hl 3 rfl) ?_
  refine lv_iload_n S.1 S.2.1 dL_law_605 rfl (lv_at hl 0 rfl) ?_
  refine lv_iconst (v := (2)) S.1 S.2.1 dL_law_606 (by decide) ?_
  refine lv_iadd S.1 S.2.1 dL_law_607 ?_
  refine lv_topi (fun x_7 ex_7 => ?_)
  have qx_7 : x_3 = x_7 := ex_3.trans ex_7.symm
  subst qx_7
  refine va_sld S.1 S.2.1 hX hbl hbA hS (in_of (by omega) (by omega)) dL_law_608 ?_
  refine lv_topi (fun v_8 ev_8 => ?_)
  have qv_8 : v_4 = v_8 := ev_4.trans ev_8.symm
  subst qv_8
  obtain ⟨fs_, he_⟩ := IY_0 hY_
  refine law_ci (C := RX9) (ci := 9) (As := [.int v_2, .int v_4]) (fY_person l D cI cZ cC cS sq H.size ay ln sn tz v_2 v_4 hY_) S gL_law_X9_person rfl hdV_X9_person ⟨Nat.le_of_ble_eq_true rfl, Nat.le_of_ble_eq_true rfl⟩ ⟨Nat.le_of_ble_eq_true rfl, Nat.le_of_ble_eq_true rfl⟩ hK hT hS hA hP hD rfl he_ rfl hl.1 rfl (Nat.le_of_ble_eq_true rfl) dL_law_609 (fun r2 wy H locs hw hP hD hS => ?_)
  have hY_ := hw
  refine lv_pop S.1 S.2.1 dL_law_612 rfl ?_
  refine lv_goto (tgt := 1034) S.1 S.2.1 dL_law_613 (by decide) ?_
  exact K ln sn tz wx wy H _ ls hX_ hY_ hP hD hS hl
set_option maxHeartbeats 4000000 in
set_option maxRecDepth 100000 in
theorem law_got {p : Program} (l : Launch) {e : Env} {s : State} {m : MethodId} {below : List Frame} {meth : Method} {c : Code} (D : va_G) (cI cZ cC cS : ClassId) (sq : Nat → Nat) {b L : Nat} {sc : Nat → Int32} {A : Nat → Prop} (C : lC p s m meth c b L sc A) (hK : kW D (tyW cI cZ cC cS) sq s) (hT : sT sq A s s.heap) (ad ay : Nat → Nat) (fq fim : Nat → Option Nat) (hL : L ≤ 3072) (i : Int32) (hi : 0 ≤ i.toInt ∧ i.toInt + 6 ≤ L) (K : ∀ (ln sn : Nat → Int32) (tz : Int32) (wx wy : va_W) (H : Heap) (locs : List Loc) (ls : Array Slot), IX cI cC cS ad fq fim ln sn tz wx → IY cI cZ ay ln sn tz wy → va_P D vwCl (wx ++ wy) H → va_D A (wx ++ wy) → va_S A s.heap H locs → lv_has ls 4 [(3, .int i), (2, .ref (ay 0)), (1, .ref (ad 0)), (0, .ref b)] → W p l e room_1 s m #[Value.ref b] below meth c H locs 98 12032 (lw_Z below #[Value.ref b] s) (F0 m 1034 ls [])) {ln sn : Nat → Int32} {tz : Int32} {wx wy : va_W} {H : Heap} {locs : List Loc} {ls : Array Slot} (hX_ : IX cI cC cS ad fq fim ln sn tz wx) (hY_ : IY cI cZ ay ln sn tz wy) (hP : va_P D vwCl (wx ++ wy) H) (hD : va_D A (wx ++ wy)) (hS : va_S A s.heap H locs) (hl : lv_has ls 4 [(3, .int i), (2, .ref (ay 0)), (1, .ref (ad 0)), (0, .ref b)]) : W p l e room_1 s m #[Value.ref b] below meth c H locs 98 12032 (lw_Z below #[Value.ref b] s) (F0 m 616 ls []) := by
  obtain ⟨S, hr_, hk_, hX, hbl, hA, hAf⟩ := id C
  have hbA : ¬ A b := fun z => absurd (hAf b z) (Nat.not_le.mpr hbl)
  refine lv_aload_n S.1 S.2.1 dL_law_616 rfl (lv_at hl 2 rfl) ?_
  refine lv_aload_n S.1 S.2.1 dL_law_617 rfl (lv_at hl 3 rfl) ?_
  refine lv_iload_n S.1 S.2.1 dL_law_618 rfl (lv_at hl 0 rfl) ?_
  refine lv_iconst (v := (1)) S.1 S.2.1 dL_law_619 (by decide) ?_
  refine lv_iadd S.1 S.2.1 dL_law_620 ?_
  refine lv_topi (fun x_1 ex_1 => ?_)
  have tx_1 : x_1.toInt = i.toInt + (1) := addI (A := i.toInt) (B := 1) ex_1 rfl rfl (by omega) (by omega)
  refine va_sld S.1 S.2.1 hX hbl hbA hS (in_of (by omega) (by omega)) dL_law_621 ?_
  refine lv_topi (fun v_2 ev_2 => ?_)
  obtain ⟨fs_, he_⟩ := IX_0 hX_
  refine law_ci (C := RX8) (ci := 8) (As := [.int v_2]) (fX_got l D cI cZ cC cS sq H.size ad fq fim ln sn tz v_2 hX_) S gL_law_X8_got rfl hdV_X8_got ⟨Nat.le_of_ble_eq_true rfl, Nat.le_of_ble_eq_true rfl⟩ ⟨Nat.le_of_ble_eq_true rfl, Nat.le_of_ble_eq_true rfl⟩ hK hT hS hA hP hD rfl he_ rfl hl.1 rfl (Nat.le_of_ble_eq_true rfl) dL_law_622 (fun r1 wx H locs hw hP hD hS => ?_)
  have hX_ := hw
  refine lv_pop S.1 S.2.1 dL_law_625 rfl ?_
  refine lv_aload_n S.1 S.2.1 dL_law_626 rfl (lv_at hl 1 rfl) ?_
  refine lv_aload_n S.1 S.2.1 dL_law_627 rfl (lv_at hl 3 rfl) ?_
  refine lv_iload_n S.1 S.2.1 dL_law_628 rfl (lv_at hl 0 rfl) ?_
  refine lv_iconst (v := (1)) S.1 S.2.1 dL_law_629 (by decide) ?_
  refine lv_iadd S.1 S.2.1 dL_law_630 ?_
  refine lv_topi (fun x_3 ex_3 => ?_)
  have qx_3 : x_1 = x_3 := ex_1.trans ex_3.symm
  subst qx_3
  refine va_sld S.1 S.2.1 hX hbl hbA hS (in_of (by omega) (by omega)) dL_law_631 ?_
  refine lv_topi (fun v_4 ev_4 => ?_)
  have qv_4 : v_2 = v_4 := ev_2.trans ev_4.symm
  subst qv_4
  obtain ⟨fs_, he_⟩ := IY_0 hY_
  refine law_ci (C := RX9) (ci := 9) (As := [.int v_2]) (fY_got l D cI cZ cC cS sq H.size ay ln sn tz v_2 hY_) S gL_law_X9_got rfl hdV_X9_got ⟨Nat.le_of_ble_eq_true rfl, Nat.le_of_ble_eq_true rfl⟩ ⟨Nat.le_of_ble_eq_true rfl, Nat.le_of_ble_eq_true rfl⟩ hK hT hS hA hP hD rfl he_ rfl hl.1 rfl (Nat.le_of_ble_eq_true rfl) dL_law_632 (fun r2 wy H locs hw hP hD hS => ?_)
  have hY_ := hw
  refine lv_pop S.1 S.2.1 dL_law_635 rfl ?_
  refine lv_goto (tgt := 1034) S.1 S.2.1 dL_law_636 (by decide) ?_
  exact K ln sn tz wx wy H _ ls hX_ hY_ hP hD hS hl
set_option maxHeartbeats 4000000 in
set_option maxRecDepth 100000 in
theorem law_witnesses {p : Program} (l : Launch) {e : Env} {s : State} {m : MethodId} {below : List Frame} {meth : Method} {c : Code} (D : va_G) (cI cZ cC cS : ClassId) (sq : Nat → Nat) {b L : Nat} {sc : Nat → Int32} {A : Nat → Prop} (C : lC p s m meth c b L sc A) (hK : kW D (tyW cI cZ cC cS) sq s) (hT : sT sq A s s.heap) (ad ay : Nat → Nat) (fq fim : Nat → Option Nat) (hL : L ≤ 3072) (i : Int32) (hi : 0 ≤ i.toInt ∧ i.toInt + 6 ≤ L) (K : ∀ (ln sn : Nat → Int32) (tz : Int32) (wx wy : va_W) (H : Heap) (locs : List Loc) (ls : Array Slot), IX cI cC cS ad fq fim ln sn tz wx → IY cI cZ ay ln sn tz wy → va_P D vwCl (wx ++ wy) H → va_D A (wx ++ wy) → va_S A s.heap H locs → lv_has ls 4 [(3, .int i), (2, .ref (ay 0)), (1, .ref (ad 0)), (0, .ref b)] → W p l e room_1 s m #[Value.ref b] below meth c H locs 98 12032 (lw_Z below #[Value.ref b] s) (F0 m 1034 ls [])) {ln sn : Nat → Int32} {tz : Int32} {wx wy : va_W} {H : Heap} {locs : List Loc} {ls : Array Slot} (hX_ : IX cI cC cS ad fq fim ln sn tz wx) (hY_ : IY cI cZ ay ln sn tz wy) (hP : va_P D vwCl (wx ++ wy) H) (hD : va_D A (wx ++ wy)) (hS : va_S A s.heap H locs) (hl : lv_has ls 4 [(3, .int i), (2, .ref (ay 0)), (1, .ref (ad 0)), (0, .ref b)]) : W p l e room_1 s m #[Value.ref b] below meth c H locs 98 12032 (lw_Z below #[Value.ref b] s) (F0 m 639 ls []) := by
  obtain ⟨S, hr_, hk_, hX, hbl, hA, hAf⟩ := id C
  have hbA : ¬ A b := fun z => absurd (hAf b z) (Nat.not_le.mpr hbl)
  refine lv_aload_n S.1 S.2.1 dL_law_639 rfl (lv_at hl 2 rfl) ?_
  refine lv_aload_n S.1 S.2.1 dL_law_640 rfl (lv_at hl 3 rfl) ?_
  refine lv_iload_n S.1 S.2.1 dL_law_641 rfl (lv_at hl 0 rfl) ?_
  refine lv_iconst (v := (1)) S.1 S.2.1 dL_law_642 (by decide) ?_
  refine lv_iadd S.1 S.2.1 dL_law_643 ?_
  refine lv_topi (fun x_1 ex_1 => ?_)
  have tx_1 : x_1.toInt = i.toInt + (1) := addI (A := i.toInt) (B := 1) ex_1 rfl rfl (by omega) (by omega)
  refine va_sld S.1 S.2.1 hX hbl hbA hS (in_of (by omega) (by omega)) dL_law_644 ?_
  refine lv_topi (fun v_2 ev_2 => ?_)
  obtain ⟨fs_, he_⟩ := IX_0 hX_
  refine law_ci (C := RX8) (ci := 8) (As := [.int v_2]) (fX_witnesses l D cI cZ cC cS sq H.size ad fq fim ln sn tz v_2 hX_) S gL_law_X8_witnesses rfl hdV_X8_witnesses ⟨Nat.le_of_ble_eq_true rfl, Nat.le_of_ble_eq_true rfl⟩ ⟨Nat.le_of_ble_eq_true rfl, Nat.le_of_ble_eq_true rfl⟩ hK hT hS hA hP hD rfl he_ rfl hl.1 rfl (Nat.le_of_ble_eq_true rfl) dL_law_645 (fun r1 wx H locs hw hP hD hS => ?_)
  have hX_ := hw
  refine lv_pop S.1 S.2.1 dL_law_648 rfl ?_
  refine lv_aload_n S.1 S.2.1 dL_law_649 rfl (lv_at hl 1 rfl) ?_
  refine lv_aload_n S.1 S.2.1 dL_law_650 rfl (lv_at hl 3 rfl) ?_
  refine lv_iload_n S.1 S.2.1 dL_law_651 rfl (lv_at hl 0 rfl) ?_
  refine lv_iconst (v := (1)) S.1 S.2.1 dL_law_652 (by decide) ?_
  refine lv_iadd S.1 S.2.1 dL_law_653 ?_
  refine lv_topi (fun x_3 ex_3 => ?_)
  have qx_3 : x_1 = x_3 := ex_1.trans ex_3.symm
  subst qx_3
  refine va_sld S.1 S.2.1 hX hbl hbA hS (in_of (by omega) (by omega)) dL_law_654 ?_
  refine lv_topi (fun v_4 ev_4 => ?_)
  have qv_4 : v_2 = v_4 := ev_2.trans ev_4.symm
  subst qv_4
  obtain ⟨fs_, he_⟩ := IY_0 hY_
  refine law_ci (C := RX9) (ci := 9) (As := [.int v_2]) (fY_witnesses l D cI cZ cC cS sq H.size ay ln sn tz v_2 hY_) S gL_law_X9_witnesses rfl hdV_X9_witnesses ⟨Nat.le_of_ble_eq_true rfl, Nat.le_of_ble_eq_true rfl⟩ ⟨Nat.le_of_ble_eq_true rfl, Nat.le_of_ble_eq_true rfl⟩ hK hT hS hA hP hD rfl he_ rfl hl.1 rfl (Nat.le_of_ble_eq_true rfl) dL_law_655 (fun r2 wy H locs hw hP hD hS => ?_)
  have hY_ := hw
  refine lv_pop S.1 S.2.1 dL_law_658 rfl ?_
  refine lv_goto (tgt := 1034) S.1 S.2.1 dL_law_659 (by decide) ?_
  exact K ln sn tz wx wy H _ ls hX_ hY_ hP hD hS hl
