theorem mem_r {big ws : List Cond} (ps : List Nat) (hp : ws = ps.filterMap (fun i => big[i]?)) : ∀ w ∈ ws, w ∈ big := by
  intro w hw
  rw [hp] at hw
  obtain ⟨i, -, hi⟩ := List.mem_filterMap.mp hw
  exact List.mem_of_getElem? hi
set_option maxRecDepth 20000 in
theorem lin_r1 : ∀ w ∈ wsL_law_r1, w ∈ lw_tbl := mem_r [99, 100, 83, 946, 947, 92, 1398, 101, 102, 103, 104, 105, 106, 107, 356, 109, 110, 84, 357, 141, 142, 85, 358, 359] (by first | exact rfl | decide +kernel)
set_option maxRecDepth 20000 in
theorem lin_r2 : ∀ w ∈ wsL_law_r2, w ∈ lw_tbl := mem_r [209, 210, 86, 360, 361, 231, 232, 87, 362, 363, 257, 258, 88, 364, 297, 298, 89, 365, 320, 321, 90, 366, 367, 368] (by first | exact rfl | decide +kernel)
set_option maxRecDepth 20000 in
theorem lin_r3 : ∀ w ∈ wsL_law_r3, w ∈ lw_tbl := mem_r [338, 91, 112, 113, 114, 140, 115, 117, 119, 121, 123, 125, 144, 145, 146, 147, 150, 153, 157, 160, 165, 167, 171, 175] (by first | exact rfl | decide +kernel)
set_option maxRecDepth 20000 in
theorem lin_r4 : ∀ w ∈ wsL_law_r4, w ∈ lw_tbl := mem_r [178, 180, 182, 211, 212, 213, 214, 217, 219, 215, 216, 234, 235, 236, 237, 240, 242, 245, 259, 260, 261, 262, 266, 267] (by first | exact rfl | decide +kernel)
set_option maxRecDepth 20000 in
theorem lin_r5 : ∀ w ∈ wsL_law_r5, w ∈ lw_tbl := mem_r [268, 269, 270, 271, 272, 273, 263, 264, 161, 265, 299, 300, 301, 302, 305, 307, 308, 303, 304, 322, 323, 324, 325, 327] (by first | exact rfl | decide +kernel)
set_option maxRecDepth 20000 in
theorem lin_r6 : ∀ w ∈ wsL_law_r6, w ∈ lw_tbl := mem_r [329, 326, 340, 341, 342, 343, 345, 347, 948, 949, 950, 951, 954, 955, 956, 957, 958, 960, 972, 973, 974, 975, 976, 1040] (by first | exact rfl | decide +kernel)
set_option maxRecDepth 20000 in
theorem lin_r7 : ∀ w ∈ wsL_law_r7, w ∈ lw_tbl := mem_r [977, 978, 979, 396, 397, 398, 399, 406, 400, 401, 402, 403, 404, 405, 407, 409, 0, 410, 411, 412, 413, 414, 415, 416] (by first | exact rfl | decide +kernel)
set_option maxRecDepth 20000 in
theorem lin_r8 : ∀ w ∈ wsL_law_r8, w ∈ lw_tbl := mem_r [417, 93, 418, 419, 421, 1, 422, 1041, 1042, 1043, 1044, 952, 1052, 1053, 953, 1045, 1046, 1047, 1048, 1049, 1050, 1051, 1054, 1056] (by first | exact rfl | decide +kernel)
set_option maxRecDepth 20000 in
theorem lin_r9 : ∀ w ∈ wsL_law_r9, w ∈ lw_tbl := mem_r [35, 1057, 1058, 423, 424, 425, 426, 346, 427, 428, 429, 430, 431, 432, 433, 434, 1059, 1060, 1061, 1062, 435, 436, 437, 438] (by first | exact rfl | decide +kernel)
set_option maxRecDepth 20000 in
theorem lin_r10 : ∀ w ∈ wsL_law_r10, w ∈ lw_tbl := mem_r [344, 348, 443, 445, 444, 94, 439, 440, 441, 442, 1063, 1064, 1065, 1066, 446, 447, 448, 449, 1067, 1068, 1069, 1070, 450, 451] (by first | exact rfl | decide +kernel)
set_option maxRecDepth 20000 in
theorem lin_r11 : ∀ w ∈ wsL_law_r11, w ∈ lw_tbl := mem_r [452, 453, 458, 118, 454, 455, 456, 457, 459, 460, 461, 462, 1071, 1072, 1073, 1074, 1075, 961, 1076, 1077, 463, 464, 465, 466] (by first | exact rfl | decide +kernel)
set_option maxRecDepth 20000 in
theorem lin_r12 : ∀ w ∈ wsL_law_r12, w ∈ lw_tbl := mem_r [218, 610, 220, 155, 467, 468, 469, 470, 120, 471, 472, 473, 474, 475, 476, 477, 478, 479, 480, 481, 482, 483, 484, 485] (by first | exact rfl | decide +kernel)
set_option maxRecDepth 20000 in
theorem lin_r13 : ∀ w ∈ wsL_law_r13, w ∈ lw_tbl := mem_r [486, 487, 489, 2, 490, 492, 493, 494, 495, 496, 497, 498, 499, 500, 501, 502, 95, 503, 1399, 504, 505, 506, 507, 508] (by first | exact rfl | decide +kernel)
set_option maxRecDepth 20000 in
theorem lin_r14 : ∀ w ∈ wsL_law_r14, w ∈ lw_tbl := mem_r [1400, 510, 511, 512, 513, 514, 515, 516, 517, 518, 519, 96, 520, 521, 522, 523, 524, 526, 527, 97, 528, 529, 530, 98] (by first | exact rfl | decide +kernel)
set_option maxRecDepth 20000 in
theorem lin_r15 : ∀ w ∈ wsL_law_r15, w ∈ lw_tbl := mem_r [531, 532, 533, 534, 535, 536, 537, 538, 539, 540, 541, 542, 544, 546, 548, 550, 3, 551, 122, 552, 554, 4, 555, 556] (by first | exact rfl | decide +kernel)
set_option maxRecDepth 20000 in
theorem lin_r16 : ∀ w ∈ wsL_law_r16, w ∈ lw_tbl := mem_r [558, 5, 559, 148, 151, 158, 116, 560, 561, 563, 6, 564, 124, 565, 566, 567, 568, 569, 571, 7, 572, 573, 575, 8] (by first | exact rfl | decide +kernel)
set_option maxRecDepth 20000 in
theorem lin_r17 : ∀ w ∈ wsL_law_r17, w ∈ lw_tbl := mem_r [576, 578, 580, 9, 581, 164, 166, 582, 584, 10, 585, 126, 587, 589, 11, 590, 592, 594, 12, 595, 169, 173, 176, 156] (by first | exact rfl | decide +kernel)
set_option maxRecDepth 20000 in
theorem lin_r18 : ∀ w ∈ wsL_law_r18, w ∈ lw_tbl := mem_r [596, 598, 13, 599, 600, 601, 602, 603, 604, 605, 606, 607, 611, 612, 613, 614, 615, 616, 617, 618, 619, 620, 622, 14] (by first | exact rfl | decide +kernel)
set_option maxRecDepth 20000 in
theorem lin_r19 : ∀ w ∈ wsL_law_r19, w ∈ lw_tbl := mem_r [623, 628, 629, 630, 631, 634, 635, 637, 15, 638, 639, 640, 641, 642, 643, 645, 16, 646, 647, 648, 649, 650, 1078, 1079] (by first | exact rfl | decide +kernel)
set_option maxRecDepth 20000 in
theorem lin_r20 : ∀ w ∈ wsL_law_r20, w ∈ lw_tbl := mem_r [1080, 1081, 1105, 1133, 1147, 968, 965, 962, 1158, 969, 959, 1082, 1084, 36, 1085, 963, 964, 1086, 1088, 37, 1089, 966, 1094, 967] (by first | exact rfl | decide +kernel)
set_option maxRecDepth 20000 in
theorem lin_r21 : ∀ w ∈ wsL_law_r21, w ∈ lw_tbl := mem_r [1090, 1092, 38, 1093, 1095, 1096, 1097, 1098, 1099, 1100, 1101, 1103, 39, 1104, 1106, 1108, 40, 1109, 1110, 1112, 41, 1113, 1114, 1116] (by first | exact rfl | decide +kernel)
set_option maxRecDepth 20000 in
theorem lin_r22 : ∀ w ∈ wsL_law_r22, w ∈ lw_tbl := mem_r [42, 1117, 1118, 1120, 43, 1121, 1122, 1124, 44, 1125, 1126, 1127, 1128, 1129, 1131, 45, 1132, 1134, 1136, 46, 1137, 1146, 1138, 1140] (by first | exact rfl | decide +kernel)
set_option maxRecDepth 20000 in
theorem lin_r23 : ∀ w ∈ wsL_law_r23, w ∈ lw_tbl := mem_r [47, 1141, 1142, 1144, 48, 1145, 1148, 1150, 49, 1151, 1156, 1157, 1152, 1154, 50, 1155, 652, 653, 654, 655, 1159, 1160, 1161, 1162] (by first | exact rfl | decide +kernel)
set_option maxRecDepth 20000 in
theorem lin_r24 : ∀ w ∈ wsL_law_r24, w ∈ lw_tbl := mem_r [656, 657, 658, 659, 241, 661, 244, 660, 662, 663, 664, 665, 666, 667, 668, 669, 670, 1163, 1164, 1165, 1166, 970, 971, 1167] (by first | exact rfl | decide +kernel)
set_option maxRecDepth 20000 in
theorem lin_r25 : ∀ w ∈ wsL_law_r25, w ∈ lw_tbl := mem_r [1169, 51, 1170, 1171, 1173, 52, 1174, 1175, 1176, 1178, 53, 1179, 1180, 1181, 1182, 1183, 1185, 54, 1186, 1187, 1189, 55, 1190, 1191] (by first | exact rfl | decide +kernel)
set_option maxRecDepth 20000 in
theorem lin_r26 : ∀ w ∈ wsL_law_r26, w ∈ lw_tbl := mem_r [1193, 56, 1194, 1195, 1196, 1197, 1198, 1199, 1200, 1201, 1203, 57, 1204, 1205, 1207, 58, 1208, 671, 672, 673, 674, 683, 163, 675] (by first | exact rfl | decide +kernel)
set_option maxRecDepth 20000 in
theorem lin_r27 : ∀ w ∈ wsL_law_r27, w ∈ lw_tbl := mem_r [677, 17, 678, 679, 680, 681, 682, 684, 685, 686, 1209, 1210, 1211, 1212, 1213, 1218, 1214, 1215, 1216, 1217, 687, 688, 689, 690] (by first | exact rfl | decide +kernel)
set_option maxRecDepth 20000 in
theorem lin_r28 : ∀ w ∈ wsL_law_r28, w ∈ lw_tbl := mem_r [691, 693, 18, 694, 695, 697, 19, 698, 177, 699, 701, 20, 702, 170, 239, 179, 703, 705, 21, 706, 247, 181, 183, 707] (by first | exact rfl | decide +kernel)
set_option maxRecDepth 20000 in
theorem lin_r29 : ∀ w ∈ wsL_law_r29, w ∈ lw_tbl := mem_r [708, 709, 710, 1219, 1220, 1221, 1222, 1223, 1225, 59, 1226, 1227, 1229, 60, 1230, 1235, 1231, 1233, 61, 1234, 1236, 1238, 62, 1239] (by first | exact rfl | decide +kernel)
set_option maxRecDepth 20000 in
theorem lin_r30 : ∀ w ∈ wsL_law_r30, w ∈ lw_tbl := mem_r [1240, 1242, 63, 1243, 711, 712, 713, 714, 1244, 1245, 1246, 1247, 1248, 715, 716, 717, 718, 174, 719, 720, 721, 722, 1249, 1250] (by first | exact rfl | decide +kernel)
set_option maxRecDepth 20000 in
theorem lin_r31 : ∀ w ∈ wsL_law_r31, w ∈ lw_tbl := mem_r [1251, 1252, 1253, 1254, 1255, 1256, 723, 724, 725, 726, 727, 728, 729, 730, 1257, 1258, 1259, 1260, 731, 732, 733, 734, 735, 736] (by first | exact rfl | decide +kernel)
set_option maxRecDepth 20000 in
theorem lin_r32 : ∀ w ∈ wsL_law_r32, w ∈ lw_tbl := mem_r [737, 738, 1261, 1262, 1263, 1264, 739, 740, 741, 742, 743, 745, 22, 746, 747, 748, 749, 750, 751, 752, 753, 754, 765, 760] (by first | exact rfl | decide +kernel)
set_option maxRecDepth 20000 in
theorem lin_r33 : ∀ w ∈ wsL_law_r33, w ∈ lw_tbl := mem_r [755, 757, 23, 758, 168, 172, 759, 761, 763, 24, 764, 766, 768, 25, 769, 238, 770, 772, 26, 773, 246, 243, 774, 775] (by first | exact rfl | decide +kernel)
set_option maxRecDepth 20000 in
theorem lin_r34 : ∀ w ∈ wsL_law_r34, w ∈ lw_tbl := mem_r [776, 777, 778, 779, 780, 781, 782, 783, 784, 785, 787, 786, 788, 790, 27, 791, 792, 794, 28, 795, 1265, 1266, 1267, 1268] (by first | exact rfl | decide +kernel)
set_option maxRecDepth 20000 in
theorem lin_r35 : ∀ w ∈ wsL_law_r35, w ∈ lw_tbl := mem_r [1277, 1269, 1271, 64, 1272, 1273, 1275, 65, 1276, 1278, 1280, 66, 1281, 1282, 1284, 67, 1285, 1286, 1288, 68, 1289, 796, 797, 798] (by first | exact rfl | decide +kernel)
set_option maxRecDepth 20000 in
theorem lin_r36 : ∀ w ∈ wsL_law_r36, w ∈ lw_tbl := mem_r [799, 1290, 1291, 1292, 1293, 800, 801, 802, 803, 804, 806, 29, 807, 808, 810, 30, 811, 1294, 1295, 1296, 1297, 1298, 1300, 69] (by first | exact rfl | decide +kernel)
set_option maxRecDepth 20000 in
theorem lin_r37 : ∀ w ∈ wsL_law_r37, w ∈ lw_tbl := mem_r [1301, 812, 813, 814, 815, 816, 817, 818, 819, 162, 820, 821, 822, 823, 824, 825, 154, 826, 827, 828, 829, 830, 831, 832] (by first | exact rfl | decide +kernel)
set_option maxRecDepth 20000 in
theorem lin_r38 : ∀ w ∈ wsL_law_r38, w ∈ lw_tbl := mem_r [833, 834, 835, 836, 837, 839, 31, 840, 1302, 1303, 1304, 1305, 1306, 1308, 70, 1309, 1310, 1312, 71, 1313, 1314, 1316, 72, 1317] (by first | exact rfl | decide +kernel)
set_option maxRecDepth 20000 in
theorem lin_r39 : ∀ w ∈ wsL_law_r39, w ∈ lw_tbl := mem_r [841, 842, 843, 844, 306, 845, 846, 847, 848, 854, 849, 850, 851, 852, 853, 1318, 1319, 1320, 1321, 1322, 1323, 1325, 73, 1326] (by first | exact rfl | decide +kernel)
set_option maxRecDepth 20000 in
theorem lin_r40 : ∀ w ∈ wsL_law_r40, w ∈ lw_tbl := mem_r [1327, 1329, 74, 1330, 855, 856, 857, 858, 159, 859, 860, 861, 862, 1331, 1332, 1333, 1334, 863, 864, 865, 866, 1335, 1336, 1337] (by first | exact rfl | decide +kernel)
set_option maxRecDepth 20000 in
theorem lin_r41 : ∀ w ∈ wsL_law_r41, w ∈ lw_tbl := mem_r [1338, 867, 868, 869, 870, 1339, 1340, 1341, 1342, 871, 872, 873, 874, 875, 876, 877, 878, 879, 880, 881, 882, 883, 1343, 1344] (by first | exact rfl | decide +kernel)
set_option maxRecDepth 20000 in
theorem lin_r42 : ∀ w ∈ wsL_law_r42, w ∈ lw_tbl := mem_r [1345, 1346, 1347, 1349, 75, 1350, 884, 885, 886, 887, 888, 889, 890, 891, 893, 892, 1351, 1352, 1353, 1354, 1355, 1356, 1357, 895] (by first | exact rfl | decide +kernel)
set_option maxRecDepth 20000 in
theorem lin_r43 : ∀ w ∈ wsL_law_r43, w ∈ lw_tbl := mem_r [896, 897, 898, 899, 900, 901, 902, 903, 905, 32, 906, 907, 909, 911, 913, 33, 914, 915, 916, 917, 918, 919, 920, 1358] (by first | exact rfl | decide +kernel)
set_option maxRecDepth 20000 in
theorem lin_r44 : ∀ w ∈ wsL_law_r44, w ∈ lw_tbl := mem_r [1359, 1360, 1361, 980, 1362, 1364, 76, 1365, 1366, 1368, 77, 1369, 1370, 1372, 78, 1373, 1374, 1376, 79, 1377, 1378, 1380, 80, 1381] (by first | exact rfl | decide +kernel)
set_option maxRecDepth 20000 in
theorem lin_r45 : ∀ w ∈ wsL_law_r45, w ∈ lw_tbl := mem_r [921, 922, 923, 924, 330, 328, 1382, 1383, 1384, 1385, 925, 926, 927, 928, 149, 152, 929, 931, 34, 932, 933, 934, 935, 936] (by first | exact rfl | decide +kernel)
set_option maxRecDepth 20000 in
theorem lin_r46 : ∀ w ∈ wsL_law_r46, w ∈ lw_tbl := mem_r [937, 938, 939, 940, 941, 1386, 1387, 1388, 1389, 1390, 1392, 81, 1393, 942, 943, 944, 945, 1394, 1395, 1396, 1397] (by first | exact rfl | decide +kernel)
set_option maxRecDepth 20000 in
theorem lin_X0 : ∀ w ∈ wsX00, w ∈ lw_tbl := mem_r [331, 333, 335] (by first | exact rfl | decide +kernel)
set_option maxRecDepth 20000 in
theorem lin_X1 : ∀ w ∈ wsX10, w ∈ lw_tbl := mem_r [184, 186, 188, 190, 192, 194, 196, 198, 200, 202, 204, 206] (by first | exact rfl | decide +kernel)
set_option maxRecDepth 20000 in
theorem lin_X2 : ∀ w ∈ wsX20, w ∈ lw_tbl := mem_r [309, 311, 313, 315, 317] (by first | exact rfl | decide +kernel)
set_option maxRecDepth 20000 in
theorem lin_X3 : ∀ w ∈ wsX30, w ∈ lw_tbl := mem_r [221, 223, 225, 227] (by first | exact rfl | decide +kernel)
set_option maxRecDepth 20000 in
theorem lin_X4 : ∀ w ∈ wsX40, w ∈ lw_tbl := mem_r [349, 351, 353] (by first | exact rfl | decide +kernel)
set_option maxRecDepth 20000 in
theorem lin_X5 : ∀ w ∈ wsX50, w ∈ lw_tbl := mem_r [127, 129, 131, 133, 135, 137] (by first | exact rfl | decide +kernel)
set_option maxRecDepth 20000 in
theorem lin_X6 : ∀ w ∈ wsX60, w ∈ lw_tbl := mem_r [248, 250, 252, 254] (by first | exact rfl | decide +kernel)
set_option maxRecDepth 20000 in
theorem lin_X7 : ∀ w ∈ wsX70, w ∈ lw_tbl := mem_r [274, 276, 278, 280, 282, 284, 286, 288, 290, 292, 294] (by first | exact rfl | decide +kernel)
set_option maxRecDepth 20000 in
theorem lin_X8 : ∀ w ∈ wsX80, w ∈ lw_tbl := mem_r [369, 371, 373, 375, 377, 379, 381, 383, 385, 387, 389, 391, 393] (by first | exact rfl | decide +kernel)
set_option maxRecDepth 20000 in
theorem lin_X9 : ∀ w ∈ wsX90, w ∈ lw_tbl := mem_r [981, 983, 985, 987, 989, 991, 993, 995, 997, 999, 1001, 1003, 1005, 1007, 1009, 1011, 1013, 1015, 1017, 1019, 1021, 1023, 1025, 1027, 1029, 1031, 1033, 1035, 1037] (by first | exact rfl | decide +kernel)
theorem wsL_law_in : ∀ w ∈ wsL_law, w ∈ lw_tbl := (List.forall_mem_append.mpr ⟨(List.forall_mem_append.mpr ⟨(List.forall_mem_append.mpr ⟨(List.forall_mem_append.mpr ⟨(List.forall_mem_append.mpr ⟨(List.forall_mem_append.mpr ⟨(List.forall_mem_append.mpr ⟨(List.forall_mem_append.mpr ⟨(List.forall_mem_append.mpr ⟨(List.forall_mem_append.mpr ⟨(List.forall_mem_append.mpr ⟨(List.forall_mem_append.mpr ⟨lin_r1, (List.forall_mem_append.mpr ⟨lin_r2, (List.forall_mem_append.mpr ⟨lin_r3, (List.forall_mem_append.mpr ⟨lin_r4, (List.forall_mem_append.mpr ⟨lin_r5, (List.forall_mem_append.mpr ⟨lin_r6, (List.forall_mem_append.mpr ⟨lin_r7, (List.forall_mem_append.mpr ⟨lin_r8, (List.forall_mem_append.mpr ⟨lin_r9, (List.forall_mem_append.mpr ⟨lin_r10, (List.forall_mem_append.mpr ⟨lin_r11, (List.forall_mem_append.mpr ⟨lin_r12, (List.forall_mem_append.mpr ⟨lin_r13, (List.forall_mem_append.mpr ⟨lin_r14, (List.forall_mem_append.mpr ⟨lin_r15, (List.forall_mem_append.mpr ⟨lin_r16, (List.forall_mem_append.mpr ⟨lin_r17, (List.forall_mem_append.mpr ⟨lin_r18, (List.forall_mem_append.mpr ⟨lin_r19, (List.forall_mem_append.mpr ⟨lin_r20, (List.forall_mem_append.mpr ⟨lin_r21, (List.forall_mem_append.mpr ⟨lin_r22, (List.forall_mem_append.mpr ⟨lin_r23, (List.forall_mem_append.mpr ⟨lin_r24, (List.forall_mem_append.mpr ⟨lin_r25, (List.forall_mem_append.mpr ⟨lin_r26, (List.forall_mem_append.mpr ⟨lin_r27, (List.forall_mem_append.mpr ⟨lin_r28, (List.forall_mem_append.mpr ⟨lin_r29, (List.forall_mem_append.mpr ⟨lin_r30, (List.forall_mem_append.mpr ⟨lin_r31, (List.forall_mem_append.mpr ⟨lin_r32, (List.forall_mem_append.mpr ⟨lin_r33, (List.forall_mem_append.mpr ⟨lin_r34, (List.forall_mem_append.mpr ⟨lin_r35, (List.forall_mem_append.mpr ⟨lin_r36, (List.forall_mem_append.mpr ⟨lin_r37, (List.forall_mem_append.mpr ⟨lin_r38, (List.forall_mem_append.mpr ⟨lin_r39, (List.forall_mem_append.mpr ⟨lin_r40, (List.forall_mem_append.mpr ⟨lin_r41, (List.forall_mem_append.mpr ⟨lin_r42, (List.forall_mem_append.mpr ⟨lin_r43, (List.forall_mem_append.mpr ⟨lin_r44, (List.forall_mem_append.mpr ⟨lin_r45, lin_r46⟩)⟩)⟩)⟩)⟩)⟩)⟩)⟩)⟩)⟩)⟩)⟩)⟩)⟩)⟩)⟩)⟩)⟩)⟩)⟩)⟩)⟩)⟩)⟩)⟩)⟩)⟩)⟩)⟩)⟩)⟩)⟩)⟩)⟩)⟩)⟩)⟩)⟩)⟩)⟩)⟩)⟩)⟩)⟩)⟩), lin_X8⟩), lin_X9⟩), lin_X5⟩), lin_X1⟩), lin_X3⟩), lin_X6⟩), lin_X7⟩), lin_X2⟩), lin_X0⟩), lin_X4⟩), fun _ h => absurd h List.not_mem_nil⟩)
theorem inlX0 : ∀ w ∈ wsX00, w ∈ wsL_law := fun _ h => List.mem_append_left _ (List.mem_append_left _ (List.mem_append_right _ h))
theorem inX0 : ∀ w ∈ wsX00, w ∈ lw_tbl := fun w h => wsL_law_in w (inlX0 w h)
theorem inlX1 : ∀ w ∈ wsX10, w ∈ wsL_law := fun _ h => List.mem_append_left _ (List.mem_append_left _ (List.mem_append_left _ (List.mem_append_left _ (List.mem_append_left _ (List.mem_append_left _ (List.mem_append_left _ (List.mem_append_right _ h)))))))
theorem inX1 : ∀ w ∈ wsX10, w ∈ lw_tbl := fun w h => wsL_law_in w (inlX1 w h)
theorem inlX2 : ∀ w ∈ wsX20, w ∈ wsL_law := fun _ h => List.mem_append_left _ (List.mem_append_left _ (List.mem_append_left _ (List.mem_append_right _ h)))
theorem inX2 : ∀ w ∈ wsX20, w ∈ lw_tbl := fun w h => wsL_law_in w (inlX2 w h)
theorem inlX3 : ∀ w ∈ wsX30, w ∈ wsL_law := fun _ h => List.mem_append_left _ (List.mem_append_left _ (List.mem_append_left _ (List.mem_append_left _ (List.mem_append_left _ (List.mem_append_left _ (List.mem_append_right _ h))))))
theorem inX3 : ∀ w ∈ wsX30, w ∈ lw_tbl := fun w h => wsL_law_in w (inlX3 w h)
theorem inlX4 : ∀ w ∈ wsX40, w ∈ wsL_law := fun _ h => List.mem_append_left _ (List.mem_append_right _ h)
theorem inX4 : ∀ w ∈ wsX40, w ∈ lw_tbl := fun w h => wsL_law_in w (inlX4 w h)
theorem inlX5 : ∀ w ∈ wsX50, w ∈ wsL_law := fun _ h => List.mem_append_left _ (List.mem_append_left _ (List.mem_append_left _ (List.mem_append_left _ (List.mem_append_left _ (List.mem_append_left _ (List.mem_append_left _ (List.mem_append_left _ (List.mem_append_right _ h))))))))
theorem inX5 : ∀ w ∈ wsX50, w ∈ lw_tbl := fun w h => wsL_law_in w (inlX5 w h)
theorem inlX6 : ∀ w ∈ wsX60, w ∈ wsL_law := fun _ h => List.mem_append_left _ (List.mem_append_left _ (List.mem_append_left _ (List.mem_append_left _ (List.mem_append_left _ (List.mem_append_right _ h)))))
theorem inX6 : ∀ w ∈ wsX60, w ∈ lw_tbl := fun w h => wsL_law_in w (inlX6 w h)
theorem inlX7 : ∀ w ∈ wsX70, w ∈ wsL_law := fun _ h => List.mem_append_left _ (List.mem_append_left _ (List.mem_append_left _ (List.mem_append_left _ (List.mem_append_right _ h))))
theorem inX7 : ∀ w ∈ wsX70, w ∈ lw_tbl := fun w h => wsL_law_in w (inlX7 w h)
theorem inlX8 : ∀ w ∈ wsX80, w ∈ wsL_law := fun _ h => List.mem_append_left _ (List.mem_append_left _ (List.mem_append_left _ (List.mem_append_left _ (List.mem_append_left _ (List.mem_append_left _ (List.mem_append_left _ (List.mem_append_left _ (List.mem_append_left _ (List.mem_append_left _ (List.mem_append_right _ h))))))))))
theorem inX8 : ∀ w ∈ wsX80, w ∈ lw_tbl := fun w h => wsL_law_in w (inlX8 w h)
theorem inlX9 : ∀ w ∈ wsX90, w ∈ wsL_law := fun _ h => List.mem_append_left _ (List.mem_append_left _ (List.mem_append_left _ (List.mem_append_left _ (List.mem_append_left _ (List.mem_append_left _ (List.mem_append_left _ (List.mem_append_left _ (List.mem_append_left _ (List.mem_append_right _ h)))))))))
theorem inX9 : ∀ w ∈ wsX90, w ∈ lw_tbl := fun w h => wsL_law_in w (inlX9 w h)
