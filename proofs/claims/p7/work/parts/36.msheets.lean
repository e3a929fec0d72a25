set_option maxRecDepth 20000 in
theorem ggX9_copy_X9_finding : GoodIn wsX9_copy wsX9_finding := goodIn_r _ [18, 3, 19, 20, 21, 22, 23, 24, 25, 26, 27, 28, 29, 30, 31, 32, 33, 34, 35, 36, 37, 38, 39, 40, 41, 42, 43, 44, 45, 46, 47, 48] (by decide +kernel) (by decide +kernel)
set_option maxRecDepth 20000 in
theorem gX9_copy_X9_finding : GoodIn wsX9_copy (wsV RX9 74 RX9 yX9_finding wsX9_finding) := goodIn_app (goodIn_of _ (by decide +kernel)) ggX9_copy_X9_finding
set_option maxRecDepth 20000 in
theorem ggX9_copy_X9_isSheet : GoodIn wsX9_copy wsX9_isSheet := goodIn_r _ [10, 11, 12, 13, 9, 14] (by decide +kernel) (by decide +kernel)
set_option maxRecDepth 20000 in
theorem gX9_copy_X9_isSheet : GoodIn wsX9_copy (va_wsS RX9 67 yX9_isSheet wsX9_isSheet) := goodIn_app (goodIn_of _ (by decide +kernel)) ggX9_copy_X9_isSheet
set_option maxRecDepth 20000 in
theorem ggX9_drop_X9_finding : GoodIn wsX9_drop wsX9_finding := goodIn_r _ [17, 3, 18, 19, 20, 21, 22, 23, 24, 25, 26, 27, 28, 29, 30, 31, 32, 33, 34, 35, 36, 37, 38, 39, 40, 41, 42, 43, 44, 45, 46, 47] (by decide +kernel) (by decide +kernel)
set_option maxRecDepth 20000 in
theorem gX9_drop_X9_finding : GoodIn wsX9_drop (wsV RX9 74 RX9 yX9_finding wsX9_finding) := goodIn_app (goodIn_of _ (by decide +kernel)) ggX9_drop_X9_finding
set_option maxRecDepth 20000 in
theorem ggX9_drop_X9_isSheet : GoodIn wsX9_drop wsX9_isSheet := goodIn_r _ [9, 10, 11, 12, 8, 13] (by decide +kernel) (by decide +kernel)
set_option maxRecDepth 20000 in
theorem gX9_drop_X9_isSheet : GoodIn wsX9_drop (va_wsS RX9 67 yX9_isSheet wsX9_isSheet) := goodIn_app (goodIn_of _ (by decide +kernel)) ggX9_drop_X9_isSheet
set_option maxRecDepth 20000 in
theorem ggX9_feed_X9_in : GoodIn wsX9_feed wsX9_in := goodIn_r _ [11] (by decide +kernel) (by decide +kernel)
set_option maxRecDepth 20000 in
theorem gX9_feed_X9_in : GoodIn wsX9_feed (va_wsS RX9 63 yX9_in wsX9_in) := goodIn_app (goodIn_of _ (by decide +kernel)) ggX9_feed_X9_in
set_option maxRecDepth 20000 in
theorem ggX9_got_X9_isOwner : GoodIn wsX9_got wsX9_isOwner := goodIn_r _ [9, 10, 11, 12, 8, 13] (by decide +kernel) (by decide +kernel)
set_option maxRecDepth 20000 in
theorem gX9_got_X9_isOwner : GoodIn wsX9_got (va_wsS RX9 234 yX9_isOwner wsX9_isOwner) := goodIn_app (goodIn_of _ (by decide +kernel)) ggX9_got_X9_isOwner
set_option maxRecDepth 20000 in
theorem ggX9_look_X9_in : GoodIn wsX9_look wsX9_in := goodIn_r _ [20] (by decide +kernel) (by decide +kernel)
set_option maxRecDepth 20000 in
theorem gX9_look_X9_in : GoodIn wsX9_look (va_wsS RX9 63 yX9_in wsX9_in) := goodIn_app (goodIn_of _ (by decide +kernel)) ggX9_look_X9_in
set_option maxRecDepth 20000 in
theorem ggX9_look_X9_isOpen : GoodIn wsX9_look wsX9_isOpen := goodIn_r _ [11, 12, 13, 14, 15, 10, 16, 17, 18, 19, 20, 21, 22, 23, 24, 55, 56, 57, 58, 59, 60, 61, 62, 63, 64, 65, 66, 67, 68, 69, 70, 71, 72, 73, 74, 75, 76, 77, 78, 79, 80, 81, 82, 83] (by decide +kernel) (by decide +kernel)
set_option maxRecDepth 20000 in
theorem gX9_look_X9_isOpen : GoodIn wsX9_look (wsV RX9 219 RX9 yX9_isOpen wsX9_isOpen) := goodIn_app (goodIn_of _ (by decide +kernel)) ggX9_look_X9_isOpen
set_option maxRecDepth 20000 in
theorem ggX9_look_X9_isWay : GoodIn wsX9_look wsX9_isWay := goodIn_r _ [27, 28, 18, 19, 10, 20] (by decide +kernel) (by decide +kernel)
set_option maxRecDepth 20000 in
theorem gX9_look_X9_isWay : GoodIn wsX9_look (va_wsS RX9 222 yX9_isWay wsX9_isWay) := goodIn_app (goodIn_of _ (by decide +kernel)) ggX9_look_X9_isWay
set_option maxRecDepth 20000 in
theorem ggX9_look_X9_lookFrom : GoodIn wsX9_look wsX9_lookFrom := goodIn_r _ [32, 6, 4, 12, 33, 34, 35, 10, 36, 37, 38, 39, 40, 41, 42, 43, 44, 45, 46, 21, 22, 23, 24, 18, 19, 20, 55, 56, 57, 58, 59, 60, 61, 62, 63, 64, 65, 66, 67, 68, 69, 70, 71, 72, 73, 74, 75, 76, 77, 78, 79, 80, 81, 82, 83] (by decide +kernel) (by decide +kernel)
set_option maxRecDepth 20000 in
theorem gX9_look_X9_lookFrom : GoodIn wsX9_look (wsV RX9 225 RX9 yX9_lookFrom wsX9_lookFrom) := goodIn_app (goodIn_of _ (by decide +kernel)) ggX9_look_X9_lookFrom
set_option maxRecDepth 20000 in
theorem ggX9_look_X9_priceSeen : GoodIn wsX9_look wsX9_priceSeen := goodIn_r _ [50, 12, 6, 51, 52, 53, 10, 54, 4, 55, 56, 57, 58, 59, 60, 61, 62, 63, 64, 65, 66, 67, 68, 69, 70, 71, 72, 73, 74, 75, 76, 77, 78, 79, 80, 81, 82, 83] (by decide +kernel) (by decide +kernel)
set_option maxRecDepth 20000 in
theorem gX9_look_X9_priceSeen : GoodIn wsX9_look (wsV RX9 228 RX9 yX9_priceSeen wsX9_priceSeen) := goodIn_app (goodIn_of _ (by decide +kernel)) ggX9_look_X9_priceSeen
set_option maxRecDepth 20000 in
theorem ggX9_person_X9_in : GoodIn wsX9_person wsX9_in := goodIn_r _ [16] (by decide +kernel) (by decide +kernel)
set_option maxRecDepth 20000 in
theorem gX9_person_X9_in : GoodIn wsX9_person (va_wsS RX9 63 yX9_in wsX9_in) := goodIn_app (goodIn_of _ (by decide +kernel)) ggX9_person_X9_in
set_option maxRecDepth 20000 in
theorem ggX9_person_X9_isOne : GoodIn wsX9_person wsX9_isOne := goodIn_r _ [13, 7, 14, 15, 12, 16, 21, 22, 23, 24, 25, 26, 27, 28, 29, 30, 31, 32, 33, 34, 35, 36, 37, 38, 39, 40, 41, 42, 43, 44, 45, 46, 47, 48, 49] (by decide +kernel) (by decide +kernel)
set_option maxRecDepth 20000 in
theorem gX9_person_X9_isOne : GoodIn wsX9_person (wsV RX9 247 RX9 yX9_isOne wsX9_isOne) := goodIn_app (goodIn_of _ (by decide +kernel)) ggX9_person_X9_isOne
set_option maxRecDepth 20000 in
theorem ggX9_person_X9_of : GoodIn wsX9_person wsX9_of := goodIn_r _ [20, 7, 21, 22, 23, 24, 25, 26, 27, 28, 29, 30, 31, 32, 33, 34, 35, 36, 37, 38, 39, 40, 41, 42, 43, 44, 45, 46, 47, 48, 49] (by decide +kernel) (by decide +kernel)
set_option maxRecDepth 20000 in
theorem gX9_person_X9_of : GoodIn wsX9_person (wsV RX9 239 RX9 yX9_of wsX9_of) := goodIn_app (goodIn_of _ (by decide +kernel)) ggX9_person_X9_of
set_option maxRecDepth 20000 in
theorem ggX9_price_X9_in : GoodIn wsX9_price wsX9_in := goodIn_r _ [14] (by decide +kernel) (by decide +kernel)
set_option maxRecDepth 20000 in
theorem gX9_price_X9_in : GoodIn wsX9_price (va_wsS RX9 63 yX9_in wsX9_in) := goodIn_app (goodIn_of _ (by decide +kernel)) ggX9_price_X9_in
set_option maxRecDepth 20000 in
theorem ggX9_price_X9_isOwner : GoodIn wsX9_price wsX9_isOwner := goodIn_r _ [10, 11, 12, 13, 9, 14] (by decide +kernel) (by decide +kernel)
set_option maxRecDepth 20000 in
theorem gX9_price_X9_isOwner : GoodIn wsX9_price (va_wsS RX9 234 yX9_isOwner wsX9_isOwner) := goodIn_app (goodIn_of _ (by decide +kernel)) ggX9_price_X9_isOwner
set_option maxRecDepth 20000 in
theorem ggX9_set_X9_finding : GoodIn wsX9_set wsX9_finding := goodIn_r _ [18, 3, 19, 20, 21, 22, 23, 24, 25, 26, 27, 28, 29, 30, 31, 32, 33, 34, 35, 36, 37, 38, 39, 40, 41, 42, 43, 44, 45, 46, 47, 48] (by decide +kernel) (by decide +kernel)
set_option maxRecDepth 20000 in
theorem gX9_set_X9_finding : GoodIn wsX9_set (wsV RX9 74 RX9 yX9_finding wsX9_finding) := goodIn_app (goodIn_of _ (by decide +kernel)) ggX9_set_X9_finding
set_option maxRecDepth 20000 in
theorem ggX9_set_X9_in : GoodIn wsX9_set wsX9_in := goodIn_r _ [14] (by decide +kernel) (by decide +kernel)
set_option maxRecDepth 20000 in
theorem gX9_set_X9_in : GoodIn wsX9_set (va_wsS RX9 63 yX9_in wsX9_in) := goodIn_app (goodIn_of _ (by decide +kernel)) ggX9_set_X9_in
set_option maxRecDepth 20000 in
theorem ggX9_set_X9_isSheet : GoodIn wsX9_set wsX9_isSheet := goodIn_r _ [10, 11, 12, 13, 9, 14] (by decide +kernel) (by decide +kernel)
set_option maxRecDepth 20000 in
theorem gX9_set_X9_isSheet : GoodIn wsX9_set (va_wsS RX9 67 yX9_isSheet wsX9_isSheet) := goodIn_app (goodIn_of _ (by decide +kernel)) ggX9_set_X9_isSheet
set_option maxRecDepth 20000 in
theorem ggX9_sheet_X9_finding : GoodIn wsX9_sheet wsX9_finding := goodIn_r _ [19, 4, 20, 21, 22, 23, 24, 25, 26, 27, 28, 29, 30, 31, 32, 33, 34, 35, 36, 37, 38, 39, 40, 41, 42, 43, 44, 45, 46, 47, 48, 49] (by decide +kernel) (by decide +kernel)
set_option maxRecDepth 20000 in
theorem gX9_sheet_X9_finding : GoodIn wsX9_sheet (wsV RX9 74 RX9 yX9_finding wsX9_finding) := goodIn_app (goodIn_of _ (by decide +kernel)) ggX9_sheet_X9_finding
set_option maxRecDepth 20000 in
theorem ggX9_sheet_X9_in : GoodIn wsX9_sheet wsX9_in := goodIn_r _ [15] (by decide +kernel) (by decide +kernel)
set_option maxRecDepth 20000 in
theorem gX9_sheet_X9_in : GoodIn wsX9_sheet (va_wsS RX9 63 yX9_in wsX9_in) := goodIn_app (goodIn_of _ (by decide +kernel)) ggX9_sheet_X9_in
set_option maxRecDepth 20000 in
theorem ggX9_sheet_X9_isSheet : GoodIn wsX9_sheet wsX9_isSheet := goodIn_r _ [11, 12, 13, 14, 10, 15] (by decide +kernel) (by decide +kernel)
set_option maxRecDepth 20000 in
theorem gX9_sheet_X9_isSheet : GoodIn wsX9_sheet (va_wsS RX9 67 yX9_isSheet wsX9_isSheet) := goodIn_app (goodIn_of _ (by decide +kernel)) ggX9_sheet_X9_isSheet
set_option maxRecDepth 20000 in
theorem ggX9_step_X9_isOne : GoodIn wsX9_step wsX9_isOne := goodIn_r _ [7, 8, 9, 10, 6, 11, 62, 63, 64, 65, 66, 67, 68, 69, 70, 71, 72, 73, 74, 75, 76, 77, 78, 79, 80, 81, 82, 83, 84, 85, 86, 87, 88, 89, 90] (by decide +kernel) (by decide +kernel)
set_option maxRecDepth 20000 in
theorem gX9_step_X9_isOne : GoodIn wsX9_step (wsV RX9 247 RX9 yX9_isOne wsX9_isOne) := goodIn_app (goodIn_of _ (by decide +kernel)) ggX9_step_X9_isOne
set_option maxRecDepth 20000 in
theorem ggX9_step_X9_mayGo : GoodIn wsX9_step wsX9_mayGo := goodIn_r _ [15, 16, 17, 18, 19, 20, 6, 21, 8, 9, 10, 11, 62, 63, 64, 65, 66, 67, 68, 69, 70, 71, 72, 73, 74, 75, 76, 77, 78, 79, 80, 81, 82, 83, 84, 85, 86, 87, 88, 89, 90] (by decide +kernel) (by decide +kernel)
set_option maxRecDepth 20000 in
theorem gX9_step_X9_mayGo : GoodIn wsX9_step (wsV RX9 250 RX9 yX9_mayGo wsX9_mayGo) := goodIn_app (goodIn_of _ (by decide +kernel)) ggX9_step_X9_mayGo
set_option maxRecDepth 20000 in
theorem ggX9_step_X9_steps : GoodIn wsX9_step wsX9_steps := goodIn_r _ [25, 8, 18, 19, 20, 6, 21, 26, 27, 28, 29, 30, 31, 32, 33, 34, 35, 36, 37, 38, 39, 40, 41, 42, 43, 44, 45, 46, 47, 48, 49, 9, 10, 11, 50, 51, 52, 53, 54, 55, 56, 57, 58, 59, 60, 61, 62, 63, 64, 65, 66, 67, 68, 69, 70, 71, 72, 73, 74, 75, 76, 77, 78, 79, 80, 81, 82, 83, 84, 85, 86, 87, 88, 89, 90] (by decide +kernel) (by decide +kernel)
set_option maxRecDepth 20000 in
theorem gX9_step_X9_steps : GoodIn wsX9_step (wsV RX9 253 RX9 yX9_steps wsX9_steps) := goodIn_app (goodIn_of _ (by decide +kernel)) ggX9_step_X9_steps
set_option maxRecDepth 20000 in
theorem ggX9_walk_X9_finding : GoodIn wsX9_walk wsX9_finding := goodIn_r _ [24, 7, 25, 75, 76, 77, 78, 79, 80, 81, 82, 83, 84, 85, 86, 87, 88, 89, 90, 91, 92, 93, 94, 95, 96, 97, 98, 99, 100, 101, 102, 103] (by decide +kernel) (by decide +kernel)
set_option maxRecDepth 20000 in
theorem gX9_walk_X9_finding : GoodIn wsX9_walk (wsV RX9 74 RX9 yX9_finding wsX9_finding) := goodIn_app (goodIn_of _ (by decide +kernel)) ggX9_walk_X9_finding
set_option maxRecDepth 20000 in
theorem ggX9_walk_X9_in : GoodIn wsX9_walk wsX9_in := goodIn_r _ [16] (by decide +kernel) (by decide +kernel)
set_option maxRecDepth 20000 in
theorem gX9_walk_X9_in : GoodIn wsX9_walk (va_wsS RX9 63 yX9_in wsX9_in) := goodIn_app (goodIn_of _ (by decide +kernel)) ggX9_walk_X9_in
set_option maxRecDepth 20000 in
theorem ggX9_walk_X9_isOne : GoodIn wsX9_walk wsX9_isOne := goodIn_r _ [12, 13, 14, 15, 11, 16, 75, 76, 77, 78, 79, 80, 81, 82, 83, 84, 85, 86, 87, 88, 89, 90, 91, 92, 93, 94, 95, 96, 97, 98, 99, 100, 101, 102, 103] (by decide +kernel) (by decide +kernel)
set_option maxRecDepth 20000 in
theorem gX9_walk_X9_isOne : GoodIn wsX9_walk (wsV RX9 247 RX9 yX9_isOne wsX9_isOne) := goodIn_app (goodIn_of _ (by decide +kernel)) ggX9_walk_X9_isOne
set_option maxRecDepth 20000 in
theorem ggX9_walk_X9_isSheet : GoodIn wsX9_walk wsX9_isSheet := goodIn_r _ [19, 20, 14, 15, 11, 16] (by decide +kernel) (by decide +kernel)
set_option maxRecDepth 20000 in
theorem gX9_walk_X9_isSheet : GoodIn wsX9_walk (va_wsS RX9 67 yX9_isSheet wsX9_isSheet) := goodIn_app (goodIn_of _ (by decide +kernel)) ggX9_walk_X9_isSheet
set_option maxRecDepth 20000 in
theorem ggX9_walk_X9_mayGo : GoodIn wsX9_walk wsX9_mayGo := goodIn_r _ [29, 30, 20, 31, 32, 33, 11, 34, 13, 14, 15, 16, 75, 76, 77, 78, 79, 80, 81, 82, 83, 84, 85, 86, 87, 88, 89, 90, 91, 92, 93, 94, 95, 96, 97, 98, 99, 100, 101, 102, 103] (by decide +kernel) (by decide +kernel)
set_option maxRecDepth 20000 in
theorem gX9_walk_X9_mayGo : GoodIn wsX9_walk (wsV RX9 250 RX9 yX9_mayGo wsX9_mayGo) := goodIn_app (goodIn_of _ (by decide +kernel)) ggX9_walk_X9_mayGo
set_option maxRecDepth 20000 in
theorem ggX9_walk_X9_steps : GoodIn wsX9_walk wsX9_steps := goodIn_r _ [38, 13, 31, 32, 33, 11, 34, 39, 40, 41, 42, 43, 44, 45, 46, 47, 48, 49, 50, 51, 52, 53, 54, 55, 56, 57, 58, 59, 60, 61, 62, 14, 15, 16, 63, 64, 65, 66, 67, 68, 69, 70, 71, 72, 73, 74, 75, 76, 77, 78, 79, 80, 81, 82, 83, 84, 85, 86, 87, 88, 89, 90, 91, 92, 93, 94, 95, 96, 97, 98, 99, 100, 101, 102, 103] (by decide +kernel) (by decide +kernel)
set_option maxRecDepth 20000 in
theorem gX9_walk_X9_steps : GoodIn wsX9_walk (wsV RX9 253 RX9 yX9_steps wsX9_steps) := goodIn_app (goodIn_of _ (by decide +kernel)) ggX9_walk_X9_steps
set_option maxRecDepth 20000 in
theorem ggX9_witnesses_X9_isOwner : GoodIn wsX9_witnesses wsX9_isOwner := goodIn_r _ [9, 10, 11, 12, 8, 13] (by decide +kernel) (by decide +kernel)
set_option maxRecDepth 20000 in
theorem gX9_witnesses_X9_isOwner : GoodIn wsX9_witnesses (va_wsS RX9 234 yX9_isOwner wsX9_isOwner) := goodIn_app (goodIn_of _ (by decide +kernel)) ggX9_witnesses_X9_isOwner
theorem dX9_copy_0 : decode cX9_copy 0 = .ok (.aload_n 0, 1) := by decide +kernel
theorem dX9_copy_1 : decode cX9_copy 1 = .ok (.iconst 0, 1) := by decide +kernel
theorem dX9_copy_100 : decode cX9_copy 100 = .ok (.ifCond .gt 21, 3) := by decide +kernel
theorem dX9_copy_103 : decode cX9_copy 103 = .ok (.iload 4, 2) := by decide +kernel
theorem dX9_copy_105 : decode cX9_copy 105 = .ok (.i2l, 1) := by decide +kernel
theorem dX9_copy_106 : decode cX9_copy 106 = .ok (.iload 5, 2) := by decide +kernel
theorem dX9_copy_108 : decode cX9_copy 108 = .ok (.i2l, 1) := by decide +kernel
theorem dX9_copy_109 : decode cX9_copy 109 = .ok (.ladd, 1) := by decide +kernel
theorem dX9_copy_110 : decode cX9_copy 110 = .ok (.aload_n 0, 1) := by decide +kernel
theorem dX9_copy_111 : decode cX9_copy 111 = .ok (.getfield 13, 3) := by decide +kernel
theorem dX9_copy_114 : decode cX9_copy 114 = .ok (.iload_n 3, 1) := by decide +kernel
theorem dX9_copy_115 : decode cX9_copy 115 = .ok (.iaload, 1) := by decide +kernel
theorem dX9_copy_116 : decode cX9_copy 116 = .ok (.i2l, 1) := by decide +kernel
theorem dX9_copy_117 : decode cX9_copy 117 = .ok (.lcmp, 1) := by decide +kernel
theorem dX9_copy_118 : decode cX9_copy 118 = .ok (.ifCond .le 9, 3) := by decide +kernel
theorem dX9_copy_12 : decode cX9_copy 12 = .ok (.iload_n 3, 1) := by decide +kernel
theorem dX9_copy_121 : decode cX9_copy 121 = .ok (.aload_n 0, 1) := by decide +kernel
theorem dX9_copy_122 : decode cX9_copy 122 = .ok (.iconst 2, 1) := by decide +kernel
theorem dX9_copy_123 : decode cX9_copy 123 = .ok (.invokevirtual 74, 3) := by decide +kernel
theorem dX9_copy_126 : decode cX9_copy 126 = .ok (.ireturn, 1) := by decide +kernel
theorem dX9_copy_127 : decode cX9_copy 127 = .ok (.iload_n 2, 1) := by decide +kernel
theorem dX9_copy_128 : decode cX9_copy 128 = .ok (.iload 4, 2) := by decide +kernel
theorem dX9_copy_13 : decode cX9_copy 13 = .ok (.invokestatic 67, 3) := by decide +kernel
theorem dX9_copy_130 : decode cX9_copy 130 = .ok (.if_icmp .lt 7, 3) := by decide +kernel
theorem dX9_copy_133 : decode cX9_copy 133 = .ok (.iconst 1, 1) := by decide +kernel
theorem dX9_copy_134 : decode cX9_copy 134 = .ok (.goto 4, 3) := by decide +kernel
theorem dX9_copy_137 : decode cX9_copy 137 = .ok (.iconst 0, 1) := by decide +kernel
theorem dX9_copy_138 : decode cX9_copy 138 = .ok (.istore 6, 2) := by decide +kernel
theorem dX9_copy_140 : decode cX9_copy 140 = .ok (.iconst 0, 1) := by decide +kernel
theorem dX9_copy_141 : decode cX9_copy 141 = .ok (.istore 7, 2) := by decide +kernel
theorem dX9_copy_143 : decode cX9_copy 143 = .ok (.iload 7, 2) := by decide +kernel
theorem dX9_copy_145 : decode cX9_copy 145 = .ok (.iload 5, 2) := by decide +kernel
theorem dX9_copy_147 : decode cX9_copy 147 = .ok (.if_icmp .ge 57, 3) := by decide +kernel
theorem dX9_copy_150 : decode cX9_copy 150 = .ok (.iload 6, 2) := by decide +kernel
theorem dX9_copy_152 : decode cX9_copy 152 = .ok (.ifCond .eq 8, 3) := by decide +kernel
theorem dX9_copy_155 : decode cX9_copy 155 = .ok (.iload 7, 2) := by decide +kernel
theorem dX9_copy_157 : decode cX9_copy 157 = .ok (.goto 10, 3) := by decide +kernel
theorem dX9_copy_16 : decode cX9_copy 16 = .ok (.ifCond .ne 6, 3) := by decide +kernel
theorem dX9_copy_160 : decode cX9_copy 160 = .ok (.iload 5, 2) := by decide +kernel
theorem dX9_copy_162 : decode cX9_copy 162 = .ok (.iconst 1, 1) := by decide +kernel
theorem dX9_copy_163 : decode cX9_copy 163 = .ok (.isub, 1) := by decide +kernel
theorem dX9_copy_164 : decode cX9_copy 164 = .ok (.iload 7, 2) := by decide +kernel
theorem dX9_copy_166 : decode cX9_copy 166 = .ok (.isub, 1) := by decide +kernel
theorem dX9_copy_167 : decode cX9_copy 167 = .ok (.istore 8, 2) := by decide +kernel
theorem dX9_copy_169 : decode cX9_copy 169 = .ok (.aload_n 0, 1) := by decide +kernel
theorem dX9_copy_170 : decode cX9_copy 170 = .ok (.getfield 16, 3) := by decide +kernel
theorem dX9_copy_173 : decode cX9_copy 173 = .ok (.bipush 40, 2) := by decide +kernel
theorem dX9_copy_175 : decode cX9_copy 175 = .ok (.iload_n 3, 1) := by decide +kernel
theorem dX9_copy_176 : decode cX9_copy 176 = .ok (.imul, 1) := by decide +kernel
theorem dX9_copy_177 : decode cX9_copy 177 = .ok (.iload 4, 2) := by decide +kernel
theorem dX9_copy_179 : decode cX9_copy 179 = .ok (.iadd, 1) := by decide +kernel
theorem dX9_copy_180 : decode cX9_copy 180 = .ok (.iload 8, 2) := by decide +kernel
theorem dX9_copy_182 : decode cX9_copy 182 = .ok (.iadd, 1) := by decide +kernel
theorem dX9_copy_183 : decode cX9_copy 183 = .ok (.aload_n 0, 1) := by decide +kernel
theorem dX9_copy_184 : decode cX9_copy 184 = .ok (.getfield 16, 3) := by decide +kernel
theorem dX9_copy_187 : decode cX9_copy 187 = .ok (.bipush 40, 2) := by decide +kernel
theorem dX9_copy_189 : decode cX9_copy 189 = .ok (.iload_n 1, 1) := by decide +kernel
theorem dX9_copy_19 : decode cX9_copy 19 = .ok (.ldc 73, 2) := by decide +kernel
theorem dX9_copy_190 : decode cX9_copy 190 = .ok (.imul, 1) := by decide +kernel
theorem dX9_copy_191 : decode cX9_copy 191 = .ok (.iload_n 2, 1) := by decide +kernel
theorem dX9_copy_192 : decode cX9_copy 192 = .ok (.iadd, 1) := by decide +kernel
theorem dX9_copy_193 : decode cX9_copy 193 = .ok (.iload 8, 2) := by decide +kernel
theorem dX9_copy_195 : decode cX9_copy 195 = .ok (.iadd, 1) := by decide +kernel
theorem dX9_copy_196 : decode cX9_copy 196 = .ok (.iaload, 1) := by decide +kernel
theorem dX9_copy_197 : decode cX9_copy 197 = .ok (.iastore, 1) := by decide +kernel
theorem dX9_copy_198 : decode cX9_copy 198 = .ok (.iinc 7 1, 3) := by decide +kernel
theorem dX9_copy_2 : decode cX9_copy 2 = .ok (.putfield 53, 3) := by decide +kernel
theorem dX9_copy_201 : decode cX9_copy 201 = .ok (.goto (-58), 3) := by decide +kernel
theorem dX9_copy_204 : decode cX9_copy 204 = .ok (.iload 5, 2) := by decide +kernel
theorem dX9_copy_206 : decode cX9_copy 206 = .ok (.ireturn, 1) := by decide +kernel
theorem dX9_copy_21 : decode cX9_copy 21 = .ok (.ireturn, 1) := by decide +kernel
theorem dX9_copy_22 : decode cX9_copy 22 = .ok (.aload_n 0, 1) := by decide +kernel
theorem dX9_copy_23 : decode cX9_copy 23 = .ok (.iconst 0, 1) := by decide +kernel
theorem dX9_copy_24 : decode cX9_copy 24 = .ok (.putfield 57, 3) := by decide +kernel
theorem dX9_copy_27 : decode cX9_copy 27 = .ok (.aload_n 0, 1) := by decide +kernel
theorem dX9_copy_28 : decode cX9_copy 28 = .ok (.getfield 7, 3) := by decide +kernel
theorem dX9_copy_31 : decode cX9_copy 31 = .ok (.iload_n 1, 1) := by decide +kernel
theorem dX9_copy_32 : decode cX9_copy 32 = .ok (.iaload, 1) := by decide +kernel
theorem dX9_copy_33 : decode cX9_copy 33 = .ok (.ifCond .lt 12, 3) := by decide +kernel
theorem dX9_copy_36 : decode cX9_copy 36 = .ok (.aload_n 0, 1) := by decide +kernel
theorem dX9_copy_37 : decode cX9_copy 37 = .ok (.getfield 7, 3) := by decide +kernel
theorem dX9_copy_40 : decode cX9_copy 40 = .ok (.iload_n 3, 1) := by decide +kernel
theorem dX9_copy_41 : decode cX9_copy 41 = .ok (.iaload, 1) := by decide +kernel
theorem dX9_copy_42 : decode cX9_copy 42 = .ok (.ifCond .ge 9, 3) := by decide +kernel
theorem dX9_copy_45 : decode cX9_copy 45 = .ok (.aload_n 0, 1) := by decide +kernel
theorem dX9_copy_46 : decode cX9_copy 46 = .ok (.iconst 1, 1) := by decide +kernel
theorem dX9_copy_47 : decode cX9_copy 47 = .ok (.invokevirtual 74, 3) := by decide +kernel
theorem dX9_copy_5 : decode cX9_copy 5 = .ok (.iload_n 1, 1) := by decide +kernel
theorem dX9_copy_50 : decode cX9_copy 50 = .ok (.ireturn, 1) := by decide +kernel
theorem dX9_copy_51 : decode cX9_copy 51 = .ok (.aload_n 0, 1) := by decide +kernel
theorem dX9_copy_52 : decode cX9_copy 52 = .ok (.getfield 7, 3) := by decide +kernel
theorem dX9_copy_55 : decode cX9_copy 55 = .ok (.iload_n 1, 1) := by decide +kernel
theorem dX9_copy_56 : decode cX9_copy 56 = .ok (.iaload, 1) := by decide +kernel
theorem dX9_copy_57 : decode cX9_copy 57 = .ok (.aload_n 0, 1) := by decide +kernel
theorem dX9_copy_58 : decode cX9_copy 58 = .ok (.getfield 7, 3) := by decide +kernel
theorem dX9_copy_6 : decode cX9_copy 6 = .ok (.invokestatic 67, 3) := by decide +kernel
theorem dX9_copy_61 : decode cX9_copy 61 = .ok (.iload_n 3, 1) := by decide +kernel
theorem dX9_copy_62 : decode cX9_copy 62 = .ok (.iaload, 1) := by decide +kernel
theorem dX9_copy_63 : decode cX9_copy 63 = .ok (.if_icmp .eq 9, 3) := by decide +kernel
theorem dX9_copy_66 : decode cX9_copy 66 = .ok (.aload_n 0, 1) := by decide +kernel
theorem dX9_copy_67 : decode cX9_copy 67 = .ok (.iconst 5, 1) := by decide +kernel
theorem dX9_copy_68 : decode cX9_copy 68 = .ok (.invokevirtual 74, 3) := by decide +kernel
theorem dX9_copy_71 : decode cX9_copy 71 = .ok (.ireturn, 1) := by decide +kernel
theorem dX9_copy_72 : decode cX9_copy 72 = .ok (.iload_n 2, 1) := by decide +kernel
theorem dX9_copy_73 : decode cX9_copy 73 = .ok (.ifCond .lt 48, 3) := by decide +kernel
theorem dX9_copy_76 : decode cX9_copy 76 = .ok (.iload 4, 2) := by decide +kernel
theorem dX9_copy_78 : decode cX9_copy 78 = .ok (.ifCond .lt 43, 3) := by decide +kernel
theorem dX9_copy_81 : decode cX9_copy 81 = .ok (.iload 5, 2) := by decide +kernel
theorem dX9_copy_83 : decode cX9_copy 83 = .ok (.ifCond .lt 38, 3) := by decide +kernel
theorem dX9_copy_86 : decode cX9_copy 86 = .ok (.iload_n 2, 1) := by decide +kernel
theorem dX9_copy_87 : decode cX9_copy 87 = .ok (.i2l, 1) := by decide +kernel
theorem dX9_copy_88 : decode cX9_copy 88 = .ok (.iload 5, 2) := by decide +kernel
theorem dX9_copy_9 : decode cX9_copy 9 = .ok (.ifCond .eq 10, 3) := by decide +kernel
theorem dX9_copy_90 : decode cX9_copy 90 = .ok (.i2l, 1) := by decide +kernel
theorem dX9_copy_91 : decode cX9_copy 91 = .ok (.ladd, 1) := by decide +kernel
theorem dX9_copy_92 : decode cX9_copy 92 = .ok (.aload_n 0, 1) := by decide +kernel
theorem dX9_copy_93 : decode cX9_copy 93 = .ok (.getfield 13, 3) := by decide +kernel
theorem dX9_copy_96 : decode cX9_copy 96 = .ok (.iload_n 1, 1) := by decide +kernel
theorem dX9_copy_97 : decode cX9_copy 97 = .ok (.iaload, 1) := by decide +kernel
theorem dX9_copy_98 : decode cX9_copy 98 = .ok (.i2l, 1) := by decide +kernel
theorem dX9_copy_99 : decode cX9_copy 99 = .ok (.lcmp, 1) := by decide +kernel
theorem dX9_drop_0 : decode cX9_drop 0 = .ok (.aload_n 0, 1) := by decide +kernel
theorem dX9_drop_1 : decode cX9_drop 1 = .ok (.iconst 0, 1) := by decide +kernel
theorem dX9_drop_12 : decode cX9_drop 12 = .ok (.ldc 73, 2) := by decide +kernel
theorem dX9_drop_14 : decode cX9_drop 14 = .ok (.ireturn, 1) := by decide +kernel
theorem dX9_drop_15 : decode cX9_drop 15 = .ok (.aload_n 0, 1) := by decide +kernel
theorem dX9_drop_16 : decode cX9_drop 16 = .ok (.iconst 0, 1) := by decide +kernel
theorem dX9_drop_17 : decode cX9_drop 17 = .ok (.putfield 57, 3) := by decide +kernel
theorem dX9_drop_2 : decode cX9_drop 2 = .ok (.putfield 53, 3) := by decide +kernel
theorem dX9_drop_20 : decode cX9_drop 20 = .ok (.aload_n 0, 1) := by decide +kernel
theorem dX9_drop_21 : decode cX9_drop 21 = .ok (.getfield 7, 3) := by decide +kernel
theorem dX9_drop_24 : decode cX9_drop 24 = .ok (.iload_n 1, 1) := by decide +kernel
theorem dX9_drop_25 : decode cX9_drop 25 = .ok (.iaload, 1) := by decide +kernel
theorem dX9_drop_26 : decode cX9_drop 26 = .ok (.ifCond .ge 9, 3) := by decide +kernel
theorem dX9_drop_29 : decode cX9_drop 29 = .ok (.aload_n 0, 1) := by decide +kernel
theorem dX9_drop_30 : decode cX9_drop 30 = .ok (.iconst 1, 1) := by decide +kernel
theorem dX9_drop_31 : decode cX9_drop 31 = .ok (.invokevirtual 74, 3) := by decide +kernel
theorem dX9_drop_34 : decode cX9_drop 34 = .ok (.ireturn, 1) := by decide +kernel
theorem dX9_drop_35 : decode cX9_drop 35 = .ok (.aload_n 0, 1) := by decide +kernel
theorem dX9_drop_36 : decode cX9_drop 36 = .ok (.getfield 7, 3) := by decide +kernel
theorem dX9_drop_39 : decode cX9_drop 39 = .ok (.iload_n 1, 1) := by decide +kernel
theorem dX9_drop_40 : decode cX9_drop 40 = .ok (.iconst (-1), 1) := by decide +kernel
theorem dX9_drop_41 : decode cX9_drop 41 = .ok (.iastore, 1) := by decide +kernel
theorem dX9_drop_42 : decode cX9_drop 42 = .ok (.aload_n 0, 1) := by decide +kernel
theorem dX9_drop_43 : decode cX9_drop 43 = .ok (.getfield 13, 3) := by decide +kernel
theorem dX9_drop_46 : decode cX9_drop 46 = .ok (.iload_n 1, 1) := by decide +kernel
theorem dX9_drop_47 : decode cX9_drop 47 = .ok (.iaload, 1) := by decide +kernel
theorem dX9_drop_48 : decode cX9_drop 48 = .ok (.ireturn, 1) := by decide +kernel
theorem dX9_drop_5 : decode cX9_drop 5 = .ok (.iload_n 1, 1) := by decide +kernel
theorem dX9_drop_6 : decode cX9_drop 6 = .ok (.invokestatic 67, 3) := by decide +kernel
theorem dX9_drop_9 : decode cX9_drop 9 = .ok (.ifCond .ne 6, 3) := by decide +kernel
theorem dX9_fault_0 : decode cX9_fault 0 = .ok (.aload_n 0, 1) := by decide +kernel
theorem dX9_fault_1 : decode cX9_fault 1 = .ok (.iconst 0, 1) := by decide +kernel
theorem dX9_fault_2 : decode cX9_fault 2 = .ok (.putfield 53, 3) := by decide +kernel
theorem dX9_fault_5 : decode cX9_fault 5 = .ok (.aload_n 0, 1) := by decide +kernel
theorem dX9_fault_6 : decode cX9_fault 6 = .ok (.getfield 181, 3) := by decide +kernel
theorem dX9_fault_9 : decode cX9_fault 9 = .ok (.ireturn, 1) := by decide +kernel
theorem dX9_feed_0 : decode cX9_feed 0 = .ok (.aload_n 0, 1) := by decide +kernel
theorem dX9_feed_1 : decode cX9_feed 1 = .ok (.iconst 0, 1) := by decide +kernel
theorem dX9_feed_11 : decode cX9_feed 11 = .ok (.invokestatic 63, 3) := by decide +kernel
theorem dX9_feed_14 : decode cX9_feed 14 = .ok (.ifCond .ne 6, 3) := by decide +kernel
theorem dX9_feed_17 : decode cX9_feed 17 = .ok (.ldc 73, 2) := by decide +kernel
theorem dX9_feed_19 : decode cX9_feed 19 = .ok (.ireturn, 1) := by decide +kernel
theorem dX9_feed_2 : decode cX9_feed 2 = .ok (.putfield 53, 3) := by decide +kernel
theorem dX9_feed_20 : decode cX9_feed 20 = .ok (.aload_n 0, 1) := by decide +kernel
theorem dX9_feed_21 : decode cX9_feed 21 = .ok (.getfield 80, 3) := by decide +kernel
theorem dX9_feed_24 : decode cX9_feed 24 = .ok (.iload_n 3, 1) := by decide +kernel
theorem dX9_feed_25 : decode cX9_feed 25 = .ok (.iadd, 1) := by decide +kernel
theorem dX9_feed_26 : decode cX9_feed 26 = .ok (.sipush 400, 3) := by decide +kernel
theorem dX9_feed_29 : decode cX9_feed 29 = .ok (.if_icmp .le 6, 3) := by decide +kernel
theorem dX9_feed_32 : decode cX9_feed 32 = .ok (.ldc 83, 2) := by decide +kernel
theorem dX9_feed_34 : decode cX9_feed 34 = .ok (.ireturn, 1) := by decide +kernel
theorem dX9_feed_35 : decode cX9_feed 35 = .ok (.iload_n 3, 1) := by decide +kernel
theorem dX9_feed_36 : decode cX9_feed 36 = .ok (.iconst 1, 1) := by decide +kernel
theorem dX9_feed_37 : decode cX9_feed 37 = .ok (.isub, 1) := by decide +kernel
theorem dX9_feed_38 : decode cX9_feed 38 = .ok (.istore 4, 2) := by decide +kernel
theorem dX9_feed_40 : decode cX9_feed 40 = .ok (.iload 4, 2) := by decide +kernel
theorem dX9_feed_42 : decode cX9_feed 42 = .ok (.ifCond .lt 40, 3) := by decide +kernel
theorem dX9_feed_45 : decode cX9_feed 45 = .ok (.aload_n 0, 1) := by decide +kernel
theorem dX9_feed_46 : decode cX9_feed 46 = .ok (.getfield 25, 3) := by decide +kernel
theorem dX9_feed_49 : decode cX9_feed 49 = .ok (.aload_n 0, 1) := by decide +kernel
theorem dX9_feed_5 : decode cX9_feed 5 = .ok (.iload_n 3, 1) := by decide +kernel
theorem dX9_feed_50 : decode cX9_feed 50 = .ok (.getfield 80, 3) := by decide +kernel
theorem dX9_feed_53 : decode cX9_feed 53 = .ok (.lload_n 1, 1) := by decide +kernel
theorem dX9_feed_54 : decode cX9_feed 54 = .ok (.bipush 8, 2) := by decide +kernel
theorem dX9_feed_56 : decode cX9_feed 56 = .ok (.iload 4, 2) := by decide +kernel
theorem dX9_feed_58 : decode cX9_feed 58 = .ok (.imul, 1) := by decide +kernel
theorem dX9_feed_59 : decode cX9_feed 59 = .ok (.lshr, 1) := by decide +kernel
theorem dX9_feed_6 : decode cX9_feed 6 = .ok (.i2l, 1) := by decide +kernel
theorem dX9_feed_60 : decode cX9_feed 60 = .ok (.ldc2_w 84, 3) := by decide +kernel
theorem dX9_feed_63 : decode cX9_feed 63 = .ok (.land, 1) := by decide +kernel
theorem dX9_feed_64 : decode cX9_feed 64 = .ok (.l2i, 1) := by decide +kernel
theorem dX9_feed_65 : decode cX9_feed 65 = .ok (.iastore, 1) := by decide +kernel
theorem dX9_feed_66 : decode cX9_feed 66 = .ok (.aload_n 0, 1) := by decide +kernel
theorem dX9_feed_67 : decode cX9_feed 67 = .ok (.dup, 1) := by decide +kernel
theorem dX9_feed_68 : decode cX9_feed 68 = .ok (.getfield 80, 3) := by decide +kernel
theorem dX9_feed_7 : decode cX9_feed 7 = .ok (.lconst 1, 1) := by decide +kernel
theorem dX9_feed_71 : decode cX9_feed 71 = .ok (.iconst 1, 1) := by decide +kernel
theorem dX9_feed_72 : decode cX9_feed 72 = .ok (.iadd, 1) := by decide +kernel
theorem dX9_feed_73 : decode cX9_feed 73 = .ok (.putfield 80, 3) := by decide +kernel
theorem dX9_feed_76 : decode cX9_feed 76 = .ok (.iinc 4 (-1), 3) := by decide +kernel
theorem dX9_feed_79 : decode cX9_feed 79 = .ok (.goto (-39), 3) := by decide +kernel
theorem dX9_feed_8 : decode cX9_feed 8 = .ok (.ldc2_w 78, 3) := by decide +kernel
theorem dX9_feed_82 : decode cX9_feed 82 = .ok (.aload_n 0, 1) := by decide +kernel
theorem dX9_feed_83 : decode cX9_feed 83 = .ok (.getfield 80, 3) := by decide +kernel
theorem dX9_feed_86 : decode cX9_feed 86 = .ok (.ireturn, 1) := by decide +kernel
theorem dX9_got_0 : decode cX9_got 0 = .ok (.aload_n 0, 1) := by decide +kernel
theorem dX9_got_1 : decode cX9_got 1 = .ok (.iconst 0, 1) := by decide +kernel
theorem dX9_got_12 : decode cX9_got 12 = .ok (.ldc 233, 2) := by decide +kernel
theorem dX9_got_14 : decode cX9_got 14 = .ok (.ireturn, 1) := by decide +kernel
theorem dX9_got_15 : decode cX9_got 15 = .ok (.iconst 0, 1) := by decide +kernel
theorem dX9_got_16 : decode cX9_got 16 = .ok (.istore_n 2, 1) := by decide +kernel
theorem dX9_got_17 : decode cX9_got 17 = .ok (.iconst 0, 1) := by decide +kernel
theorem dX9_got_18 : decode cX9_got 18 = .ok (.istore_n 3, 1) := by decide +kernel
theorem dX9_got_19 : decode cX9_got 19 = .ok (.iload_n 3, 1) := by decide +kernel
theorem dX9_got_2 : decode cX9_got 2 = .ok (.putfield 53, 3) := by decide +kernel
theorem dX9_got_20 : decode cX9_got 20 = .ok (.aload_n 0, 1) := by decide +kernel
theorem dX9_got_21 : decode cX9_got 21 = .ok (.getfield 19, 3) := by decide +kernel
theorem dX9_got_24 : decode cX9_got 24 = .ok (.iconst 3, 1) := by decide +kernel
theorem dX9_got_25 : decode cX9_got 25 = .ok (.iaload, 1) := by decide +kernel
theorem dX9_got_26 : decode cX9_got 26 = .ok (.if_icmp .ge 33, 3) := by decide +kernel
theorem dX9_got_29 : decode cX9_got 29 = .ok (.iload_n 1, 1) := by decide +kernel
theorem dX9_got_30 : decode cX9_got 30 = .ok (.invokestatic 234, 3) := by decide +kernel
theorem dX9_got_33 : decode cX9_got 33 = .ok (.ifCond .eq 26, 3) := by decide +kernel
theorem dX9_got_36 : decode cX9_got 36 = .ok (.iload_n 2, 1) := by decide +kernel
theorem dX9_got_37 : decode cX9_got 37 = .ok (.aload_n 0, 1) := by decide +kernel
theorem dX9_got_38 : decode cX9_got 38 = .ok (.getfield 19, 3) := by decide +kernel
theorem dX9_got_41 : decode cX9_got 41 = .ok (.bipush 120, 2) := by decide +kernel
theorem dX9_got_43 : decode cX9_got 43 = .ok (.bipush 6, 2) := by decide +kernel
theorem dX9_got_45 : decode cX9_got 45 = .ok (.iload_n 3, 1) := by decide +kernel
theorem dX9_got_46 : decode cX9_got 46 = .ok (.imul, 1) := by decide +kernel
theorem dX9_got_47 : decode cX9_got 47 = .ok (.iadd, 1) := by decide +kernel
theorem dX9_got_48 : decode cX9_got 48 = .ok (.iload_n 1, 1) := by decide +kernel
theorem dX9_got_49 : decode cX9_got 49 = .ok (.iadd, 1) := by decide +kernel
theorem dX9_got_5 : decode cX9_got 5 = .ok (.aload_n 0, 1) := by decide +kernel
theorem dX9_got_50 : decode cX9_got 50 = .ok (.iaload, 1) := by decide +kernel
theorem dX9_got_51 : decode cX9_got 51 = .ok (.iadd, 1) := by decide +kernel
theorem dX9_got_52 : decode cX9_got 52 = .ok (.istore_n 2, 1) := by decide +kernel
theorem dX9_got_53 : decode cX9_got 53 = .ok (.iinc 3 1, 3) := by decide +kernel
theorem dX9_got_56 : decode cX9_got 56 = .ok (.goto (-37), 3) := by decide +kernel
theorem dX9_got_59 : decode cX9_got 59 = .ok (.iload_n 1, 1) := by decide +kernel
theorem dX9_got_6 : decode cX9_got 6 = .ok (.getfield 185, 3) := by decide +kernel
theorem dX9_got_60 : decode cX9_got 60 = .ok (.invokestatic 234, 3) := by decide +kernel
theorem dX9_got_63 : decode cX9_got 63 = .ok (.ifCond .eq 7, 3) := by decide +kernel
theorem dX9_got_66 : decode cX9_got 66 = .ok (.iload_n 2, 1) := by decide +kernel
theorem dX9_got_67 : decode cX9_got 67 = .ok (.goto 5, 3) := by decide +kernel
theorem dX9_got_70 : decode cX9_got 70 = .ok (.ldc 73, 2) := by decide +kernel
theorem dX9_got_72 : decode cX9_got 72 = .ok (.ireturn, 1) := by decide +kernel
theorem dX9_got_9 : decode cX9_got 9 = .ok (.ifCond .ne 6, 3) := by decide +kernel
theorem dX9_look_0 : decode cX9_look 0 = .ok (.aload_n 0, 1) := by decide +kernel
theorem dX9_look_1 : decode cX9_look 1 = .ok (.iconst 0, 1) := by decide +kernel
theorem dX9_look_10 : decode cX9_look 10 = .ok (.ifCond .eq 22, 3) := by decide +kernel
theorem dX9_look_13 : decode cX9_look 13 = .ok (.iload_n 2, 1) := by decide +kernel
theorem dX9_look_14 : decode cX9_look 14 = .ok (.invokestatic 222, 3) := by decide +kernel
theorem dX9_look_17 : decode cX9_look 17 = .ok (.ifCond .eq 15, 3) := by decide +kernel
theorem dX9_look_2 : decode cX9_look 2 = .ok (.putfield 53, 3) := by decide +kernel
theorem dX9_look_20 : decode cX9_look 20 = .ok (.iload_n 3, 1) := by decide +kernel
theorem dX9_look_21 : decode cX9_look 21 = .ok (.i2l, 1) := by decide +kernel
theorem dX9_look_22 : decode cX9_look 22 = .ok (.lconst 0, 1) := by decide +kernel
theorem dX9_look_23 : decode cX9_look 23 = .ok (.ldc2_w 71, 3) := by decide +kernel
theorem dX9_look_26 : decode cX9_look 26 = .ok (.invokestatic 63, 3) := by decide +kernel
theorem dX9_look_29 : decode cX9_look 29 = .ok (.ifCond .ne 6, 3) := by decide +kernel
theorem dX9_look_32 : decode cX9_look 32 = .ok (.ldc 73, 2) := by decide +kernel
theorem dX9_look_34 : decode cX9_look 34 = .ok (.ireturn, 1) := by decide +kernel
theorem dX9_look_35 : decode cX9_look 35 = .ok (.aload_n 0, 1) := by decide +kernel
theorem dX9_look_36 : decode cX9_look 36 = .ok (.iload_n 1, 1) := by decide +kernel
theorem dX9_look_37 : decode cX9_look 37 = .ok (.iload_n 2, 1) := by decide +kernel
theorem dX9_look_38 : decode cX9_look 38 = .ok (.invokevirtual 225, 3) := by decide +kernel
theorem dX9_look_41 : decode cX9_look 41 = .ok (.iload_n 3, 1) := by decide +kernel
theorem dX9_look_42 : decode cX9_look 42 = .ok (.ifCond .ne 22, 3) := by decide +kernel
theorem dX9_look_45 : decode cX9_look 45 = .ok (.aload_n 0, 1) := by decide +kernel
theorem dX9_look_46 : decode cX9_look 46 = .ok (.getfield 213, 3) := by decide +kernel
theorem dX9_look_49 : decode cX9_look 49 = .ok (.ifCond .ge 8, 3) := by decide +kernel
theorem dX9_look_5 : decode cX9_look 5 = .ok (.aload_n 0, 1) := by decide +kernel
theorem dX9_look_52 : decode cX9_look 52 = .ok (.ldc 89, 2) := by decide +kernel
theorem dX9_look_54 : decode cX9_look 54 = .ok (.goto 26, 3) := by decide +kernel
theorem dX9_look_57 : decode cX9_look 57 = .ok (.aload_n 0, 1) := by decide +kernel
theorem dX9_look_58 : decode cX9_look 58 = .ok (.getfield 213, 3) := by decide +kernel
theorem dX9_look_6 : decode cX9_look 6 = .ok (.iload_n 1, 1) := by decide +kernel
theorem dX9_look_61 : decode cX9_look 61 = .ok (.goto 19, 3) := by decide +kernel
theorem dX9_look_64 : decode cX9_look 64 = .ok (.iload_n 3, 1) := by decide +kernel
theorem dX9_look_65 : decode cX9_look 65 = .ok (.iconst 1, 1) := by decide +kernel
theorem dX9_look_66 : decode cX9_look 66 = .ok (.if_icmp .ne 10, 3) := by decide +kernel
theorem dX9_look_69 : decode cX9_look 69 = .ok (.aload_n 0, 1) := by decide +kernel
theorem dX9_look_7 : decode cX9_look 7 = .ok (.invokevirtual 219, 3) := by decide +kernel
theorem dX9_look_70 : decode cX9_look 70 = .ok (.invokevirtual 228, 3) := by decide +kernel
theorem dX9_look_73 : decode cX9_look 73 = .ok (.goto 7, 3) := by decide +kernel
theorem dX9_look_76 : decode cX9_look 76 = .ok (.aload_n 0, 1) := by decide +kernel
theorem dX9_look_77 : decode cX9_look 77 = .ok (.getfield 207, 3) := by decide +kernel
theorem dX9_look_80 : decode cX9_look 80 = .ok (.ireturn, 1) := by decide +kernel
theorem dX9_person_0 : decode cX9_person 0 = .ok (.aload_n 0, 1) := by decide +kernel
theorem dX9_person_1 : decode cX9_person 1 = .ok (.iconst 0, 1) := by decide +kernel
theorem dX9_person_10 : decode cX9_person 10 = .ok (.ifCond .ne 6, 3) := by decide +kernel
theorem dX9_person_101 : decode cX9_person 101 = .ok (.iload_n 3, 1) := by decide +kernel
theorem dX9_person_102 : decode cX9_person 102 = .ok (.aload_n 0, 1) := by decide +kernel
theorem dX9_person_103 : decode cX9_person 103 = .ok (.getfield 19, 3) := by decide +kernel
theorem dX9_person_106 : decode cX9_person 106 = .ok (.bipush 120, 2) := by decide +kernel
theorem dX9_person_108 : decode cX9_person 108 = .ok (.bipush 6, 2) := by decide +kernel
theorem dX9_person_110 : decode cX9_person 110 = .ok (.iload_n 1, 1) := by decide +kernel
theorem dX9_person_111 : decode cX9_person 111 = .ok (.imul, 1) := by decide +kernel
theorem dX9_person_112 : decode cX9_person 112 = .ok (.iadd, 1) := by decide +kernel
theorem dX9_person_113 : decode cX9_person 113 = .ok (.iload 4, 2) := by decide +kernel
theorem dX9_person_115 : decode cX9_person 115 = .ok (.iadd, 1) := by decide +kernel
theorem dX9_person_116 : decode cX9_person 116 = .ok (.iaload, 1) := by decide +kernel
theorem dX9_person_117 : decode cX9_person 117 = .ok (.iadd, 1) := by decide +kernel
theorem dX9_person_118 : decode cX9_person 118 = .ok (.istore_n 3, 1) := by decide +kernel
theorem dX9_person_119 : decode cX9_person 119 = .ok (.iinc 4 1, 3) := by decide +kernel
theorem dX9_person_122 : decode cX9_person 122 = .ok (.goto (-28), 3) := by decide +kernel
theorem dX9_person_125 : decode cX9_person 125 = .ok (.iload_n 2, 1) := by decide +kernel
theorem dX9_person_126 : decode cX9_person 126 = .ok (.iconst 3, 1) := by decide +kernel
theorem dX9_person_127 : decode cX9_person 127 = .ok (.if_icmp .ne 7, 3) := by decide +kernel
theorem dX9_person_13 : decode cX9_person 13 = .ok (.ldc 73, 2) := by decide +kernel
theorem dX9_person_130 : decode cX9_person 130 = .ok (.iload_n 3, 1) := by decide +kernel
theorem dX9_person_131 : decode cX9_person 131 = .ok (.goto 35, 3) := by decide +kernel
theorem dX9_person_134 : decode cX9_person 134 = .ok (.iload_n 2, 1) := by decide +kernel
theorem dX9_person_135 : decode cX9_person 135 = .ok (.i2l, 1) := by decide +kernel
theorem dX9_person_136 : decode cX9_person 136 = .ok (.lconst 0, 1) := by decide +kernel
theorem dX9_person_137 : decode cX9_person 137 = .ok (.ldc2_w 264, 3) := by decide +kernel
theorem dX9_person_140 : decode cX9_person 140 = .ok (.invokestatic 63, 3) := by decide +kernel
theorem dX9_person_143 : decode cX9_person 143 = .ok (.ifCond .eq 21, 3) := by decide +kernel
theorem dX9_person_146 : decode cX9_person 146 = .ok (.aload_n 0, 1) := by decide +kernel
theorem dX9_person_147 : decode cX9_person 147 = .ok (.iload_n 1, 1) := by decide +kernel
theorem dX9_person_148 : decode cX9_person 148 = .ok (.iload_n 2, 1) := by decide +kernel
theorem dX9_person_149 : decode cX9_person 149 = .ok (.iconst 4, 1) := by decide +kernel
theorem dX9_person_15 : decode cX9_person 15 = .ok (.ireturn, 1) := by decide +kernel
theorem dX9_person_150 : decode cX9_person 150 = .ok (.if_icmp .ne 7, 3) := by decide +kernel
theorem dX9_person_153 : decode cX9_person 153 = .ok (.iconst 3, 1) := by decide +kernel
theorem dX9_person_154 : decode cX9_person 154 = .ok (.goto 4, 3) := by decide +kernel
theorem dX9_person_157 : decode cX9_person 157 = .ok (.iload_n 2, 1) := by decide +kernel
theorem dX9_person_158 : decode cX9_person 158 = .ok (.invokevirtual 239, 3) := by decide +kernel
theorem dX9_person_16 : decode cX9_person 16 = .ok (.iload_n 2, 1) := by decide +kernel
theorem dX9_person_161 : decode cX9_person 161 = .ok (.goto 5, 3) := by decide +kernel
theorem dX9_person_164 : decode cX9_person 164 = .ok (.ldc 73, 2) := by decide +kernel
theorem dX9_person_166 : decode cX9_person 166 = .ok (.ireturn, 1) := by decide +kernel
theorem dX9_person_17 : decode cX9_person 17 = .ok (.i2l, 1) := by decide +kernel
theorem dX9_person_18 : decode cX9_person 18 = .ok (.ldc2_w 258, 3) := by decide +kernel
theorem dX9_person_2 : decode cX9_person 2 = .ok (.putfield 53, 3) := by decide +kernel
theorem dX9_person_21 : decode cX9_person 21 = .ok (.ldc2_w 242, 3) := by decide +kernel
theorem dX9_person_24 : decode cX9_person 24 = .ok (.invokestatic 63, 3) := by decide +kernel
theorem dX9_person_27 : decode cX9_person 27 = .ok (.ifCond .ne 17, 3) := by decide +kernel
theorem dX9_person_30 : decode cX9_person 30 = .ok (.iload_n 2, 1) := by decide +kernel
theorem dX9_person_31 : decode cX9_person 31 = .ok (.i2l, 1) := by decide +kernel
theorem dX9_person_32 : decode cX9_person 32 = .ok (.ldc2_w 260, 3) := by decide +kernel
theorem dX9_person_35 : decode cX9_person 35 = .ok (.ldc2_w 262, 3) := by decide +kernel
theorem dX9_person_38 : decode cX9_person 38 = .ok (.invokestatic 63, 3) := by decide +kernel
theorem dX9_person_41 : decode cX9_person 41 = .ok (.ifCond .eq 48, 3) := by decide +kernel
theorem dX9_person_44 : decode cX9_person 44 = .ok (.iload_n 2, 1) := by decide +kernel
theorem dX9_person_45 : decode cX9_person 45 = .ok (.bipush 20, 2) := by decide +kernel
theorem dX9_person_47 : decode cX9_person 47 = .ok (.if_icmp .ge 23, 3) := by decide +kernel
theorem dX9_person_5 : decode cX9_person 5 = .ok (.aload_n 0, 1) := by decide +kernel
theorem dX9_person_50 : decode cX9_person 50 = .ok (.aload_n 0, 1) := by decide +kernel
theorem dX9_person_51 : decode cX9_person 51 = .ok (.getfield 19, 3) := by decide +kernel
theorem dX9_person_54 : decode cX9_person 54 = .ok (.bipush 120, 2) := by decide +kernel
theorem dX9_person_56 : decode cX9_person 56 = .ok (.bipush 6, 2) := by decide +kernel
theorem dX9_person_58 : decode cX9_person 58 = .ok (.iload_n 1, 1) := by decide +kernel
theorem dX9_person_59 : decode cX9_person 59 = .ok (.imul, 1) := by decide +kernel
theorem dX9_person_6 : decode cX9_person 6 = .ok (.iload_n 1, 1) := by decide +kernel
theorem dX9_person_60 : decode cX9_person 60 = .ok (.iadd, 1) := by decide +kernel
theorem dX9_person_61 : decode cX9_person 61 = .ok (.iload_n 2, 1) := by decide +kernel
theorem dX9_person_62 : decode cX9_person 62 = .ok (.iadd, 1) := by decide +kernel
theorem dX9_person_63 : decode cX9_person 63 = .ok (.bipush 10, 2) := by decide +kernel
theorem dX9_person_65 : decode cX9_person 65 = .ok (.isub, 1) := by decide +kernel
theorem dX9_person_66 : decode cX9_person 66 = .ok (.iaload, 1) := by decide +kernel
theorem dX9_person_67 : decode cX9_person 67 = .ok (.goto 21, 3) := by decide +kernel
theorem dX9_person_7 : decode cX9_person 7 = .ok (.invokevirtual 247, 3) := by decide +kernel
theorem dX9_person_70 : decode cX9_person 70 = .ok (.aload_n 0, 1) := by decide +kernel
theorem dX9_person_71 : decode cX9_person 71 = .ok (.getfield 19, 3) := by decide +kernel
theorem dX9_person_74 : decode cX9_person 74 = .ok (.sipush 156, 3) := by decide +kernel
theorem dX9_person_77 : decode cX9_person 77 = .ok (.bipush 6, 2) := by decide +kernel
theorem dX9_person_79 : decode cX9_person 79 = .ok (.iload_n 1, 1) := by decide +kernel
theorem dX9_person_80 : decode cX9_person 80 = .ok (.imul, 1) := by decide +kernel
theorem dX9_person_81 : decode cX9_person 81 = .ok (.iadd, 1) := by decide +kernel
theorem dX9_person_82 : decode cX9_person 82 = .ok (.iload_n 2, 1) := by decide +kernel
theorem dX9_person_83 : decode cX9_person 83 = .ok (.iadd, 1) := by decide +kernel
theorem dX9_person_84 : decode cX9_person 84 = .ok (.bipush 20, 2) := by decide +kernel
theorem dX9_person_86 : decode cX9_person 86 = .ok (.isub, 1) := by decide +kernel
theorem dX9_person_87 : decode cX9_person 87 = .ok (.iaload, 1) := by decide +kernel
theorem dX9_person_88 : decode cX9_person 88 = .ok (.ireturn, 1) := by decide +kernel
theorem dX9_person_89 : decode cX9_person 89 = .ok (.iconst 0, 1) := by decide +kernel
theorem dX9_person_90 : decode cX9_person 90 = .ok (.istore_n 3, 1) := by decide +kernel
theorem dX9_person_91 : decode cX9_person 91 = .ok (.iconst 0, 1) := by decide +kernel
theorem dX9_person_92 : decode cX9_person 92 = .ok (.istore 4, 2) := by decide +kernel
theorem dX9_person_94 : decode cX9_person 94 = .ok (.iload 4, 2) := by decide +kernel
theorem dX9_person_96 : decode cX9_person 96 = .ok (.bipush 6, 2) := by decide +kernel
theorem dX9_person_98 : decode cX9_person 98 = .ok (.if_icmp .ge 27, 3) := by decide +kernel
theorem dX9_price_0 : decode cX9_price 0 = .ok (.aload_n 0, 1) := by decide +kernel
theorem dX9_price_1 : decode cX9_price 1 = .ok (.iconst 0, 1) := by decide +kernel
theorem dX9_price_12 : decode cX9_price 12 = .ok (.ldc 233, 2) := by decide +kernel
theorem dX9_price_14 : decode cX9_price 14 = .ok (.ireturn, 1) := by decide +kernel
theorem dX9_price_15 : decode cX9_price 15 = .ok (.iload_n 1, 1) := by decide +kernel
theorem dX9_price_16 : decode cX9_price 16 = .ok (.invokestatic 234, 3) := by decide +kernel
theorem dX9_price_19 : decode cX9_price 19 = .ok (.ifCond .eq 15, 3) := by decide +kernel
theorem dX9_price_2 : decode cX9_price 2 = .ok (.putfield 53, 3) := by decide +kernel
theorem dX9_price_22 : decode cX9_price 22 = .ok (.iload_n 2, 1) := by decide +kernel
theorem dX9_price_23 : decode cX9_price 23 = .ok (.i2l, 1) := by decide +kernel
theorem dX9_price_24 : decode cX9_price 24 = .ok (.lconst 0, 1) := by decide +kernel
theorem dX9_price_25 : decode cX9_price 25 = .ok (.ldc2_w 237, 3) := by decide +kernel
theorem dX9_price_28 : decode cX9_price 28 = .ok (.invokestatic 63, 3) := by decide +kernel
theorem dX9_price_31 : decode cX9_price 31 = .ok (.ifCond .ne 6, 3) := by decide +kernel
theorem dX9_price_34 : decode cX9_price 34 = .ok (.ldc 73, 2) := by decide +kernel
theorem dX9_price_36 : decode cX9_price 36 = .ok (.ireturn, 1) := by decide +kernel
theorem dX9_price_37 : decode cX9_price 37 = .ok (.aload_n 0, 1) := by decide +kernel
theorem dX9_price_38 : decode cX9_price 38 = .ok (.getfield 19, 3) := by decide +kernel
theorem dX9_price_41 : decode cX9_price 41 = .ok (.bipush 84, 2) := by decide +kernel
theorem dX9_price_43 : decode cX9_price 43 = .ok (.iload_n 1, 1) := by decide +kernel
theorem dX9_price_44 : decode cX9_price 44 = .ok (.iadd, 1) := by decide +kernel
theorem dX9_price_45 : decode cX9_price 45 = .ok (.iaload, 1) := by decide +kernel
theorem dX9_price_46 : decode cX9_price 46 = .ok (.istore_n 3, 1) := by decide +kernel
theorem dX9_price_47 : decode cX9_price 47 = .ok (.aload_n 0, 1) := by decide +kernel
theorem dX9_price_48 : decode cX9_price 48 = .ok (.getfield 19, 3) := by decide +kernel
theorem dX9_price_5 : decode cX9_price 5 = .ok (.aload_n 0, 1) := by decide +kernel
theorem dX9_price_51 : decode cX9_price 51 = .ok (.bipush 84, 2) := by decide +kernel
theorem dX9_price_53 : decode cX9_price 53 = .ok (.iload_n 1, 1) := by decide +kernel
theorem dX9_price_54 : decode cX9_price 54 = .ok (.iadd, 1) := by decide +kernel
theorem dX9_price_55 : decode cX9_price 55 = .ok (.iload_n 2, 1) := by decide +kernel
theorem dX9_price_56 : decode cX9_price 56 = .ok (.iastore, 1) := by decide +kernel
theorem dX9_price_57 : decode cX9_price 57 = .ok (.iload_n 3, 1) := by decide +kernel
theorem dX9_price_58 : decode cX9_price 58 = .ok (.ireturn, 1) := by decide +kernel
theorem dX9_price_6 : decode cX9_price 6 = .ok (.getfield 185, 3) := by decide +kernel
theorem dX9_price_9 : decode cX9_price 9 = .ok (.ifCond .ne 6, 3) := by decide +kernel
theorem dX9_set_0 : decode cX9_set 0 = .ok (.aload_n 0, 1) := by decide +kernel
theorem dX9_set_1 : decode cX9_set 1 = .ok (.iconst 0, 1) := by decide +kernel
theorem dX9_set_100 : decode cX9_set 100 = .ok (.aload_n 0, 1) := by decide +kernel
theorem dX9_set_101 : decode cX9_set 101 = .ok (.getfield 16, 3) := by decide +kernel
theorem dX9_set_104 : decode cX9_set 104 = .ok (.bipush 40, 2) := by decide +kernel
theorem dX9_set_106 : decode cX9_set 106 = .ok (.iload_n 1, 1) := by decide +kernel
theorem dX9_set_107 : decode cX9_set 107 = .ok (.imul, 1) := by decide +kernel
theorem dX9_set_108 : decode cX9_set 108 = .ok (.iload_n 2, 1) := by decide +kernel
theorem dX9_set_109 : decode cX9_set 109 = .ok (.iadd, 1) := by decide +kernel
theorem dX9_set_110 : decode cX9_set 110 = .ok (.iaload, 1) := by decide +kernel
theorem dX9_set_111 : decode cX9_set 111 = .ok (.ireturn, 1) := by decide +kernel
theorem dX9_set_12 : decode cX9_set 12 = .ok (.ldc 73, 2) := by decide +kernel
theorem dX9_set_14 : decode cX9_set 14 = .ok (.ireturn, 1) := by decide +kernel
theorem dX9_set_15 : decode cX9_set 15 = .ok (.aload_n 0, 1) := by decide +kernel
theorem dX9_set_16 : decode cX9_set 16 = .ok (.iconst 0, 1) := by decide +kernel
theorem dX9_set_17 : decode cX9_set 17 = .ok (.putfield 57, 3) := by decide +kernel
theorem dX9_set_2 : decode cX9_set 2 = .ok (.putfield 53, 3) := by decide +kernel
theorem dX9_set_20 : decode cX9_set 20 = .ok (.aload_n 0, 1) := by decide +kernel
theorem dX9_set_21 : decode cX9_set 21 = .ok (.getfield 7, 3) := by decide +kernel
theorem dX9_set_24 : decode cX9_set 24 = .ok (.iload_n 1, 1) := by decide +kernel
theorem dX9_set_25 : decode cX9_set 25 = .ok (.iaload, 1) := by decide +kernel
theorem dX9_set_26 : decode cX9_set 26 = .ok (.ifCond .ge 9, 3) := by decide +kernel
theorem dX9_set_29 : decode cX9_set 29 = .ok (.aload_n 0, 1) := by decide +kernel
theorem dX9_set_30 : decode cX9_set 30 = .ok (.iconst 1, 1) := by decide +kernel
theorem dX9_set_31 : decode cX9_set 31 = .ok (.invokevirtual 74, 3) := by decide +kernel
theorem dX9_set_34 : decode cX9_set 34 = .ok (.ireturn, 1) := by decide +kernel
theorem dX9_set_35 : decode cX9_set 35 = .ok (.iload_n 2, 1) := by decide +kernel
theorem dX9_set_36 : decode cX9_set 36 = .ok (.i2l, 1) := by decide +kernel
theorem dX9_set_37 : decode cX9_set 37 = .ok (.lconst 0, 1) := by decide +kernel
theorem dX9_set_38 : decode cX9_set 38 = .ok (.aload_n 0, 1) := by decide +kernel
theorem dX9_set_39 : decode cX9_set 39 = .ok (.getfield 13, 3) := by decide +kernel
theorem dX9_set_42 : decode cX9_set 42 = .ok (.iload_n 1, 1) := by decide +kernel
theorem dX9_set_43 : decode cX9_set 43 = .ok (.iaload, 1) := by decide +kernel
theorem dX9_set_44 : decode cX9_set 44 = .ok (.iconst 1, 1) := by decide +kernel
theorem dX9_set_45 : decode cX9_set 45 = .ok (.isub, 1) := by decide +kernel
theorem dX9_set_46 : decode cX9_set 46 = .ok (.i2l, 1) := by decide +kernel
theorem dX9_set_47 : decode cX9_set 47 = .ok (.invokestatic 63, 3) := by decide +kernel
theorem dX9_set_5 : decode cX9_set 5 = .ok (.iload_n 1, 1) := by decide +kernel
theorem dX9_set_50 : decode cX9_set 50 = .ok (.ifCond .ne 9, 3) := by decide +kernel
theorem dX9_set_53 : decode cX9_set 53 = .ok (.aload_n 0, 1) := by decide +kernel
theorem dX9_set_54 : decode cX9_set 54 = .ok (.iconst 2, 1) := by decide +kernel
theorem dX9_set_55 : decode cX9_set 55 = .ok (.invokevirtual 74, 3) := by decide +kernel
theorem dX9_set_58 : decode cX9_set 58 = .ok (.ireturn, 1) := by decide +kernel
theorem dX9_set_59 : decode cX9_set 59 = .ok (.aload_n 0, 1) := by decide +kernel
theorem dX9_set_6 : decode cX9_set 6 = .ok (.invokestatic 67, 3) := by decide +kernel
theorem dX9_set_60 : decode cX9_set 60 = .ok (.getfield 16, 3) := by decide +kernel
theorem dX9_set_63 : decode cX9_set 63 = .ok (.bipush 40, 2) := by decide +kernel
theorem dX9_set_65 : decode cX9_set 65 = .ok (.iload_n 1, 1) := by decide +kernel
theorem dX9_set_66 : decode cX9_set 66 = .ok (.imul, 1) := by decide +kernel
theorem dX9_set_67 : decode cX9_set 67 = .ok (.iload_n 2, 1) := by decide +kernel
theorem dX9_set_68 : decode cX9_set 68 = .ok (.iadd, 1) := by decide +kernel
theorem dX9_set_69 : decode cX9_set 69 = .ok (.aload_n 0, 1) := by decide +kernel
theorem dX9_set_70 : decode cX9_set 70 = .ok (.getfield 7, 3) := by decide +kernel
theorem dX9_set_73 : decode cX9_set 73 = .ok (.iload_n 1, 1) := by decide +kernel
theorem dX9_set_74 : decode cX9_set 74 = .ok (.iaload, 1) := by decide +kernel
theorem dX9_set_75 : decode cX9_set 75 = .ok (.ifCond .ne 8, 3) := by decide +kernel
theorem dX9_set_78 : decode cX9_set 78 = .ok (.iload_n 3, 1) := by decide +kernel
theorem dX9_set_79 : decode cX9_set 79 = .ok (.i2b, 1) := by decide +kernel
theorem dX9_set_80 : decode cX9_set 80 = .ok (.goto 19, 3) := by decide +kernel
theorem dX9_set_83 : decode cX9_set 83 = .ok (.aload_n 0, 1) := by decide +kernel
theorem dX9_set_84 : decode cX9_set 84 = .ok (.getfield 7, 3) := by decide +kernel
theorem dX9_set_87 : decode cX9_set 87 = .ok (.iload_n 1, 1) := by decide +kernel
theorem dX9_set_88 : decode cX9_set 88 = .ok (.iaload, 1) := by decide +kernel
theorem dX9_set_89 : decode cX9_set 89 = .ok (.iconst 1, 1) := by decide +kernel
theorem dX9_set_9 : decode cX9_set 9 = .ok (.ifCond .ne 6, 3) := by decide +kernel
theorem dX9_set_90 : decode cX9_set 90 = .ok (.if_icmp .ne 8, 3) := by decide +kernel
theorem dX9_set_93 : decode cX9_set 93 = .ok (.iload_n 3, 1) := by decide +kernel
theorem dX9_set_94 : decode cX9_set 94 = .ok (.i2s, 1) := by decide +kernel
theorem dX9_set_95 : decode cX9_set 95 = .ok (.goto 4, 3) := by decide +kernel
theorem dX9_set_98 : decode cX9_set 98 = .ok (.iload_n 3, 1) := by decide +kernel
theorem dX9_set_99 : decode cX9_set 99 = .ok (.iastore, 1) := by decide +kernel
theorem dX9_sheet_0 : decode cX9_sheet 0 = .ok (.aload_n 0, 1) := by decide +kernel
theorem dX9_sheet_1 : decode cX9_sheet 1 = .ok (.iconst 0, 1) := by decide +kernel
theorem dX9_sheet_12 : decode cX9_sheet 12 = .ok (.iload_n 2, 1) := by decide +kernel
theorem dX9_sheet_13 : decode cX9_sheet 13 = .ok (.i2l, 1) := by decide +kernel
theorem dX9_sheet_14 : decode cX9_sheet 14 = .ok (.lconst 0, 1) := by decide +kernel
theorem dX9_sheet_15 : decode cX9_sheet 15 = .ok (.ldc2_w 71, 3) := by decide +kernel
theorem dX9_sheet_18 : decode cX9_sheet 18 = .ok (.invokestatic 63, 3) := by decide +kernel
theorem dX9_sheet_2 : decode cX9_sheet 2 = .ok (.putfield 53, 3) := by decide +kernel
theorem dX9_sheet_21 : decode cX9_sheet 21 = .ok (.ifCond .eq 9, 3) := by decide +kernel
theorem dX9_sheet_24 : decode cX9_sheet 24 = .ok (.iload_n 3, 1) := by decide +kernel
theorem dX9_sheet_25 : decode cX9_sheet 25 = .ok (.bipush 40, 2) := by decide +kernel
theorem dX9_sheet_27 : decode cX9_sheet 27 = .ok (.if_icmp .le 6, 3) := by decide +kernel
theorem dX9_sheet_30 : decode cX9_sheet 30 = .ok (.ldc 73, 2) := by decide +kernel
theorem dX9_sheet_32 : decode cX9_sheet 32 = .ok (.ireturn, 1) := by decide +kernel
theorem dX9_sheet_33 : decode cX9_sheet 33 = .ok (.aload_n 0, 1) := by decide +kernel
theorem dX9_sheet_34 : decode cX9_sheet 34 = .ok (.iconst 0, 1) := by decide +kernel
theorem dX9_sheet_35 : decode cX9_sheet 35 = .ok (.putfield 57, 3) := by decide +kernel
theorem dX9_sheet_38 : decode cX9_sheet 38 = .ok (.iload_n 3, 1) := by decide +kernel
theorem dX9_sheet_39 : decode cX9_sheet 39 = .ok (.ifCond .ge 9, 3) := by decide +kernel
theorem dX9_sheet_42 : decode cX9_sheet 42 = .ok (.aload_n 0, 1) := by decide +kernel
theorem dX9_sheet_43 : decode cX9_sheet 43 = .ok (.iconst 4, 1) := by decide +kernel
theorem dX9_sheet_44 : decode cX9_sheet 44 = .ok (.invokevirtual 74, 3) := by decide +kernel
theorem dX9_sheet_47 : decode cX9_sheet 47 = .ok (.ireturn, 1) := by decide +kernel
theorem dX9_sheet_48 : decode cX9_sheet 48 = .ok (.aload_n 0, 1) := by decide +kernel
theorem dX9_sheet_49 : decode cX9_sheet 49 = .ok (.getfield 7, 3) := by decide +kernel
theorem dX9_sheet_5 : decode cX9_sheet 5 = .ok (.iload_n 1, 1) := by decide +kernel
theorem dX9_sheet_52 : decode cX9_sheet 52 = .ok (.iload_n 1, 1) := by decide +kernel
theorem dX9_sheet_53 : decode cX9_sheet 53 = .ok (.iload_n 2, 1) := by decide +kernel
theorem dX9_sheet_54 : decode cX9_sheet 54 = .ok (.iastore, 1) := by decide +kernel
theorem dX9_sheet_55 : decode cX9_sheet 55 = .ok (.aload_n 0, 1) := by decide +kernel
theorem dX9_sheet_56 : decode cX9_sheet 56 = .ok (.getfield 13, 3) := by decide +kernel
theorem dX9_sheet_59 : decode cX9_sheet 59 = .ok (.iload_n 1, 1) := by decide +kernel
theorem dX9_sheet_6 : decode cX9_sheet 6 = .ok (.invokestatic 67, 3) := by decide +kernel
theorem dX9_sheet_60 : decode cX9_sheet 60 = .ok (.iload_n 3, 1) := by decide +kernel
theorem dX9_sheet_61 : decode cX9_sheet 61 = .ok (.iastore, 1) := by decide +kernel
theorem dX9_sheet_62 : decode cX9_sheet 62 = .ok (.iconst 0, 1) := by decide +kernel
theorem dX9_sheet_63 : decode cX9_sheet 63 = .ok (.istore 4, 2) := by decide +kernel
theorem dX9_sheet_65 : decode cX9_sheet 65 = .ok (.iload 4, 2) := by decide +kernel
theorem dX9_sheet_67 : decode cX9_sheet 67 = .ok (.bipush 40, 2) := by decide +kernel
theorem dX9_sheet_69 : decode cX9_sheet 69 = .ok (.if_icmp .ge 22, 3) := by decide +kernel
theorem dX9_sheet_72 : decode cX9_sheet 72 = .ok (.aload_n 0, 1) := by decide +kernel
theorem dX9_sheet_73 : decode cX9_sheet 73 = .ok (.getfield 16, 3) := by decide +kernel
theorem dX9_sheet_76 : decode cX9_sheet 76 = .ok (.bipush 40, 2) := by decide +kernel
theorem dX9_sheet_78 : decode cX9_sheet 78 = .ok (.iload_n 1, 1) := by decide +kernel
theorem dX9_sheet_79 : decode cX9_sheet 79 = .ok (.imul, 1) := by decide +kernel
theorem dX9_sheet_80 : decode cX9_sheet 80 = .ok (.iload 4, 2) := by decide +kernel
theorem dX9_sheet_82 : decode cX9_sheet 82 = .ok (.iadd, 1) := by decide +kernel
theorem dX9_sheet_83 : decode cX9_sheet 83 = .ok (.iconst 0, 1) := by decide +kernel
theorem dX9_sheet_84 : decode cX9_sheet 84 = .ok (.iastore, 1) := by decide +kernel
theorem dX9_sheet_85 : decode cX9_sheet 85 = .ok (.iinc 4 1, 3) := by decide +kernel
theorem dX9_sheet_88 : decode cX9_sheet 88 = .ok (.goto (-23), 3) := by decide +kernel
theorem dX9_sheet_9 : decode cX9_sheet 9 = .ok (.ifCond .eq 21, 3) := by decide +kernel
theorem dX9_sheet_91 : decode cX9_sheet 91 = .ok (.iload_n 3, 1) := by decide +kernel
theorem dX9_sheet_92 : decode cX9_sheet 92 = .ok (.ireturn, 1) := by decide +kernel
theorem dX9_status_0 : decode cX9_status 0 = .ok (.aload_n 0, 1) := by decide +kernel
theorem dX9_status_1 : decode cX9_status 1 = .ok (.iconst 0, 1) := by decide +kernel
theorem dX9_status_2 : decode cX9_status 2 = .ok (.putfield 53, 3) := by decide +kernel
theorem dX9_status_5 : decode cX9_status 5 = .ok (.aload_n 0, 1) := by decide +kernel
theorem dX9_status_6 : decode cX9_status 6 = .ok (.getfield 57, 3) := by decide +kernel
theorem dX9_status_9 : decode cX9_status 9 = .ok (.ireturn, 1) := by decide +kernel
theorem dX9_step_0 : decode cX9_step 0 = .ok (.aload_n 0, 1) := by decide +kernel
theorem dX9_step_1 : decode cX9_step 1 = .ok (.iconst 0, 1) := by decide +kernel
theorem dX9_step_10 : decode cX9_step 10 = .ok (.ifCond .eq 21, 3) := by decide +kernel
theorem dX9_step_13 : decode cX9_step 13 = .ok (.aload_n 0, 1) := by decide +kernel
theorem dX9_step_14 : decode cX9_step 14 = .ok (.iload_n 1, 1) := by decide +kernel
theorem dX9_step_15 : decode cX9_step 15 = .ok (.iload_n 2, 1) := by decide +kernel
theorem dX9_step_16 : decode cX9_step 16 = .ok (.invokevirtual 250, 3) := by decide +kernel
theorem dX9_step_19 : decode cX9_step 19 = .ok (.ifCond .eq 12, 3) := by decide +kernel
theorem dX9_step_2 : decode cX9_step 2 = .ok (.putfield 53, 3) := by decide +kernel
theorem dX9_step_22 : decode cX9_step 22 = .ok (.aload_n 0, 1) := by decide +kernel
theorem dX9_step_23 : decode cX9_step 23 = .ok (.iload_n 1, 1) := by decide +kernel
theorem dX9_step_24 : decode cX9_step 24 = .ok (.iload_n 2, 1) := by decide +kernel
theorem dX9_step_25 : decode cX9_step 25 = .ok (.invokevirtual 253, 3) := by decide +kernel
theorem dX9_step_28 : decode cX9_step 28 = .ok (.goto 5, 3) := by decide +kernel
theorem dX9_step_31 : decode cX9_step 31 = .ok (.ldc 73, 2) := by decide +kernel
theorem dX9_step_33 : decode cX9_step 33 = .ok (.ireturn, 1) := by decide +kernel
theorem dX9_step_5 : decode cX9_step 5 = .ok (.aload_n 0, 1) := by decide +kernel
theorem dX9_step_6 : decode cX9_step 6 = .ok (.iload_n 1, 1) := by decide +kernel
theorem dX9_step_7 : decode cX9_step 7 = .ok (.invokevirtual 247, 3) := by decide +kernel
theorem dX9_walk_0 : decode cX9_walk 0 = .ok (.aload_n 0, 1) := by decide +kernel
theorem dX9_walk_1 : decode cX9_walk 1 = .ok (.iconst 0, 1) := by decide +kernel
theorem dX9_walk_10 : decode cX9_walk 10 = .ok (.ifCond .eq 23, 3) := by decide +kernel
theorem dX9_walk_100 : decode cX9_walk 100 = .ok (.iload 5, 2) := by decide +kernel
theorem dX9_walk_102 : decode cX9_walk 102 = .ok (.iadd, 1) := by decide +kernel
theorem dX9_walk_103 : decode cX9_walk 103 = .ok (.iaload, 1) := by decide +kernel
theorem dX9_walk_104 : decode cX9_walk 104 = .ok (.invokevirtual 250, 3) := by decide +kernel
theorem dX9_walk_107 : decode cX9_walk 107 = .ok (.ifCond .ne 6, 3) := by decide +kernel
theorem dX9_walk_110 : decode cX9_walk 110 = .ok (.ldc 73, 2) := by decide +kernel
theorem dX9_walk_112 : decode cX9_walk 112 = .ok (.ireturn, 1) := by decide +kernel
theorem dX9_walk_113 : decode cX9_walk 113 = .ok (.iinc 5 1, 3) := by decide +kernel
theorem dX9_walk_116 : decode cX9_walk 116 = .ok (.goto (-35), 3) := by decide +kernel
theorem dX9_walk_119 : decode cX9_walk 119 = .ok (.aload_n 0, 1) := by decide +kernel
theorem dX9_walk_120 : decode cX9_walk 120 = .ok (.iconst 0, 1) := by decide +kernel
theorem dX9_walk_121 : decode cX9_walk 121 = .ok (.putfield 57, 3) := by decide +kernel
theorem dX9_walk_124 : decode cX9_walk 124 = .ok (.iconst 0, 1) := by decide +kernel
theorem dX9_walk_125 : decode cX9_walk 125 = .ok (.istore 5, 2) := by decide +kernel
theorem dX9_walk_127 : decode cX9_walk 127 = .ok (.iconst 0, 1) := by decide +kernel
theorem dX9_walk_128 : decode cX9_walk 128 = .ok (.istore 6, 2) := by decide +kernel
theorem dX9_walk_13 : decode cX9_walk 13 = .ok (.iload_n 2, 1) := by decide +kernel
theorem dX9_walk_130 : decode cX9_walk 130 = .ok (.iload 6, 2) := by decide +kernel
theorem dX9_walk_132 : decode cX9_walk 132 = .ok (.iload 4, 2) := by decide +kernel
theorem dX9_walk_134 : decode cX9_walk 134 = .ok (.if_icmp .ge 33, 3) := by decide +kernel
theorem dX9_walk_137 : decode cX9_walk 137 = .ok (.iload 5, 2) := by decide +kernel
theorem dX9_walk_139 : decode cX9_walk 139 = .ok (.aload_n 0, 1) := by decide +kernel
theorem dX9_walk_14 : decode cX9_walk 14 = .ok (.invokestatic 67, 3) := by decide +kernel
theorem dX9_walk_140 : decode cX9_walk 140 = .ok (.iload_n 1, 1) := by decide +kernel
theorem dX9_walk_141 : decode cX9_walk 141 = .ok (.aload_n 0, 1) := by decide +kernel
theorem dX9_walk_142 : decode cX9_walk 142 = .ok (.getfield 16, 3) := by decide +kernel
theorem dX9_walk_145 : decode cX9_walk 145 = .ok (.bipush 40, 2) := by decide +kernel
theorem dX9_walk_147 : decode cX9_walk 147 = .ok (.iload_n 2, 1) := by decide +kernel
theorem dX9_walk_148 : decode cX9_walk 148 = .ok (.imul, 1) := by decide +kernel
theorem dX9_walk_149 : decode cX9_walk 149 = .ok (.iload_n 3, 1) := by decide +kernel
theorem dX9_walk_150 : decode cX9_walk 150 = .ok (.iadd, 1) := by decide +kernel
theorem dX9_walk_151 : decode cX9_walk 151 = .ok (.iload 6, 2) := by decide +kernel
theorem dX9_walk_153 : decode cX9_walk 153 = .ok (.iadd, 1) := by decide +kernel
theorem dX9_walk_154 : decode cX9_walk 154 = .ok (.iaload, 1) := by decide +kernel
theorem dX9_walk_155 : decode cX9_walk 155 = .ok (.invokevirtual 253, 3) := by decide +kernel
theorem dX9_walk_158 : decode cX9_walk 158 = .ok (.iadd, 1) := by decide +kernel
theorem dX9_walk_159 : decode cX9_walk 159 = .ok (.istore 5, 2) := by decide +kernel
theorem dX9_walk_161 : decode cX9_walk 161 = .ok (.iinc 6 1, 3) := by decide +kernel
theorem dX9_walk_164 : decode cX9_walk 164 = .ok (.goto (-34), 3) := by decide +kernel
theorem dX9_walk_167 : decode cX9_walk 167 = .ok (.iload 5, 2) := by decide +kernel
theorem dX9_walk_169 : decode cX9_walk 169 = .ok (.ireturn, 1) := by decide +kernel
theorem dX9_walk_17 : decode cX9_walk 17 = .ok (.ifCond .eq 16, 3) := by decide +kernel
theorem dX9_walk_2 : decode cX9_walk 2 = .ok (.putfield 53, 3) := by decide +kernel
theorem dX9_walk_20 : decode cX9_walk 20 = .ok (.iload 4, 2) := by decide +kernel
theorem dX9_walk_22 : decode cX9_walk 22 = .ok (.i2l, 1) := by decide +kernel
theorem dX9_walk_23 : decode cX9_walk 23 = .ok (.lconst 1, 1) := by decide +kernel
theorem dX9_walk_24 : decode cX9_walk 24 = .ok (.ldc2_w 256, 3) := by decide +kernel
theorem dX9_walk_27 : decode cX9_walk 27 = .ok (.invokestatic 63, 3) := by decide +kernel
theorem dX9_walk_30 : decode cX9_walk 30 = .ok (.ifCond .ne 6, 3) := by decide +kernel
theorem dX9_walk_33 : decode cX9_walk 33 = .ok (.ldc 73, 2) := by decide +kernel
theorem dX9_walk_35 : decode cX9_walk 35 = .ok (.ireturn, 1) := by decide +kernel
theorem dX9_walk_36 : decode cX9_walk 36 = .ok (.aload_n 0, 1) := by decide +kernel
theorem dX9_walk_37 : decode cX9_walk 37 = .ok (.getfield 7, 3) := by decide +kernel
theorem dX9_walk_40 : decode cX9_walk 40 = .ok (.iload_n 2, 1) := by decide +kernel
theorem dX9_walk_41 : decode cX9_walk 41 = .ok (.iaload, 1) := by decide +kernel
theorem dX9_walk_42 : decode cX9_walk 42 = .ok (.ifCond .ge 9, 3) := by decide +kernel
theorem dX9_walk_45 : decode cX9_walk 45 = .ok (.aload_n 0, 1) := by decide +kernel
theorem dX9_walk_46 : decode cX9_walk 46 = .ok (.iconst 1, 1) := by decide +kernel
theorem dX9_walk_47 : decode cX9_walk 47 = .ok (.invokevirtual 74, 3) := by decide +kernel
theorem dX9_walk_5 : decode cX9_walk 5 = .ok (.aload_n 0, 1) := by decide +kernel
theorem dX9_walk_50 : decode cX9_walk 50 = .ok (.ireturn, 1) := by decide +kernel
theorem dX9_walk_51 : decode cX9_walk 51 = .ok (.iload_n 3, 1) := by decide +kernel
theorem dX9_walk_52 : decode cX9_walk 52 = .ok (.ifCond .lt 20, 3) := by decide +kernel
theorem dX9_walk_55 : decode cX9_walk 55 = .ok (.iload_n 3, 1) := by decide +kernel
theorem dX9_walk_56 : decode cX9_walk 56 = .ok (.i2l, 1) := by decide +kernel
theorem dX9_walk_57 : decode cX9_walk 57 = .ok (.iload 4, 2) := by decide +kernel
theorem dX9_walk_59 : decode cX9_walk 59 = .ok (.i2l, 1) := by decide +kernel
theorem dX9_walk_6 : decode cX9_walk 6 = .ok (.iload_n 1, 1) := by decide +kernel
theorem dX9_walk_60 : decode cX9_walk 60 = .ok (.ladd, 1) := by decide +kernel
theorem dX9_walk_61 : decode cX9_walk 61 = .ok (.aload_n 0, 1) := by decide +kernel
theorem dX9_walk_62 : decode cX9_walk 62 = .ok (.getfield 13, 3) := by decide +kernel
theorem dX9_walk_65 : decode cX9_walk 65 = .ok (.iload_n 2, 1) := by decide +kernel
theorem dX9_walk_66 : decode cX9_walk 66 = .ok (.iaload, 1) := by decide +kernel
theorem dX9_walk_67 : decode cX9_walk 67 = .ok (.i2l, 1) := by decide +kernel
theorem dX9_walk_68 : decode cX9_walk 68 = .ok (.lcmp, 1) := by decide +kernel
theorem dX9_walk_69 : decode cX9_walk 69 = .ok (.ifCond .le 9, 3) := by decide +kernel
theorem dX9_walk_7 : decode cX9_walk 7 = .ok (.invokevirtual 247, 3) := by decide +kernel
theorem dX9_walk_72 : decode cX9_walk 72 = .ok (.aload_n 0, 1) := by decide +kernel
theorem dX9_walk_73 : decode cX9_walk 73 = .ok (.iconst 2, 1) := by decide +kernel
theorem dX9_walk_74 : decode cX9_walk 74 = .ok (.invokevirtual 74, 3) := by decide +kernel
theorem dX9_walk_77 : decode cX9_walk 77 = .ok (.ireturn, 1) := by decide +kernel
theorem dX9_walk_78 : decode cX9_walk 78 = .ok (.iconst 0, 1) := by decide +kernel
theorem dX9_walk_79 : decode cX9_walk 79 = .ok (.istore 5, 2) := by decide +kernel
theorem dX9_walk_81 : decode cX9_walk 81 = .ok (.iload 5, 2) := by decide +kernel
theorem dX9_walk_83 : decode cX9_walk 83 = .ok (.iload 4, 2) := by decide +kernel
theorem dX9_walk_85 : decode cX9_walk 85 = .ok (.if_icmp .ge 34, 3) := by decide +kernel
theorem dX9_walk_88 : decode cX9_walk 88 = .ok (.aload_n 0, 1) := by decide +kernel
theorem dX9_walk_89 : decode cX9_walk 89 = .ok (.iload_n 1, 1) := by decide +kernel
theorem dX9_walk_90 : decode cX9_walk 90 = .ok (.aload_n 0, 1) := by decide +kernel
theorem dX9_walk_91 : decode cX9_walk 91 = .ok (.getfield 16, 3) := by decide +kernel
theorem dX9_walk_94 : decode cX9_walk 94 = .ok (.bipush 40, 2) := by decide +kernel
theorem dX9_walk_96 : decode cX9_walk 96 = .ok (.iload_n 2, 1) := by decide +kernel
theorem dX9_walk_97 : decode cX9_walk 97 = .ok (.imul, 1) := by decide +kernel
theorem dX9_walk_98 : decode cX9_walk 98 = .ok (.iload_n 3, 1) := by decide +kernel
theorem dX9_walk_99 : decode cX9_walk 99 = .ok (.iadd, 1) := by decide +kernel
theorem dX9_witnesses_0 : decode cX9_witnesses 0 = .ok (.aload_n 0, 1) := by decide +kernel
theorem dX9_witnesses_1 : decode cX9_witnesses 1 = .ok (.iconst 0, 1) := by decide +kernel
theorem dX9_witnesses_12 : decode cX9_witnesses 12 = .ok (.ldc 233, 2) := by decide +kernel
theorem dX9_witnesses_14 : decode cX9_witnesses 14 = .ok (.ireturn, 1) := by decide +kernel
theorem dX9_witnesses_15 : decode cX9_witnesses 15 = .ok (.iconst 0, 1) := by decide +kernel
theorem dX9_witnesses_16 : decode cX9_witnesses 16 = .ok (.istore_n 2, 1) := by decide +kernel
theorem dX9_witnesses_17 : decode cX9_witnesses 17 = .ok (.iconst 0, 1) := by decide +kernel
theorem dX9_witnesses_18 : decode cX9_witnesses 18 = .ok (.istore_n 3, 1) := by decide +kernel
theorem dX9_witnesses_19 : decode cX9_witnesses 19 = .ok (.iload_n 3, 1) := by decide +kernel
theorem dX9_witnesses_2 : decode cX9_witnesses 2 = .ok (.putfield 53, 3) := by decide +kernel
theorem dX9_witnesses_20 : decode cX9_witnesses 20 = .ok (.aload_n 0, 1) := by decide +kernel
theorem dX9_witnesses_21 : decode cX9_witnesses 21 = .ok (.getfield 19, 3) := by decide +kernel
theorem dX9_witnesses_24 : decode cX9_witnesses 24 = .ok (.iconst 3, 1) := by decide +kernel
theorem dX9_witnesses_25 : decode cX9_witnesses 25 = .ok (.iaload, 1) := by decide +kernel
theorem dX9_witnesses_26 : decode cX9_witnesses 26 = .ok (.if_icmp .ge 44, 3) := by decide +kernel
theorem dX9_witnesses_29 : decode cX9_witnesses 29 = .ok (.iload_n 1, 1) := by decide +kernel
theorem dX9_witnesses_30 : decode cX9_witnesses 30 = .ok (.invokestatic 234, 3) := by decide +kernel
theorem dX9_witnesses_33 : decode cX9_witnesses 33 = .ok (.ifCond .eq 37, 3) := by decide +kernel
theorem dX9_witnesses_36 : decode cX9_witnesses 36 = .ok (.iload_n 2, 1) := by decide +kernel
theorem dX9_witnesses_37 : decode cX9_witnesses 37 = .ok (.aload_n 0, 1) := by decide +kernel
theorem dX9_witnesses_38 : decode cX9_witnesses 38 = .ok (.getfield 19, 3) := by decide +kernel
theorem dX9_witnesses_41 : decode cX9_witnesses 41 = .ok (.sipush 156, 3) := by decide +kernel
theorem dX9_witnesses_44 : decode cX9_witnesses 44 = .ok (.bipush 6, 2) := by decide +kernel
theorem dX9_witnesses_46 : decode cX9_witnesses 46 = .ok (.iload_n 3, 1) := by decide +kernel
theorem dX9_witnesses_47 : decode cX9_witnesses 47 = .ok (.imul, 1) := by decide +kernel
theorem dX9_witnesses_48 : decode cX9_witnesses 48 = .ok (.iadd, 1) := by decide +kernel
theorem dX9_witnesses_49 : decode cX9_witnesses 49 = .ok (.iload_n 1, 1) := by decide +kernel
theorem dX9_witnesses_5 : decode cX9_witnesses 5 = .ok (.aload_n 0, 1) := by decide +kernel
theorem dX9_witnesses_50 : decode cX9_witnesses 50 = .ok (.iadd, 1) := by decide +kernel
theorem dX9_witnesses_51 : decode cX9_witnesses 51 = .ok (.iaload, 1) := by decide +kernel
theorem dX9_witnesses_52 : decode cX9_witnesses 52 = .ok (.ifCond .ne 9, 3) := by decide +kernel
theorem dX9_witnesses_55 : decode cX9_witnesses 55 = .ok (.iconst 1, 1) := by decide +kernel
theorem dX9_witnesses_56 : decode cX9_witnesses 56 = .ok (.iload_n 3, 1) := by decide +kernel
theorem dX9_witnesses_57 : decode cX9_witnesses 57 = .ok (.ishl, 1) := by decide +kernel
theorem dX9_witnesses_58 : decode cX9_witnesses 58 = .ok (.goto 4, 3) := by decide +kernel
theorem dX9_witnesses_6 : decode cX9_witnesses 6 = .ok (.getfield 185, 3) := by decide +kernel
theorem dX9_witnesses_61 : decode cX9_witnesses 61 = .ok (.iconst 0, 1) := by decide +kernel
theorem dX9_witnesses_62 : decode cX9_witnesses 62 = .ok (.ior, 1) := by decide +kernel
theorem dX9_witnesses_63 : decode cX9_witnesses 63 = .ok (.istore_n 2, 1) := by decide +kernel
theorem dX9_witnesses_64 : decode cX9_witnesses 64 = .ok (.iinc 3 1, 3) := by decide +kernel
theorem dX9_witnesses_67 : decode cX9_witnesses 67 = .ok (.goto (-48), 3) := by decide +kernel
theorem dX9_witnesses_70 : decode cX9_witnesses 70 = .ok (.iload_n 1, 1) := by decide +kernel
theorem dX9_witnesses_71 : decode cX9_witnesses 71 = .ok (.invokestatic 234, 3) := by decide +kernel
theorem dX9_witnesses_74 : decode cX9_witnesses 74 = .ok (.ifCond .eq 7, 3) := by decide +kernel
theorem dX9_witnesses_77 : decode cX9_witnesses 77 = .ok (.iload_n 2, 1) := by decide +kernel
theorem dX9_witnesses_78 : decode cX9_witnesses 78 = .ok (.goto 5, 3) := by decide +kernel
theorem dX9_witnesses_81 : decode cX9_witnesses 81 = .ok (.ldc 73, 2) := by decide +kernel
theorem dX9_witnesses_83 : decode cX9_witnesses 83 = .ok (.ireturn, 1) := by decide +kernel
theorem dX9_witnesses_9 : decode cX9_witnesses 9 = .ok (.ifCond .ne 6, 3) := by decide +kernel
theorem jX9_copy_X9 : ∀ w ∈ u_ws RX9 TX9 29, w ∈ wsX9_copy := fun w h => List.mem_cons_of_mem _ (List.mem_append_right _ h)
theorem jX9_drop_X9 : ∀ w ∈ u_ws RX9 TX9 29, w ∈ wsX9_drop := fun w h => List.mem_cons_of_mem _ (List.mem_append_right _ h)
theorem jX9_fault_X9 : ∀ w ∈ u_ws RX9 TX9 29, w ∈ wsX9_fault := fun w h => List.mem_cons_of_mem _ (List.mem_append_right _ h)
theorem jX9_feed_X9 : ∀ w ∈ u_ws RX9 TX9 29, w ∈ wsX9_feed := fun w h => List.mem_cons_of_mem _ (List.mem_append_right _ h)
theorem jX9_got_X9 : ∀ w ∈ u_ws RX9 TX9 29, w ∈ wsX9_got := fun w h => List.mem_cons_of_mem _ (List.mem_append_right _ h)
theorem jX9_look_X9 : ∀ w ∈ u_ws RX9 TX9 29, w ∈ wsX9_look := fun w h => List.mem_cons_of_mem _ (List.mem_append_right _ h)
theorem jX9_person_X9 : ∀ w ∈ u_ws RX9 TX9 29, w ∈ wsX9_person := fun w h => List.mem_cons_of_mem _ (List.mem_append_right _ h)
theorem jX9_price_X9 : ∀ w ∈ u_ws RX9 TX9 29, w ∈ wsX9_price := fun w h => List.mem_cons_of_mem _ (List.mem_append_right _ h)
theorem jX9_set_X9 : ∀ w ∈ u_ws RX9 TX9 29, w ∈ wsX9_set := fun w h => List.mem_cons_of_mem _ (List.mem_append_right _ h)
theorem jX9_sheet_X9 : ∀ w ∈ u_ws RX9 TX9 29, w ∈ wsX9_sheet := fun w h => List.mem_cons_of_mem _ (List.mem_append_right _ h)
theorem jX9_status_X9 : ∀ w ∈ u_ws RX9 TX9 29, w ∈ wsX9_status := fun w h => List.mem_cons_of_mem _ (List.mem_append_right _ h)
theorem jX9_step_X9 : ∀ w ∈ u_ws RX9 TX9 29, w ∈ wsX9_step := fun w h => List.mem_cons_of_mem _ (List.mem_append_right _ h)
theorem jX9_walk_X9 : ∀ w ∈ u_ws RX9 TX9 29, w ∈ wsX9_walk := fun w h => List.mem_cons_of_mem _ (List.mem_append_right _ h)
theorem jX9_witnesses_X9 : ∀ w ∈ u_ws RX9 TX9 29, w ∈ wsX9_witnesses := fun w h => List.mem_cons_of_mem _ (List.mem_append_right _ h)
theorem hdS_X9_isOwner : yX9_isOwner.cls ≠ "java/lang/invoke/MethodHandle" ∧ yX9_isOwner.cls ≠ "java/lang/invoke/VarHandle" ∧ (parseMethodDescriptor yX9_isOwner.desc).map (fun d => d.parameters.length) = some 1 := by decide +kernel
theorem hdS_X9_isSheet : yX9_isSheet.cls ≠ "java/lang/invoke/MethodHandle" ∧ yX9_isSheet.cls ≠ "java/lang/invoke/VarHandle" ∧ (parseMethodDescriptor yX9_isSheet.desc).map (fun d => d.parameters.length) = some 1 := by decide +kernel
theorem hdS_X9_isWay : yX9_isWay.cls ≠ "java/lang/invoke/MethodHandle" ∧ yX9_isWay.cls ≠ "java/lang/invoke/VarHandle" ∧ (parseMethodDescriptor yX9_isWay.desc).map (fun d => d.parameters.length) = some 1 := by decide +kernel
theorem hdV_X9_finding : yX9_finding.cls = RX9 ∧ yX9_finding.cls ≠ "java/lang/invoke/MethodHandle" ∧ yX9_finding.cls ≠ "java/lang/invoke/VarHandle" ∧ (parseMethodDescriptor yX9_finding.desc).map (fun d => d.parameters.length) = some 1 := by decide +kernel
theorem hdV_X9_isOne : yX9_isOne.cls = RX9 ∧ yX9_isOne.cls ≠ "java/lang/invoke/MethodHandle" ∧ yX9_isOne.cls ≠ "java/lang/invoke/VarHandle" ∧ (parseMethodDescriptor yX9_isOne.desc).map (fun d => d.parameters.length) = some 1 := by decide +kernel
theorem hdV_X9_isOpen : yX9_isOpen.cls = RX9 ∧ yX9_isOpen.cls ≠ "java/lang/invoke/MethodHandle" ∧ yX9_isOpen.cls ≠ "java/lang/invoke/VarHandle" ∧ (parseMethodDescriptor yX9_isOpen.desc).map (fun d => d.parameters.length) = some 1 := by decide +kernel
theorem hdV_X9_mayGo : yX9_mayGo.cls = RX9 ∧ yX9_mayGo.cls ≠ "java/lang/invoke/MethodHandle" ∧ yX9_mayGo.cls ≠ "java/lang/invoke/VarHandle" ∧ (parseMethodDescriptor yX9_mayGo.desc).map (fun d => d.parameters.length) = some 2 := by decide +kernel
theorem hdV_X9_steps : yX9_steps.cls = RX9 ∧ yX9_steps.cls ≠ "java/lang/invoke/MethodHandle" ∧ yX9_steps.cls ≠ "java/lang/invoke/VarHandle" ∧ (parseMethodDescriptor yX9_steps.desc).map (fun d => d.parameters.length) = some 2 := by decide +kernel
theorem upd_at {f : Nat → Int32} {i j v : Int32} (h : i.toInt = j.toInt) : upd f i.toNatClampNeg v j.toNatClampNeg = v := by
  have h3 : i.toNatClampNeg = i.toInt.toNat := rfl
  have h4 : j.toNatClampNeg = j.toInt.toNat := rfl
  exact if_pos (by omega)
set_option maxHeartbeats 4000000 in
set_option maxRecDepth 100000 in
theorem lp_msheet {p : Program} (l : Launch) {e : Env} {s : State} {m : MethodId} {below : List Frame} {meth : Method} {c : Code} (D : va_G) (cI cZ cC cS : ClassId) (sq : Nat → Nat) (y : Nat) (y_lane : Nat) (y_many : Nat) (y_item : Nat) (a : Int32) (b : Int32) (nn : Int32) (m_thrown : Int32) (m_status : Int32) (y_city : Nat) (y_fresh : Nat) (m_isThere : Int32) (y_tape : Nat) (m_taped : Int32) (m_latest : Int32) (m_length : Int32) (m_cursor : Int32) (m_token : Int32) (m_start : Int32) (m_till : Int32) (m_fault : Int32) (m_faultAt : Int32) (m_seen : Int32) (m_mirrors : Int32) (y_cost : Nat) (y_away : Nat) (y_fee : Nat) (y_goesTo : Nat) (y_priceWas : Nat) (y_isKept : Nat) (y_kept : Nat) (y_trace : Nat) (m_traced : Int32) (la_ : Nat → Int32) (ma_ : Nat → Int32) (it_ : Nat → Int32) (hrg_ma_ : rng ma_ 8 (0) (40)) (la_1 : Nat → Int32) (ma_1 : Nat → Int32) (hax : 0 ≤ a.toInt ∧ a.toInt < 8) {A : Nat → Prop} (X : bX p s m meth c cX9_sheet 5 wsX9_sheet yX9_sheet (some .int) [.ref y, .int a, .int b, .int nn]) (hK : kW D (tyW cI cZ cC cS) sq s) (hT : sT sq A s s.heap) (hA : ∀ q, s.heap.size ≤ q → A q) (K : ∀ (i : Int32) (it_1 : Nat → Int32), (rng ma_1 8 (0) (40)) → (0 ≤ i.toInt ∧ i.toInt ≤ 40) → ∀ (H : Heap) (locs : List Loc) (ls : Array Slot), va_P D vwCl [(y, .inr (9, [.int 0, .int 0, .ref y_lane, .ref y_many, .ref y_item, .ref y_city, .ref y_fresh, .int m_isThere, .ref y_tape, .int m_taped, .int m_latest, .int m_length, .int m_cursor, .int m_token, .int m_start, .int m_till, .int m_fault, .int m_faultAt, .int m_seen, .int m_mirrors, .ref y_cost, .ref y_away, .ref y_fee, .ref y_goesTo, .ref y_priceWas, .ref y_isKept, .ref y_kept, .ref y_trace, .int m_traced])), (y_lane, .inl (cI, 8, .inl la_1)), (y_many, .inl (cI, 8, .inl ma_1)), (y_item, .inl (cI, 320, .inl it_1))] H → va_D A [(y, .inr (9, [.int 0, .int 0, .ref y_lane, .ref y_many, .ref y_item, .ref y_city, .ref y_fresh, .int m_isThere, .ref y_tape, .int m_taped, .int m_latest, .int m_length, .int m_cursor, .int m_token, .int m_start, .int m_till, .int m_fault, .int m_faultAt, .int m_seen, .int m_mirrors, .ref y_cost, .ref y_away, .ref y_fee, .ref y_goesTo, .ref y_priceWas, .ref y_isKept, .ref y_kept, .ref y_trace, .int m_traced])), (y_lane, .inl (cI, 8, .inl la_1)), (y_many, .inl (cI, 8, .inl ma_1)), (y_item, .inl (cI, 320, .inl it_1))] → va_S A s.heap H locs → lv_has ls 5 [(4, .int i), (0, .ref y), (1, .int a), (2, .int b), (3, .int nn)] → W p l e (rmW 50 2000 0 0) s m ([.ref y, .int a, .int b, .int nn] : List Value).toArray below meth c H locs 0 0 (MQ below (va_Qi (fun r w => (∃ (m_status2 : Int32), (¬ (0 ≤ a.toInt ∧ a.toInt < 8 ∧ 0 ≤ b.toInt ∧ b.toInt < 3 ∧ nn.toInt ≤ 40)) ∧ r = -1000001 ∧ w = [(y, .inr (9, [.int 0, .int m_status2, .ref y_lane, .ref y_many, .ref y_item, .ref y_city, .ref y_fresh, .int m_isThere, .ref y_tape, .int m_taped, .int m_latest, .int m_length, .int m_cursor, .int m_token, .int m_start, .int m_till, .int m_fault, .int m_faultAt, .int m_seen, .int m_mirrors, .ref y_cost, .ref y_away, .ref y_fee, .ref y_goesTo, .ref y_priceWas, .ref y_isKept, .ref y_kept, .ref y_trace, .int m_traced])), (y_lane, .inl (cI, 8, .inl la_)), (y_many, .inl (cI, 8, .inl ma_)), (y_item, .inl (cI, 320, .inl it_))]) ∨ (∃ (m_status2 : Int32), (0 ≤ a.toInt ∧ a.toInt < 8 ∧ 0 ≤ b.toInt ∧ b.toInt < 3 ∧ nn.toInt < 0) ∧ r = -1000014 ∧ w = [(y, .inr (9, [.int 0, .int m_status2, .ref y_lane, .ref y_many, .ref y_item, .ref y_city, .ref y_fresh, .int m_isThere, .ref y_tape, .int m_taped, .int m_latest, .int m_length, .int m_cursor, .int m_token, .int m_start, .int m_till, .int m_fault, .int m_faultAt, .int m_seen, .int m_mirrors, .ref y_cost, .ref y_away, .ref y_fee, .ref y_goesTo, .ref y_priceWas, .ref y_isKept, .ref y_kept, .ref y_trace, .int m_traced])), (y_lane, .inl (cI, 8, .inl la_)), (y_many, .inl (cI, 8, .inl ma_)), (y_item, .inl (cI, 320, .inl it_))]) ∨ (∃ (m_status2 : Int32), ∃ (la_2 : Nat → Int32), ∃ (ma_2 : Nat → Int32), ∃ (it_2 : Nat → Int32), (rng ma_2 8 (0) (40)) ∧ (0 ≤ a.toInt ∧ a.toInt < 8 ∧ 0 ≤ b.toInt ∧ b.toInt < 3 ∧ 0 ≤ nn.toInt ∧ nn.toInt ≤ 40) ∧ (la_2 = upd la_ a.toNatClampNeg b) ∧ (ma_2 = upd ma_ a.toNatClampNeg nn) ∧ r = nn ∧ w = [(y, .inr (9, [.int 0, .int m_status2, .ref y_lane, .ref y_many, .ref y_item, .ref y_city, .ref y_fresh, .int m_isThere, .ref y_tape, .int m_taped, .int m_latest, .int m_length, .int m_cursor, .int m_token, .int m_start, .int m_till, .int m_fault, .int m_faultAt, .int m_seen, .int m_mirrors, .ref y_cost, .ref y_away, .ref y_fee, .ref y_goesTo, .ref y_priceWas, .ref y_isKept, .ref y_kept, .ref y_trace, .int m_traced])), (y_lane, .inl (cI, 8, .inl la_2)), (y_many, .inl (cI, 8, .inl ma_2)), (y_item, .inl (cI, 320, .inl it_2))])) (wD D A) A) ([.ref y, .int a, .int b, .int nn] : List Value).toArray s 0 0 A) (F0 m 91 ls [])) : ∀ (mN : Nat) (i : Int32) (it_1 : Nat → Int32), (rng ma_1 8 (0) (40)) → (0 ≤ i.toInt ∧ i.toInt ≤ 40) → ((40 - i.toInt).toNat < mN) → ∀ (H : Heap) (locs : List Loc) (ls : Array Slot), va_P D vwCl [(y, .inr (9, [.int 0, .int 0, .ref y_lane, .ref y_many, .ref y_item, .ref y_city, .ref y_fresh, .int m_isThere, .ref y_tape, .int m_taped, .int m_latest, .int m_length, .int m_cursor, .int m_token, .int m_start, .int m_till, .int m_fault, .int m_faultAt, .int m_seen, .int m_mirrors, .ref y_cost, .ref y_away, .ref y_fee, .ref y_goesTo, .ref y_priceWas, .ref y_isKept, .ref y_kept, .ref y_trace, .int m_traced])), (y_lane, .inl (cI, 8, .inl la_1)), (y_many, .inl (cI, 8, .inl ma_1)), (y_item, .inl (cI, 320, .inl it_1))] H → va_D A [(y, .inr (9, [.int 0, .int 0, .ref y_lane, .ref y_many, .ref y_item, .ref y_city, .ref y_fresh, .int m_isThere, .ref y_tape, .int m_taped, .int m_latest, .int m_length, .int m_cursor, .int m_token, .int m_start, .int m_till, .int m_fault, .int m_faultAt, .int m_seen, .int m_mirrors, .ref y_cost, .ref y_away, .ref y_fee, .ref y_goesTo, .ref y_priceWas, .ref y_isKept, .ref y_kept, .ref y_trace, .int m_traced])), (y_lane, .inl (cI, 8, .inl la_1)), (y_many, .inl (cI, 8, .inl ma_1)), (y_item, .inl (cI, 320, .inl it_1))] → va_S A s.heap H locs → lv_has ls 5 [(4, .int i), (0, .ref y), (1, .int a), (2, .int b), (3, .int nn)] → W p l e (rmW 50 2000 0 0) s m ([.ref y, .int a, .int b, .int nn] : List Value).toArray below meth c H locs 0 0 (MQ below (va_Qi (fun r w => (∃ (m_status2 : Int32), (¬ (0 ≤ a.toInt ∧ a.toInt < 8 ∧ 0 ≤ b.toInt ∧ b.toInt < 3 ∧ nn.toInt ≤ 40)) ∧ r = -1000001 ∧ w = [(y, .inr (9, [.int 0, .int m_status2, .ref y_lane, .ref y_many, .ref y_item, .ref y_city, .ref y_fresh, .int m_isThere, .ref y_tape, .int m_taped, .int m_latest, .int m_length, .int m_cursor, .int m_token, .int m_start, .int m_till, .int m_fault, .int m_faultAt, .int m_seen, .int m_mirrors, .ref y_cost, .ref y_away, .ref y_fee, .ref y_goesTo, .ref y_priceWas, .ref y_isKept, .ref y_kept, .ref y_trace, .int m_traced])), (y_lane, .inl (cI, 8, .inl la_)), (y_many, .inl (cI, 8, .inl ma_)), (y_item, .inl (cI, 320, .inl it_))]) ∨ (∃ (m_status2 : Int32), (0 ≤ a.toInt ∧ a.toInt < 8 ∧ 0 ≤ b.toInt ∧ b.toInt < 3 ∧ nn.toInt < 0) ∧ r = -1000014 ∧ w = [(y, .inr (9, [.int 0, .int m_status2, .ref y_lane, .ref y_many, .ref y_item, .ref y_city, .ref y_fresh, .int m_isThere, .ref y_tape, .int m_taped, .int m_latest, .int m_length, .int m_cursor, .int m_token, .int m_start, .int m_till, .int m_fault, .int m_faultAt, .int m_seen, .int m_mirrors, .ref y_cost, .ref y_away, .ref y_fee, .ref y_goesTo, .ref y_priceWas, .ref y_isKept, .ref y_kept, .ref y_trace, .int m_traced])), (y_lane, .inl (cI, 8, .inl la_)), (y_many, .inl (cI, 8, .inl ma_)), (y_item, .inl (cI, 320, .inl it_))]) ∨ (∃ (m_status2 : Int32), ∃ (la_2 : Nat → Int32), ∃ (ma_2 : Nat → Int32), ∃ (it_2 : Nat → Int32), (rng ma_2 8 (0) (40)) ∧ (0 ≤ a.toInt ∧ a.toInt < 8 ∧ 0 ≤ b.toInt ∧ b.toInt < 3 ∧ 0 ≤ nn.toInt ∧ nn.toInt ≤ 40) ∧ (la_2 = upd la_ a.toNatClampNeg b) ∧ (ma_2 = upd ma_ a.toNatClampNeg nn) ∧ r = nn ∧ w = [(y, .inr (9, [.int 0, .int m_status2, .ref y_lane, .ref y_many, .ref y_item, .ref y_city, .ref y_fresh, .int m_isThere, .ref y_tape, .int m_taped, .int m_latest, .int m_length, .int m_cursor, .int m_token, .int m_start, .int m_till, .int m_fault, .int m_faultAt, .int m_seen, .int m_mirrors, .ref y_cost, .ref y_away, .ref y_fee, .ref y_goesTo, .ref y_priceWas, .ref y_isKept, .ref y_kept, .ref y_trace, .int m_traced])), (y_lane, .inl (cI, 8, .inl la_2)), (y_many, .inl (cI, 8, .inl ma_2)), (y_item, .inl (cI, 320, .inl it_2))])) (wD D A) A) ([.ref y, .int a, .int b, .int nn] : List Value).toArray s 0 0 A) (F0 m 65 ls []) := by
  have S : CallFix p m c cX9_sheet 5 s ([.ref y, .int a, .int b, .int nn] : List Value).toArray wsX9_sheet RX9 := X.1
  have iX9 := jX9_sheet_X9
  intro mN
  induction mN with
  | zero => intro i it_1 hrg_ma_1 hi hm; exact absurd hm (Nat.not_lt_zero _)
  | succ mN ih =>
    intro i it_1 hrg_ma_1 hi hm H locs ls hP hD hS hl
    refine lv_iload S.1 S.2.1 dX9_sheet_65 (lv_at hl 0 rfl) ?_
    refine lv_bipush (v := (40)) S.1 S.2.1 dX9_sheet_67 (by decide) ?_
    refine lv_icmp_ge (tgt := 91) S.1 S.2.1 dX9_sheet_69 (by decide) (fun c_101 => ?_) (fun c_101 => ?_)
    · rw [le2 (a := 40) (b := i) (A := 40) (B := i.toInt) rfl rfl] at c_101
      exact K i it_1 (by first | assumption | omega | decide | (rw [show Int32.toInt 0 = 0 from rfl]; omega)) (by first | assumption | omega | decide | (rw [show Int32.toInt 0 = 0 from rfl]; omega)) H _ ls hP hD hS (lv_sub hl [0, 1, 2, 3, 4] rfl)
    · rw [le2 (a := 40) (b := i) (A := 40) (B := i.toInt) rfl rfl] at c_101
      refine lv_aload_n S.1 S.2.1 dX9_sheet_72 rfl (lv_at hl 1 rfl) ?_
      refine b_get (v := .ref y_item) S iX9 hK hP 0 rfl rfl 4 (by decide) (by decide +kernel) rfl dX9_sheet_73 ?_
      refine lv_bipush (v := (40)) S.1 S.2.1 dX9_sheet_76 (by decide) ?_
      refine lv_iload_n S.1 S.2.1 dX9_sheet_78 rfl (lv_at hl 2 rfl) ?_
      refine lv_imul S.1 S.2.1 dX9_sheet_79 ?_
      refine lv_topi (fun x_102 ex_102 => ?_)
      have tx_102 : x_102.toInt = 40 * a.toInt := mulI (A := 40) (B := a.toInt) ex_102 rfl rfl (by omega) (by omega)
      refine lv_iload S.1 S.2.1 dX9_sheet_80 (lv_at hl 0 rfl) ?_
      refine lv_iadd S.1 S.2.1 dX9_sheet_82 ?_
      refine lv_topi (fun x_103 ex_103 => ?_)
      have tx_103 : x_103.toInt = x_102.toInt + (i.toInt) := addI (A := x_102.toInt) (B := i.toInt) ex_103 rfl rfl (by omega) (by omega)
      refine lv_iconst (v := (0)) S.1 S.2.1 dX9_sheet_83 (by decide) ?_
      refine va_iast S.1 S.2.1 hK.1 hP hD hS 3 0 rfl rfl (in_of (n := 320) (by omega) (by omega)) dX9_sheet_84 (fun H locs hP hD hS => ?_)
      obtain ⟨f_104, hf_104⟩ : ∃ g, (upd it_1 x_103.toNatClampNeg (0)) = g := ⟨_, rfl⟩
      have hP : va_P D vwCl [(y, .inr (9, [.int 0, .int 0, .ref y_lane, .ref y_many, .ref y_item, .ref y_city, .ref y_fresh, .int m_isThere, .ref y_tape, .int m_taped, .int m_latest, .int m_length, .int m_cursor, .int m_token, .int m_start, .int m_till, .int m_fault, .int m_faultAt, .int m_seen, .int m_mirrors, .ref y_cost, .ref y_away, .ref y_fee, .ref y_goesTo, .ref y_priceWas, .ref y_isKept, .ref y_kept, .ref y_trace, .int m_traced])), (y_lane, .inl (cI, 8, .inl la_1)), (y_many, .inl (cI, 8, .inl ma_1)), (y_item, .inl (cI, 320, .inl (upd it_1 x_103.toNatClampNeg (0))))] H := hP
      have hD : va_D A [(y, .inr (9, [.int 0, .int 0, .ref y_lane, .ref y_many, .ref y_item, .ref y_city, .ref y_fresh, .int m_isThere, .ref y_tape, .int m_taped, .int m_latest, .int m_length, .int m_cursor, .int m_token, .int m_start, .int m_till, .int m_fault, .int m_faultAt, .int m_seen, .int m_mirrors, .ref y_cost, .ref y_away, .ref y_fee, .ref y_goesTo, .ref y_priceWas, .ref y_isKept, .ref y_kept, .ref y_trace, .int m_traced])), (y_lane, .inl (cI, 8, .inl la_1)), (y_many, .inl (cI, 8, .inl ma_1)), (y_item, .inl (cI, 320, .inl (upd it_1 x_103.toNatClampNeg (0))))] := hD
      rw [hf_104] at hP hD
      obtain ⟨x_105, ex_105⟩ : ∃ y : Int32, y = i + Int32.ofInt (1) := ⟨_, rfl⟩
      refine lv_iinc (v := x_105) (lv' := [(4, .int x_105), (0, .ref y), (1, .int a), (2, .int b), (3, .int nn)]) S.1 S.2.1 dX9_sheet_85 hl (k := 0) rfl ex_105.symm (by decide) rfl (fun ls hl => ?_)
      have tx_105 : x_105.toInt = i.toInt + (1) := addI (A := i.toInt) (B := 1) ex_105 rfl rfl (by omega) (by omega)
      refine lv_goto (tgt := 65) S.1 S.2.1 dX9_sheet_88 (by decide) ?_
      exact ih x_105 f_104 (by first | assumption | omega | decide | (rw [show Int32.toInt 0 = 0 from rfl]; omega)) (by first | assumption | omega | decide | (rw [show Int32.toInt 0 = 0 from rfl]; omega)) (by omega) H _ ls hP hD hS (lv_sub hl [0, 1, 2, 3, 4] rfl)
set_option maxHeartbeats 4000000 in
set_option maxRecDepth 100000 in
theorem s_X9_sheet (l : Launch) (D : va_G) (cI cZ cC cS : ClassId) (sq : Nat → Nat) (sz : Nat) (y : Nat) (y_lane : Nat) (y_many : Nat) (y_item : Nat) (a : Int32) (b : Int32) (nn : Int32) (m_thrown : Int32) (m_status : Int32) (y_city : Nat) (y_fresh : Nat) (m_isThere : Int32) (y_tape : Nat) (m_taped : Int32) (m_latest : Int32) (m_length : Int32) (m_cursor : Int32) (m_token : Int32) (m_start : Int32) (m_till : Int32) (m_fault : Int32) (m_faultAt : Int32) (m_seen : Int32) (m_mirrors : Int32) (y_cost : Nat) (y_away : Nat) (y_fee : Nat) (y_goesTo : Nat) (y_priceWas : Nat) (y_isKept : Nat) (y_kept : Nat) (y_trace : Nat) (m_traced : Int32) (la_ : Nat → Int32) (ma_ : Nat → Int32) (it_ : Nat → Int32) (hrg_ma_ : rng ma_ 8 (0) (40)) : mI l yX9_sheet wsX9_sheet 50 2000 D (tyW cI cZ cC cS) sq [(y, .inr (9, [.int m_thrown, .int m_status, .ref y_lane, .ref y_many, .ref y_item, .ref y_city, .ref y_fresh, .int m_isThere, .ref y_tape, .int m_taped, .int m_latest, .int m_length, .int m_cursor, .int m_token, .int m_start, .int m_till, .int m_fault, .int m_faultAt, .int m_seen, .int m_mirrors, .ref y_cost, .ref y_away, .ref y_fee, .ref y_goesTo, .ref y_priceWas, .ref y_isKept, .ref y_kept, .ref y_trace, .int m_traced])), (y_lane, .inl (cI, 8, .inl la_)), (y_many, .inl (cI, 8, .inl ma_)), (y_item, .inl (cI, 320, .inl it_))] sz [.ref y, .int a, .int b, .int nn] (fun r w => (∃ (m_status2 : Int32), (¬ (0 ≤ a.toInt ∧ a.toInt < 8 ∧ 0 ≤ b.toInt ∧ b.toInt < 3 ∧ nn.toInt ≤ 40)) ∧ r = -1000001 ∧ w = [(y, .inr (9, [.int 0, .int m_status2, .ref y_lane, .ref y_many, .ref y_item, .ref y_city, .ref y_fresh, .int m_isThere, .ref y_tape, .int m_taped, .int m_latest, .int m_length, .int m_cursor, .int m_token, .int m_start, .int m_till, .int m_fault, .int m_faultAt, .int m_seen, .int m_mirrors, .ref y_cost, .ref y_away, .ref y_fee, .ref y_goesTo, .ref y_priceWas, .ref y_isKept, .ref y_kept, .ref y_trace, .int m_traced])), (y_lane, .inl (cI, 8, .inl la_)), (y_many, .inl (cI, 8, .inl ma_)), (y_item, .inl (cI, 320, .inl it_))]) ∨ (∃ (m_status2 : Int32), (0 ≤ a.toInt ∧ a.toInt < 8 ∧ 0 ≤ b.toInt ∧ b.toInt < 3 ∧ nn.toInt < 0) ∧ r = -1000014 ∧ w = [(y, .inr (9, [.int 0, .int m_status2, .ref y_lane, .ref y_many, .ref y_item, .ref y_city, .ref y_fresh, .int m_isThere, .ref y_tape, .int m_taped, .int m_latest, .int m_length, .int m_cursor, .int m_token, .int m_start, .int m_till, .int m_fault, .int m_faultAt, .int m_seen, .int m_mirrors, .ref y_cost, .ref y_away, .ref y_fee, .ref y_goesTo, .ref y_priceWas, .ref y_isKept, .ref y_kept, .ref y_trace, .int m_traced])), (y_lane, .inl (cI, 8, .inl la_)), (y_many, .inl (cI, 8, .inl ma_)), (y_item, .inl (cI, 320, .inl it_))]) ∨ (∃ (m_status2 : Int32), ∃ (la_2 : Nat → Int32), ∃ (ma_2 : Nat → Int32), ∃ (it_2 : Nat → Int32), (rng ma_2 8 (0) (40)) ∧ (0 ≤ a.toInt ∧ a.toInt < 8 ∧ 0 ≤ b.toInt ∧ b.toInt < 3 ∧ 0 ≤ nn.toInt ∧ nn.toInt ≤ 40) ∧ (la_2 = upd la_ a.toNatClampNeg b) ∧ (ma_2 = upd ma_ a.toNatClampNeg nn) ∧ r = nn ∧ w = [(y, .inr (9, [.int 0, .int m_status2, .ref y_lane, .ref y_many, .ref y_item, .ref y_city, .ref y_fresh, .int m_isThere, .ref y_tape, .int m_taped, .int m_latest, .int m_length, .int m_cursor, .int m_token, .int m_start, .int m_till, .int m_fault, .int m_faultAt, .int m_seen, .int m_mirrors, .ref y_cost, .ref y_away, .ref y_fee, .ref y_goesTo, .ref y_priceWas, .ref y_isKept, .ref y_kept, .ref y_trace, .int m_traced])), (y_lane, .inl (cI, 8, .inl la_2)), (y_many, .inl (cI, 8, .inl ma_2)), (y_item, .inl (cI, 320, .inl it_2))])) := by
  refine b_metI (cc := cX9_sheet) (maxL := 5) (ret := (some .int)) (by decide) rfl (Nat.le_of_ble_eq_true rfl) ?_
  intro p e s m below meth c ls A H X hsz hP hK hT hD hA hS hl
  have S : CallFix p m c cX9_sheet 5 s ([.ref y, .int a, .int b, .int nn] : List Value).toArray wsX9_sheet RX9 := X.1
  have hl : lv_has ls 5 [(0, .ref y), (1, .int a), (2, .int b), (3, .int nn)] := hl
  have iX9 := jX9_sheet_X9
  refine lv_aload_n S.1 S.2.1 dX9_sheet_0 rfl (lv_at hl 0 rfl) ?_
  refine lv_iconst (v := (0)) S.1 S.2.1 dX9_sheet_1 (by decide) ?_
  refine b_put (v := .int 0) S iX9 tyX9 tyX9_ok nmX9 hK hP hD hS 0 rfl rfl 0 (by decide) (by decide +kernel) rfl rfl rfl (Nat.le_of_ble_eq_true rfl) dX9_sheet_2 (fun H locs hP hD hS => ?_)
  have hP : va_P D vwCl [(y, .inr (9, [.int 0, .int m_status, .ref y_lane, .ref y_many, .ref y_item, .ref y_city, .ref y_fresh, .int m_isThere, .ref y_tape, .int m_taped, .int m_latest, .int m_length, .int m_cursor, .int m_token, .int m_start, .int m_till, .int m_fault, .int m_faultAt, .int m_seen, .int m_mirrors, .ref y_cost, .ref y_away, .ref y_fee, .ref y_goesTo, .ref y_priceWas, .ref y_isKept, .ref y_kept, .ref y_trace, .int m_traced])), (y_lane, .inl (cI, 8, .inl la_)), (y_many, .inl (cI, 8, .inl ma_)), (y_item, .inl (cI, 320, .inl it_))] H := hP
  have hD : va_D A [(y, .inr (9, [.int 0, .int m_status, .ref y_lane, .ref y_many, .ref y_item, .ref y_city, .ref y_fresh, .int m_isThere, .ref y_tape, .int m_taped, .int m_latest, .int m_length, .int m_cursor, .int m_token, .int m_start, .int m_till, .int m_fault, .int m_faultAt, .int m_seen, .int m_mirrors, .ref y_cost, .ref y_away, .ref y_fee, .ref y_goesTo, .ref y_priceWas, .ref y_isKept, .ref y_kept, .ref y_trace, .int m_traced])), (y_lane, .inl (cI, 8, .inl la_)), (y_many, .inl (cI, 8, .inl ma_)), (y_item, .inl (cI, 320, .inl it_))] := hD
  refine lv_iload_n S.1 S.2.1 dX9_sheet_5 rfl (lv_at hl 1 rfl) ?_
  refine b_ai (wr := [(y, .inr (9, [.int 0, .int m_status, .ref y_lane, .ref y_many, .ref y_item, .ref y_city, .ref y_fresh, .int m_isThere, .ref y_tape, .int m_taped, .int m_latest, .int m_length, .int m_cursor, .int m_token, .int m_start, .int m_till, .int m_fault, .int m_faultAt, .int m_seen, .int m_mirrors, .ref y_cost, .ref y_away, .ref y_fee, .ref y_goesTo, .ref y_priceWas, .ref y_isKept, .ref y_kept, .ref y_trace, .int m_traced])), (y_lane, .inl (cI, 8, .inl la_)), (y_many, .inl (cI, 8, .inl ma_)), (y_item, .inl (cI, 320, .inl it_))]) (b_runS (As := [.int a]) (s_X9_isSheet l D cI cZ cC cS sq H.size a) S gX9_sheet_X9_isSheet rfl hdS_X9_isSheet ⟨Nat.le_of_ble_eq_true rfl, Nat.le_of_ble_eq_true rfl⟩ ⟨Nat.le_of_ble_eq_true rfl, Nat.le_of_ble_eq_true rfl⟩ hK hT hS hA hP hD [] rfl (by decide) rfl hl.1 rfl (Nat.le_of_ble_eq_true rfl) dX9_sheet_6) hP hD hS hA [] [0, 1, 2, 3] rfl rfl (by decide) (by decide) (fun r_1 w_2 H locs hw_3 hP hD hS => ?_)
  rcases hw_3 with ⟨hf_4, rfl, rfl⟩ | ⟨hf_5, rfl, rfl⟩
  · have hP : va_P D vwCl [(y, .inr (9, [.int 0, .int m_status, .ref y_lane, .ref y_many, .ref y_item, .ref y_city, .ref y_fresh, .int m_isThere, .ref y_tape, .int m_taped, .int m_latest, .int m_length, .int m_cursor, .int m_token, .int m_start, .int m_till, .int m_fault, .int m_faultAt, .int m_seen, .int m_mirrors, .ref y_cost, .ref y_away, .ref y_fee, .ref y_goesTo, .ref y_priceWas, .ref y_isKept, .ref y_kept, .ref y_trace, .int m_traced])), (y_lane, .inl (cI, 8, .inl la_)), (y_many, .inl (cI, 8, .inl ma_)), (y_item, .inl (cI, 320, .inl it_))] H := hP
    have hD : va_D A [(y, .inr (9, [.int 0, .int m_status, .ref y_lane, .ref y_many, .ref y_item, .ref y_city, .ref y_fresh, .int m_isThere, .ref y_tape, .int m_taped, .int m_latest, .int m_length, .int m_cursor, .int m_token, .int m_start, .int m_till, .int m_fault, .int m_faultAt, .int m_seen, .int m_mirrors, .ref y_cost, .ref y_away, .ref y_fee, .ref y_goesTo, .ref y_priceWas, .ref y_isKept, .ref y_kept, .ref y_trace, .int m_traced])), (y_lane, .inl (cI, 8, .inl la_)), (y_many, .inl (cI, 8, .inl ma_)), (y_item, .inl (cI, 320, .inl it_))] := hD
    refine lv_if_eq (tgt := 30) S.1 S.2.1 dX9_sheet_9 (by decide) (fun c_6 => absurd c_6 (by decide)) (fun c_6 => ?_)
    refine lv_iload_n S.1 S.2.1 dX9_sheet_12 rfl (lv_at hl 2 rfl) ?_
    refine lv_i2l (v := b.toInt64) S.1 S.2.1 dX9_sheet_13 rfl ?_
    refine lv_lconst (v := 0) S.1 S.2.1 dX9_sheet_14 (by decide) ?_
    refine lv_ldc2 (v := (2)) S.1 S.2.1 S.2.2.2.1 (S.2.2.2.2 (.constantLong RX9 71 (2)) (by decide +kernel)) dX9_sheet_15 ?_
    refine b_ai (wr := [(y, .inr (9, [.int 0, .int m_status, .ref y_lane, .ref y_many, .ref y_item, .ref y_city, .ref y_fresh, .int m_isThere, .ref y_tape, .int m_taped, .int m_latest, .int m_length, .int m_cursor, .int m_token, .int m_start, .int m_till, .int m_fault, .int m_faultAt, .int m_seen, .int m_mirrors, .ref y_cost, .ref y_away, .ref y_fee, .ref y_goesTo, .ref y_priceWas, .ref y_isKept, .ref y_kept, .ref y_trace, .int m_traced])), (y_lane, .inl (cI, 8, .inl la_)), (y_many, .inl (cI, 8, .inl ma_)), (y_item, .inl (cI, 320, .inl it_))]) (b_runS (As := [.long (b.toInt64), .long 0, .long 2]) (s_X9_in l D cI cZ cC cS sq H.size (b.toInt64) (0) (2)) S gX9_sheet_X9_in rfl hdS_X9_in ⟨Nat.le_of_ble_eq_true rfl, Nat.le_of_ble_eq_true rfl⟩ ⟨Nat.le_of_ble_eq_true rfl, Nat.le_of_ble_eq_true rfl⟩ hK hT hS hA hP hD [] rfl (by decide) rfl hl.1 rfl (Nat.le_of_ble_eq_true rfl) dX9_sheet_18) hP hD hS hA [] [0, 1, 2, 3] rfl rfl (by decide) (by decide) (fun r_7 w_8 H locs hw_9 hP hD hS => ?_)
    rcases hw_9 with ⟨hf_10, rfl, rfl⟩ | ⟨hf_11, rfl, rfl⟩
    · have hf_10 : (0) ≤ b.toInt ∧ b.toInt ≤ (2) := by simp only [Int32.toInt_toInt64] at hf_10; exact hf_10
      have hP : va_P D vwCl [(y, .inr (9, [.int 0, .int m_status, .ref y_lane, .ref y_many, .ref y_item, .ref y_city, .ref y_fresh, .int m_isThere, .ref y_tape, .int m_taped, .int m_latest, .int m_length, .int m_cursor, .int m_token, .int m_start, .int m_till, .int m_fault, .int m_faultAt, .int m_seen, .int m_mirrors, .ref y_cost, .ref y_away, .ref y_fee, .ref y_goesTo, .ref y_priceWas, .ref y_isKept, .ref y_kept, .ref y_trace, .int m_traced])), (y_lane, .inl (cI, 8, .inl la_)), (y_many, .inl (cI, 8, .inl ma_)), (y_item, .inl (cI, 320, .inl it_))] H := hP
      have hD : va_D A [(y, .inr (9, [.int 0, .int m_status, .ref y_lane, .ref y_many, .ref y_item, .ref y_city, .ref y_fresh, .int m_isThere, .ref y_tape, .int m_taped, .int m_latest, .int m_length, .int m_cursor, .int m_token, .int m_start, .int m_till, .int m_fault, .int m_faultAt, .int m_seen, .int m_mirrors, .ref y_cost, .ref y_away, .ref y_fee, .ref y_goesTo, .ref y_priceWas, .ref y_isKept, .ref y_kept, .ref y_trace, .int m_traced])), (y_lane, .inl (cI, 8, .inl la_)), (y_many, .inl (cI, 8, .inl ma_)), (y_item, .inl (cI, 320, .inl it_))] := hD
      refine lv_if_eq (tgt := 30) S.1 S.2.1 dX9_sheet_21 (by decide) (fun c_12 => absurd c_12 (by decide)) (fun c_12 => ?_)
      refine lv_iload_n S.1 S.2.1 dX9_sheet_24 rfl (lv_at hl 3 rfl) ?_
      refine lv_bipush (v := (40)) S.1 S.2.1 dX9_sheet_25 (by decide) ?_
      refine lv_icmp_le (tgt := 33) S.1 S.2.1 dX9_sheet_27 (by decide) (fun c_13 => ?_) (fun c_13 => ?_)
      · rw [le2 (a := nn) (b := 40) (A := nn.toInt) (B := 40) rfl rfl] at c_13
        refine lv_aload_n S.1 S.2.1 dX9_sheet_33 rfl (lv_at hl 0 rfl) ?_
        refine lv_iconst (v := (0)) S.1 S.2.1 dX9_sheet_34 (by decide) ?_
        refine b_put (v := .int 0) S iX9 tyX9 tyX9_ok nmX9 hK hP hD hS 0 rfl rfl 1 (by decide) (by decide +kernel) rfl rfl rfl (Nat.le_of_ble_eq_true rfl) dX9_sheet_35 (fun H locs hP hD hS => ?_)
        have hP : va_P D vwCl [(y, .inr (9, [.int 0, .int 0, .ref y_lane, .ref y_many, .ref y_item, .ref y_city, .ref y_fresh, .int m_isThere, .ref y_tape, .int m_taped, .int m_latest, .int m_length, .int m_cursor, .int m_token, .int m_start, .int m_till, .int m_fault, .int m_faultAt, .int m_seen, .int m_mirrors, .ref y_cost, .ref y_away, .ref y_fee, .ref y_goesTo, .ref y_priceWas, .ref y_isKept, .ref y_kept, .ref y_trace, .int m_traced])), (y_lane, .inl (cI, 8, .inl la_)), (y_many, .inl (cI, 8, .inl ma_)), (y_item, .inl (cI, 320, .inl it_))] H := hP
        have hD : va_D A [(y, .inr (9, [.int 0, .int 0, .ref y_lane, .ref y_many, .ref y_item, .ref y_city, .ref y_fresh, .int m_isThere, .ref y_tape, .int m_taped, .int m_latest, .int m_length, .int m_cursor, .int m_token, .int m_start, .int m_till, .int m_fault, .int m_faultAt, .int m_seen, .int m_mirrors, .ref y_cost, .ref y_away, .ref y_fee, .ref y_goesTo, .ref y_priceWas, .ref y_isKept, .ref y_kept, .ref y_trace, .int m_traced])), (y_lane, .inl (cI, 8, .inl la_)), (y_many, .inl (cI, 8, .inl ma_)), (y_item, .inl (cI, 320, .inl it_))] := hD
        refine lv_iload_n S.1 S.2.1 dX9_sheet_38 rfl (lv_at hl 3 rfl) ?_
        refine lv_if_ge (tgt := 48) S.1 S.2.1 dX9_sheet_39 (by decide) (fun c_14 => ?_) (fun c_14 => ?_)
        · rw [le2 (a := 0) (b := nn) (A := 0) (B := nn.toInt) rfl rfl] at c_14
          refine lv_aload_n S.1 S.2.1 dX9_sheet_48 rfl (lv_at hl 0 rfl) ?_
          refine b_get (v := .ref y_lane) S iX9 hK hP 0 rfl rfl 2 (by decide) (by decide +kernel) rfl dX9_sheet_49 ?_
          refine lv_iload_n S.1 S.2.1 dX9_sheet_52 rfl (lv_at hl 1 rfl) ?_
          refine lv_iload_n S.1 S.2.1 dX9_sheet_53 rfl (lv_at hl 2 rfl) ?_
          refine va_iast S.1 S.2.1 hK.1 hP hD hS 1 0 rfl rfl (in_of (n := 8) (by omega) (by omega)) dX9_sheet_54 (fun H locs hP hD hS => ?_)
          obtain ⟨f_15, hf_15⟩ : ∃ g, (upd la_ a.toNatClampNeg (b)) = g := ⟨_, rfl⟩
          have hP : va_P D vwCl [(y, .inr (9, [.int 0, .int 0, .ref y_lane, .ref y_many, .ref y_item, .ref y_city, .ref y_fresh, .int m_isThere, .ref y_tape, .int m_taped, .int m_latest, .int m_length, .int m_cursor, .int m_token, .int m_start, .int m_till, .int m_fault, .int m_faultAt, .int m_seen, .int m_mirrors, .ref y_cost, .ref y_away, .ref y_fee, .ref y_goesTo, .ref y_priceWas, .ref y_isKept, .ref y_kept, .ref y_trace, .int m_traced])), (y_lane, .inl (cI, 8, .inl (upd la_ a.toNatClampNeg (b)))), (y_many, .inl (cI, 8, .inl ma_)), (y_item, .inl (cI, 320, .inl it_))] H := hP
          have hD : va_D A [(y, .inr (9, [.int 0, .int 0, .ref y_lane, .ref y_many, .ref y_item, .ref y_city, .ref y_fresh, .int m_isThere, .ref y_tape, .int m_taped, .int m_latest, .int m_length, .int m_cursor, .int m_token, .int m_start, .int m_till, .int m_fault, .int m_faultAt, .int m_seen, .int m_mirrors, .ref y_cost, .ref y_away, .ref y_fee, .ref y_goesTo, .ref y_priceWas, .ref y_isKept, .ref y_kept, .ref y_trace, .int m_traced])), (y_lane, .inl (cI, 8, .inl (upd la_ a.toNatClampNeg (b)))), (y_many, .inl (cI, 8, .inl ma_)), (y_item, .inl (cI, 320, .inl it_))] := hD
          rw [hf_15] at hP hD
          refine lv_aload_n S.1 S.2.1 dX9_sheet_55 rfl (lv_at hl 0 rfl) ?_
          refine b_get (v := .ref y_many) S iX9 hK hP 0 rfl rfl 3 (by decide) (by decide +kernel) rfl dX9_sheet_56 ?_
          refine lv_iload_n S.1 S.2.1 dX9_sheet_59 rfl (lv_at hl 1 rfl) ?_
          refine lv_iload_n S.1 S.2.1 dX9_sheet_60 rfl (lv_at hl 3 rfl) ?_
          refine va_iast S.1 S.2.1 hK.1 hP hD hS 2 0 rfl rfl (in_of (n := 8) (by omega) (by omega)) dX9_sheet_61 (fun H locs hP hD hS => ?_)
          obtain ⟨f_16, hf_16, rf_16⟩ : ∃ g, (upd ma_ a.toNatClampNeg (nn)) = g ∧ rng g 8 (0) (40) := ⟨_, rfl, rng_upd (by assumption) (show (0 : Int) ≤ (nn : Int32).toInt ∧ (nn : Int32).toInt ≤ 40 from by omega)⟩
          have hP : va_P D vwCl [(y, .inr (9, [.int 0, .int 0, .ref y_lane, .ref y_many, .ref y_item, .ref y_city, .ref y_fresh, .int m_isThere, .ref y_tape, .int m_taped, .int m_latest, .int m_length, .int m_cursor, .int m_token, .int m_start, .int m_till, .int m_fault, .int m_faultAt, .int m_seen, .int m_mirrors, .ref y_cost, .ref y_away, .ref y_fee, .ref y_goesTo, .ref y_priceWas, .ref y_isKept, .ref y_kept, .ref y_trace, .int m_traced])), (y_lane, .inl (cI, 8, .inl f_15)), (y_many, .inl (cI, 8, .inl (upd ma_ a.toNatClampNeg (nn)))), (y_item, .inl (cI, 320, .inl it_))] H := hP
          have hD : va_D A [(y, .inr (9, [.int 0, .int 0, .ref y_lane, .ref y_many, .ref y_item, .ref y_city, .ref y_fresh, .int m_isThere, .ref y_tape, .int m_taped, .int m_latest, .int m_length, .int m_cursor, .int m_token, .int m_start, .int m_till, .int m_fault, .int m_faultAt, .int m_seen, .int m_mirrors, .ref y_cost, .ref y_away, .ref y_fee, .ref y_goesTo, .ref y_priceWas, .ref y_isKept, .ref y_kept, .ref y_trace, .int m_traced])), (y_lane, .inl (cI, 8, .inl f_15)), (y_many, .inl (cI, 8, .inl (upd ma_ a.toNatClampNeg (nn)))), (y_item, .inl (cI, 320, .inl it_))] := hD
          rw [hf_16] at hP hD
          refine lv_iconst (v := (0)) S.1 S.2.1 dX9_sheet_62 (by decide) ?_
          refine lv_istore (lv' := [(4, .int 0), (0, .ref y), (1, .int a), (2, .int b), (3, .int nn)]) S.1 S.2.1 dX9_sheet_63 hl (by decide) rfl (fun ls hl => ?_)
          refine lp_msheet l D cI cZ cC cS sq y y_lane y_many y_item a b nn m_thrown m_status y_city y_fresh m_isThere y_tape m_taped m_latest m_length m_cursor m_token m_start m_till m_fault m_faultAt m_seen m_mirrors y_cost y_away y_fee y_goesTo y_priceWas y_isKept y_kept y_trace m_traced la_ ma_ it_ hrg_ma_ f_15 f_16 (by first | assumption | omega | decide | (rw [show Int32.toInt 0 = 0 from rfl]; omega)) X hK hT hA (fun i_17 it_1_18 hi_19 hi_20 H locs ls hP hD hS hl => ?_) _ (0) it_ (by first | assumption | omega | decide | (rw [show Int32.toInt 0 = 0 from rfl]; omega)) (by first | assumption | omega | decide | (rw [show Int32.toInt 0 = 0 from rfl]; omega)) (Nat.lt_succ_self _) H _ ls hP hD hS (lv_sub hl [0, 1, 2, 3, 4] rfl)
          refine lv_iload_n S.1 S.2.1 dX9_sheet_91 rfl (lv_at hl 4 rfl) ?_
          have lq0 : Int32.toInt (0) = 0 := by decide
          exact b_iret S.1 S.2.1 X.2.1 X.2.2.1 hP hD hS (Or.inr (Or.inr (⟨(0), f_15, f_16, it_1_18, (by first | assumption | omega | decide | (rw [show Int32.toInt 0 = 0 from rfl]; omega)), (by first | assumption | omega | decide | (rw [show Int32.toInt 0 = 0 from rfl]; omega)), (Eq.symm (by assumption)), (Eq.symm (by assumption)), rfl, rfl⟩))) dX9_sheet_92
        · rw [le2 (a := 0) (b := nn) (A := 0) (B := nn.toInt) rfl rfl] at c_14
          refine lv_aload_n S.1 S.2.1 dX9_sheet_42 rfl (lv_at hl 0 rfl) ?_
          refine lv_iconst (v := (4)) S.1 S.2.1 dX9_sheet_43 (by decide) ?_
          refine b_ai (wr := [(y_lane, .inl (cI, 8, .inl la_)), (y_many, .inl (cI, 8, .inl ma_)), (y_item, .inl (cI, 320, .inl it_))]) (b_runV (q0 := 0) (ci := 9) (As := [.int 4]) (s_X9_finding_4 l D cI cZ cC cS sq H.size y (0) (0) y_lane y_many y_item y_city y_fresh m_isThere y_tape m_taped m_latest m_length m_cursor m_token m_start m_till m_fault m_faultAt m_seen m_mirrors y_cost y_away y_fee y_goesTo y_priceWas y_isKept y_kept y_trace m_traced) S gX9_sheet_X9_finding rfl hdV_X9_finding ⟨Nat.le_of_ble_eq_true rfl, Nat.le_of_ble_eq_true rfl⟩ ⟨Nat.le_of_ble_eq_true rfl, Nat.le_of_ble_eq_true rfl⟩ hK hT hS hA hP hD rfl rfl [0] rfl (by decide) rfl hl.1 rfl (Nat.le_of_ble_eq_true rfl) dX9_sheet_44) hP hD hS hA [0] [1, 2, 3] rfl rfl (by decide) (by decide) (fun r_21 w_22 H locs hw_23 hP hD hS => ?_)
          obtain ⟨rfl, rfl⟩ := hw_23
          have hP : va_P D vwCl [(y_lane, .inl (cI, 8, .inl la_)), (y_many, .inl (cI, 8, .inl ma_)), (y_item, .inl (cI, 320, .inl it_)), (y, .inr (9, [.int 0, .int 4, .ref y_lane, .ref y_many, .ref y_item, .ref y_city, .ref y_fresh, .int m_isThere, .ref y_tape, .int m_taped, .int m_latest, .int m_length, .int m_cursor, .int m_token, .int m_start, .int m_till, .int m_fault, .int m_faultAt, .int m_seen, .int m_mirrors, .ref y_cost, .ref y_away, .ref y_fee, .ref y_goesTo, .ref y_priceWas, .ref y_isKept, .ref y_kept, .ref y_trace, .int m_traced]))] H := hP
          have hD : va_D A [(y_lane, .inl (cI, 8, .inl la_)), (y_many, .inl (cI, 8, .inl ma_)), (y_item, .inl (cI, 320, .inl it_)), (y, .inr (9, [.int 0, .int 4, .ref y_lane, .ref y_many, .ref y_item, .ref y_city, .ref y_fresh, .int m_isThere, .ref y_tape, .int m_taped, .int m_latest, .int m_length, .int m_cursor, .int m_token, .int m_start, .int m_till, .int m_fault, .int m_faultAt, .int m_seen, .int m_mirrors, .ref y_cost, .ref y_away, .ref y_fee, .ref y_goesTo, .ref y_priceWas, .ref y_isKept, .ref y_kept, .ref y_trace, .int m_traced]))] := hD
          have hP := hP.sub (ws' := [(y, .inr (9, [.int 0, .int 4, .ref y_lane, .ref y_many, .ref y_item, .ref y_city, .ref y_fresh, .int m_isThere, .ref y_tape, .int m_taped, .int m_latest, .int m_length, .int m_cursor, .int m_token, .int m_start, .int m_till, .int m_fault, .int m_faultAt, .int m_seen, .int m_mirrors, .ref y_cost, .ref y_away, .ref y_fee, .ref y_goesTo, .ref y_priceWas, .ref y_isKept, .ref y_kept, .ref y_trace, .int m_traced])), (y_lane, .inl (cI, 8, .inl la_)), (y_many, .inl (cI, 8, .inl ma_)), (y_item, .inl (cI, 320, .inl it_))]) [3, 0, 1, 2] rfl
          have hD := hD.sub (ws' := [(y, .inr (9, [.int 0, .int 4, .ref y_lane, .ref y_many, .ref y_item, .ref y_city, .ref y_fresh, .int m_isThere, .ref y_tape, .int m_taped, .int m_latest, .int m_length, .int m_cursor, .int m_token, .int m_start, .int m_till, .int m_fault, .int m_faultAt, .int m_seen, .int m_mirrors, .ref y_cost, .ref y_away, .ref y_fee, .ref y_goesTo, .ref y_priceWas, .ref y_isKept, .ref y_kept, .ref y_trace, .int m_traced])), (y_lane, .inl (cI, 8, .inl la_)), (y_many, .inl (cI, 8, .inl ma_)), (y_item, .inl (cI, 320, .inl it_))]) [3, 0, 1, 2] (by decide) rfl
          have lq4 : Int32.toInt (4) = 4 := by decide
          exact b_iret S.1 S.2.1 X.2.1 X.2.2.1 hP hD hS (Or.inr (Or.inl ⟨(4), (by first | assumption | omega | decide | (rw [show Int32.toInt 0 = 0 from rfl]; omega)), rfl, rfl⟩)) dX9_sheet_47
      · rw [le2 (a := nn) (b := 40) (A := nn.toInt) (B := 40) rfl rfl] at c_13
        refine lv_ldc (v := (-1000001)) S.1 S.2.1 S.2.2.2.1 (S.2.2.2.2 (.constant RX9 73 (-1000001)) (by decide +kernel)) dX9_sheet_30 ?_
        exact b_iret S.1 S.2.1 X.2.1 X.2.2.1 hP hD hS (Or.inl ⟨m_status, (by first | assumption | omega | decide | (rw [show Int32.toInt 0 = 0 from rfl]; omega)), rfl, rfl⟩) dX9_sheet_32
    · have hf_11 : b.toInt < (0) ∨ (2) < b.toInt := by simp only [Int32.toInt_toInt64] at hf_11; exact hf_11
      have hP : va_P D vwCl [(y, .inr (9, [.int 0, .int m_status, .ref y_lane, .ref y_many, .ref y_item, .ref y_city, .ref y_fresh, .int m_isThere, .ref y_tape, .int m_taped, .int m_latest, .int m_length, .int m_cursor, .int m_token, .int m_start, .int m_till, .int m_fault, .int m_faultAt, .int m_seen, .int m_mirrors, .ref y_cost, .ref y_away, .ref y_fee, .ref y_goesTo, .ref y_priceWas, .ref y_isKept, .ref y_kept, .ref y_trace, .int m_traced])), (y_lane, .inl (cI, 8, .inl la_)), (y_many, .inl (cI, 8, .inl ma_)), (y_item, .inl (cI, 320, .inl it_))] H := hP
      have hD : va_D A [(y, .inr (9, [.int 0, .int m_status, .ref y_lane, .ref y_many, .ref y_item, .ref y_city, .ref y_fresh, .int m_isThere, .ref y_tape, .int m_taped, .int m_latest, .int m_length, .int m_cursor, .int m_token, .int m_start, .int m_till, .int m_fault, .int m_faultAt, .int m_seen, .int m_mirrors, .ref y_cost, .ref y_away, .ref y_fee, .ref y_goesTo, .ref y_priceWas, .ref y_isKept, .ref y_kept, .ref y_trace, .int m_traced])), (y_lane, .inl (cI, 8, .inl la_)), (y_many, .inl (cI, 8, .inl ma_)), (y_item, .inl (cI, 320, .inl it_))] := hD
      refine lv_if_eq (tgt := 30) S.1 S.2.1 dX9_sheet_21 (by decide) (fun c_24 => ?_) (fun c_24 => absurd c_24 (by decide))
      refine lv_ldc (v := (-1000001)) S.1 S.2.1 S.2.2.2.1 (S.2.2.2.2 (.constant RX9 73 (-1000001)) (by decide +kernel)) dX9_sheet_30 ?_
      exact b_iret S.1 S.2.1 X.2.1 X.2.2.1 hP hD hS (Or.inl ⟨m_status, (by first | assumption | omega | decide | (rw [show Int32.toInt 0 = 0 from rfl]; omega)), rfl, rfl⟩) dX9_sheet_32
  · have hP : va_P D vwCl [(y, .inr (9, [.int 0, .int m_status, .ref y_lane, .ref y_many, .ref y_item, .ref y_city, .ref y_fresh, .int m_isThere, .ref y_tape, .int m_taped, .int m_latest, .int m_length, .int m_cursor, .int m_token, .int m_start, .int m_till, .int m_fault, .int m_faultAt, .int m_seen, .int m_mirrors, .ref y_cost, .ref y_away, .ref y_fee, .ref y_goesTo, .ref y_priceWas, .ref y_isKept, .ref y_kept, .ref y_trace, .int m_traced])), (y_lane, .inl (cI, 8, .inl la_)), (y_many, .inl (cI, 8, .inl ma_)), (y_item, .inl (cI, 320, .inl it_))] H := hP
    have hD : va_D A [(y, .inr (9, [.int 0, .int m_status, .ref y_lane, .ref y_many, .ref y_item, .ref y_city, .ref y_fresh, .int m_isThere, .ref y_tape, .int m_taped, .int m_latest, .int m_length, .int m_cursor, .int m_token, .int m_start, .int m_till, .int m_fault, .int m_faultAt, .int m_seen, .int m_mirrors, .ref y_cost, .ref y_away, .ref y_fee, .ref y_goesTo, .ref y_priceWas, .ref y_isKept, .ref y_kept, .ref y_trace, .int m_traced])), (y_lane, .inl (cI, 8, .inl la_)), (y_many, .inl (cI, 8, .inl ma_)), (y_item, .inl (cI, 320, .inl it_))] := hD
    refine lv_if_eq (tgt := 30) S.1 S.2.1 dX9_sheet_9 (by decide) (fun c_25 => ?_) (fun c_25 => absurd c_25 (by decide))
    refine lv_ldc (v := (-1000001)) S.1 S.2.1 S.2.2.2.1 (S.2.2.2.2 (.constant RX9 73 (-1000001)) (by decide +kernel)) dX9_sheet_30 ?_
    exact b_iret S.1 S.2.1 X.2.1 X.2.2.1 hP hD hS (Or.inl ⟨m_status, (by first | assumption | omega | decide | (rw [show Int32.toInt 0 = 0 from rfl]; omega)), rfl, rfl⟩) dX9_sheet_32
set_option maxHeartbeats 4000000 in
set_option maxRecDepth 100000 in
theorem s_X9_set (l : Launch) (D : va_G) (cI cZ cC cS : ClassId) (sq : Nat → Nat) (sz : Nat) (y : Nat) (y_lane : Nat) (y_many : Nat) (y_item : Nat) (a : Int32) (i : Int32) (v : Int32) (m_thrown : Int32) (m_status : Int32) (y_city : Nat) (y_fresh : Nat) (m_isThere : Int32) (y_tape : Nat) (m_taped : Int32) (m_latest : Int32) (m_length : Int32) (m_cursor : Int32) (m_token : Int32) (m_start : Int32) (m_till : Int32) (m_fault : Int32) (m_faultAt : Int32) (m_seen : Int32) (m_mirrors : Int32) (y_cost : Nat) (y_away : Nat) (y_fee : Nat) (y_goesTo : Nat) (y_priceWas : Nat) (y_isKept : Nat) (y_kept : Nat) (y_trace : Nat) (m_traced : Int32) (la_ : Nat → Int32) (ma_ : Nat → Int32) (it_ : Nat → Int32) (hrg_ma_ : rng ma_ 8 (0) (40)) : mI l yX9_set wsX9_set 50 2000 D (tyW cI cZ cC cS) sq [(y, .inr (9, [.int m_thrown, .int m_status, .ref y_lane, .ref y_many, .ref y_item, .ref y_city, .ref y_fresh, .int m_isThere, .ref y_tape, .int m_taped, .int m_latest, .int m_length, .int m_cursor, .int m_token, .int m_start, .int m_till, .int m_fault, .int m_faultAt, .int m_seen, .int m_mirrors, .ref y_cost, .ref y_away, .ref y_fee, .ref y_goesTo, .ref y_priceWas, .ref y_isKept, .ref y_kept, .ref y_trace, .int m_traced])), (y_lane, .inl (cI, 8, .inl la_)), (y_many, .inl (cI, 8, .inl ma_)), (y_item, .inl (cI, 320, .inl it_))] sz [.ref y, .int a, .int i, .int v] (fun r w => (∃ (m_status2 : Int32), (¬ (0 ≤ a.toInt ∧ a.toInt < 8)) ∧ r = -1000001 ∧ w = [(y, .inr (9, [.int 0, .int m_status2, .ref y_lane, .ref y_many, .ref y_item, .ref y_city, .ref y_fresh, .int m_isThere, .ref y_tape, .int m_taped, .int m_latest, .int m_length, .int m_cursor, .int m_token, .int m_start, .int m_till, .int m_fault, .int m_faultAt, .int m_seen, .int m_mirrors, .ref y_cost, .ref y_away, .ref y_fee, .ref y_goesTo, .ref y_priceWas, .ref y_isKept, .ref y_kept, .ref y_trace, .int m_traced])), (y_lane, .inl (cI, 8, .inl la_)), (y_many, .inl (cI, 8, .inl ma_)), (y_item, .inl (cI, 320, .inl it_))]) ∨ (∃ (m_status2 : Int32), (0 ≤ a.toInt ∧ a.toInt < 8 ∧ (la_ a.toNatClampNeg).toInt < 0) ∧ r = -1000011 ∧ w = [(y, .inr (9, [.int 0, .int m_status2, .ref y_lane, .ref y_many, .ref y_item, .ref y_city, .ref y_fresh, .int m_isThere, .ref y_tape, .int m_taped, .int m_latest, .int m_length, .int m_cursor, .int m_token, .int m_start, .int m_till, .int m_fault, .int m_faultAt, .int m_seen, .int m_mirrors, .ref y_cost, .ref y_away, .ref y_fee, .ref y_goesTo, .ref y_priceWas, .ref y_isKept, .ref y_kept, .ref y_trace, .int m_traced])), (y_lane, .inl (cI, 8, .inl la_)), (y_many, .inl (cI, 8, .inl ma_)), (y_item, .inl (cI, 320, .inl it_))]) ∨ (∃ (m_status2 : Int32), (0 ≤ a.toInt ∧ a.toInt < 8 ∧ 0 ≤ (la_ a.toNatClampNeg).toInt ∧ ¬ (0 ≤ i.toInt ∧ i.toInt < (ma_ a.toNatClampNeg).toInt)) ∧ r = -1000012 ∧ w = [(y, .inr (9, [.int 0, .int m_status2, .ref y_lane, .ref y_many, .ref y_item, .ref y_city, .ref y_fresh, .int m_isThere, .ref y_tape, .int m_taped, .int m_latest, .int m_length, .int m_cursor, .int m_token, .int m_start, .int m_till, .int m_fault, .int m_faultAt, .int m_seen, .int m_mirrors, .ref y_cost, .ref y_away, .ref y_fee, .ref y_goesTo, .ref y_priceWas, .ref y_isKept, .ref y_kept, .ref y_trace, .int m_traced])), (y_lane, .inl (cI, 8, .inl la_)), (y_many, .inl (cI, 8, .inl ma_)), (y_item, .inl (cI, 320, .inl it_))]) ∨ (∃ (m_status2 : Int32), ∃ (it_2 : Nat → Int32), (0 ≤ a.toInt ∧ a.toInt < 8 ∧ 0 ≤ (la_ a.toNatClampNeg).toInt ∧ 0 ≤ i.toInt ∧ i.toInt < (ma_ a.toNatClampNeg).toInt) ∧ (r = putV (la_ a.toNatClampNeg) v) ∧ w = [(y, .inr (9, [.int 0, .int m_status2, .ref y_lane, .ref y_many, .ref y_item, .ref y_city, .ref y_fresh, .int m_isThere, .ref y_tape, .int m_taped, .int m_latest, .int m_length, .int m_cursor, .int m_token, .int m_start, .int m_till, .int m_fault, .int m_faultAt, .int m_seen, .int m_mirrors, .ref y_cost, .ref y_away, .ref y_fee, .ref y_goesTo, .ref y_priceWas, .ref y_isKept, .ref y_kept, .ref y_trace, .int m_traced])), (y_lane, .inl (cI, 8, .inl la_)), (y_many, .inl (cI, 8, .inl ma_)), (y_item, .inl (cI, 320, .inl it_2))])) := by
  refine b_metI (cc := cX9_set) (maxL := 4) (ret := (some .int)) (by decide) rfl (Nat.le_of_ble_eq_true rfl) ?_
  intro p e s m below meth c ls A H X hsz hP hK hT hD hA hS hl
  have S : CallFix p m c cX9_set 4 s ([.ref y, .int a, .int i, .int v] : List Value).toArray wsX9_set RX9 := X.1
  have hl : lv_has ls 4 [(0, .ref y), (1, .int a), (2, .int i), (3, .int v)] := hl
  have iX9 := jX9_set_X9
  refine lv_aload_n S.1 S.2.1 dX9_set_0 rfl (lv_at hl 0 rfl) ?_
  refine lv_iconst (v := (0)) S.1 S.2.1 dX9_set_1 (by decide) ?_
  refine b_put (v := .int 0) S iX9 tyX9 tyX9_ok nmX9 hK hP hD hS 0 rfl rfl 0 (by decide) (by decide +kernel) rfl rfl rfl (Nat.le_of_ble_eq_true rfl) dX9_set_2 (fun H locs hP hD hS => ?_)
  have hP : va_P D vwCl [(y, .inr (9, [.int 0, .int m_status, .ref y_lane, .ref y_many, .ref y_item, .ref y_city, .ref y_fresh, .int m_isThere, .ref y_tape, .int m_taped, .int m_latest, .int m_length, .int m_cursor, .int m_token, .int m_start, .int m_till, .int m_fault, .int m_faultAt, .int m_seen, .int m_mirrors, .ref y_cost, .ref y_away, .ref y_fee, .ref y_goesTo, .ref y_priceWas, .ref y_isKept, .ref y_kept, .ref y_trace, .int m_traced])), (y_lane, .inl (cI, 8, .inl la_)), (y_many, .inl (cI, 8, .inl ma_)), (y_item, .inl (cI, 320, .inl it_))] H := hP
  have hD : va_D A [(y, .inr (9, [.int 0, .int m_status, .ref y_lane, .ref y_many, .ref y_item, .ref y_city, .ref y_fresh, .int m_isThere, .ref y_tape, .int m_taped, .int m_latest, .int m_length, .int m_cursor, .int m_token, .int m_start, .int m_till, .int m_fault, .int m_faultAt, .int m_seen, .int m_mirrors, .ref y_cost, .ref y_away, .ref y_fee, .ref y_goesTo, .ref y_priceWas, .ref y_isKept, .ref y_kept, .ref y_trace, .int m_traced])), (y_lane, .inl (cI, 8, .inl la_)), (y_many, .inl (cI, 8, .inl ma_)), (y_item, .inl (cI, 320, .inl it_))] := hD
  refine lv_iload_n S.1 S.2.1 dX9_set_5 rfl (lv_at hl 1 rfl) ?_
  refine b_ai (wr := [(y, .inr (9, [.int 0, .int m_status, .ref y_lane, .ref y_many, .ref y_item, .ref y_city, .ref y_fresh, .int m_isThere, .ref y_tape, .int m_taped, .int m_latest, .int m_length, .int m_cursor, .int m_token, .int m_start, .int m_till, .int m_fault, .int m_faultAt, .int m_seen, .int m_mirrors, .ref y_cost, .ref y_away, .ref y_fee, .ref y_goesTo, .ref y_priceWas, .ref y_isKept, .ref y_kept, .ref y_trace, .int m_traced])), (y_lane, .inl (cI, 8, .inl la_)), (y_many, .inl (cI, 8, .inl ma_)), (y_item, .inl (cI, 320, .inl it_))]) (b_runS (As := [.int a]) (s_X9_isSheet l D cI cZ cC cS sq H.size a) S gX9_set_X9_isSheet rfl hdS_X9_isSheet ⟨Nat.le_of_ble_eq_true rfl, Nat.le_of_ble_eq_true rfl⟩ ⟨Nat.le_of_ble_eq_true rfl, Nat.le_of_ble_eq_true rfl⟩ hK hT hS hA hP hD [] rfl (by decide) rfl hl.1 rfl (Nat.le_of_ble_eq_true rfl) dX9_set_6) hP hD hS hA [] [0, 1, 2, 3] rfl rfl (by decide) (by decide) (fun r_1 w_2 H locs hw_3 hP hD hS => ?_)
  rcases hw_3 with ⟨hf_4, rfl, rfl⟩ | ⟨hf_5, rfl, rfl⟩
  · have hP : va_P D vwCl [(y, .inr (9, [.int 0, .int m_status, .ref y_lane, .ref y_many, .ref y_item, .ref y_city, .ref y_fresh, .int m_isThere, .ref y_tape, .int m_taped, .int m_latest, .int m_length, .int m_cursor, .int m_token, .int m_start, .int m_till, .int m_fault, .int m_faultAt, .int m_seen, .int m_mirrors, .ref y_cost, .ref y_away, .ref y_fee, .ref y_goesTo, .ref y_priceWas, .ref y_isKept, .ref y_kept, .ref y_trace, .int m_traced])), (y_lane, .inl (cI, 8, .inl la_)), (y_many, .inl (cI, 8, .inl ma_)), (y_item, .inl (cI, 320, .inl it_))] H := hP
    have hD : va_D A [(y, .inr (9, [.int 0, .int m_status, .ref y_lane, .ref y_many, .ref y_item, .ref y_city, .ref y_fresh, .int m_isThere, .ref y_tape, .int m_taped, .int m_latest, .int m_length, .int m_cursor, .int m_token, .int m_start, .int m_till, .int m_fault, .int m_faultAt, .int m_seen, .int m_mirrors, .ref y_cost, .ref y_away, .ref y_fee, .ref y_goesTo, .ref y_priceWas, .ref y_isKept, .ref y_kept, .ref y_trace, .int m_traced])), (y_lane, .inl (cI, 8, .inl la_)), (y_many, .inl (cI, 8, .inl ma_)), (y_item, .inl (cI, 320, .inl it_))] := hD
    refine lv_if_ne (tgt := 15) S.1 S.2.1 dX9_set_9 (by decide) (fun c_6 => ?_) (fun c_6 => absurd c_6 (by decide))
    refine lv_aload_n S.1 S.2.1 dX9_set_15 rfl (lv_at hl 0 rfl) ?_
    refine lv_iconst (v := (0)) S.1 S.2.1 dX9_set_16 (by decide) ?_
    refine b_put (v := .int 0) S iX9 tyX9 tyX9_ok nmX9 hK hP hD hS 0 rfl rfl 1 (by decide) (by decide +kernel) rfl rfl rfl (Nat.le_of_ble_eq_true rfl) dX9_set_17 (fun H locs hP hD hS => ?_)
    have hP : va_P D vwCl [(y, .inr (9, [.int 0, .int 0, .ref y_lane, .ref y_many, .ref y_item, .ref y_city, .ref y_fresh, .int m_isThere, .ref y_tape, .int m_taped, .int m_latest, .int m_length, .int m_cursor, .int m_token, .int m_start, .int m_till, .int m_fault, .int m_faultAt, .int m_seen, .int m_mirrors, .ref y_cost, .ref y_away, .ref y_fee, .ref y_goesTo, .ref y_priceWas, .ref y_isKept, .ref y_kept, .ref y_trace, .int m_traced])), (y_lane, .inl (cI, 8, .inl la_)), (y_many, .inl (cI, 8, .inl ma_)), (y_item, .inl (cI, 320, .inl it_))] H := hP
    have hD : va_D A [(y, .inr (9, [.int 0, .int 0, .ref y_lane, .ref y_many, .ref y_item, .ref y_city, .ref y_fresh, .int m_isThere, .ref y_tape, .int m_taped, .int m_latest, .int m_length, .int m_cursor, .int m_token, .int m_start, .int m_till, .int m_fault, .int m_faultAt, .int m_seen, .int m_mirrors, .ref y_cost, .ref y_away, .ref y_fee, .ref y_goesTo, .ref y_priceWas, .ref y_isKept, .ref y_kept, .ref y_trace, .int m_traced])), (y_lane, .inl (cI, 8, .inl la_)), (y_many, .inl (cI, 8, .inl ma_)), (y_item, .inl (cI, 320, .inl it_))] := hD
    refine lv_aload_n S.1 S.2.1 dX9_set_20 rfl (lv_at hl 0 rfl) ?_
    refine b_get (v := .ref y_lane) S iX9 hK hP 0 rfl rfl 2 (by decide) (by decide +kernel) rfl dX9_set_21 ?_
    refine lv_iload_n S.1 S.2.1 dX9_set_24 rfl (lv_at hl 1 rfl) ?_
    have hin_7 : vp_in a 8 := (in_of (n := 8) (by omega) (by omega))
    refine va_iald S.1 S.2.1 hK.1 hP 1 0 rfl rfl hin_7 dX9_set_25 ?_
    refine lv_topi (fun x_8 ex_8 => ?_)
    have bx_8 : x_8.toInt = (la_ a.toNatClampNeg).toInt := by rw [ex_8]
    refine lv_if_ge (tgt := 35) S.1 S.2.1 dX9_set_26 (by decide) (fun c_9 => ?_) (fun c_9 => ?_)
    · rw [le2 (a := 0) (b := x_8) (A := 0) (B := x_8.toInt) rfl rfl] at c_9
      refine lv_iload_n S.1 S.2.1 dX9_set_35 rfl (lv_at hl 2 rfl) ?_
      refine lv_i2l (v := i.toInt64) S.1 S.2.1 dX9_set_36 rfl ?_
      refine lv_lconst (v := 0) S.1 S.2.1 dX9_set_37 (by decide) ?_
      refine lv_aload_n S.1 S.2.1 dX9_set_38 rfl (lv_at hl 0 rfl) ?_
      refine b_get (v := .ref y_many) S iX9 hK hP 0 rfl rfl 3 (by decide) (by decide +kernel) rfl dX9_set_39 ?_
      refine lv_iload_n S.1 S.2.1 dX9_set_42 rfl (lv_at hl 1 rfl) ?_
      have hin_10 : vp_in a 8 := (in_of (n := 8) (by omega) (by omega))
      refine va_iald S.1 S.2.1 hK.1 hP 2 0 rfl rfl hin_10 dX9_set_43 ?_
      refine lv_topi (fun x_11 ex_11 => ?_)
      have tx_11 := rng_get (x := x_11) (show rng ma_ 8 (0) (40) by assumption) hin_10 ex_11
      have bx_11 : x_11.toInt = (ma_ a.toNatClampNeg).toInt := by rw [ex_11]
      refine lv_iconst (v := (1)) S.1 S.2.1 dX9_set_44 (by decide) ?_
      refine lv_isub S.1 S.2.1 dX9_set_45 ?_
      refine lv_topi (fun x_12 ex_12 => ?_)
      have tx_12 : x_12.toInt = x_11.toInt - (1) := subI (A := x_11.toInt) (B := 1) ex_12 rfl rfl (by omega) (by omega)
      refine lv_i2l (v := x_12.toInt64) S.1 S.2.1 dX9_set_46 rfl ?_
      refine b_ai (wr := [(y, .inr (9, [.int 0, .int 0, .ref y_lane, .ref y_many, .ref y_item, .ref y_city, .ref y_fresh, .int m_isThere, .ref y_tape, .int m_taped, .int m_latest, .int m_length, .int m_cursor, .int m_token, .int m_start, .int m_till, .int m_fault, .int m_faultAt, .int m_seen, .int m_mirrors, .ref y_cost, .ref y_away, .ref y_fee, .ref y_goesTo, .ref y_priceWas, .ref y_isKept, .ref y_kept, .ref y_trace, .int m_traced])), (y_lane, .inl (cI, 8, .inl la_)), (y_many, .inl (cI, 8, .inl ma_)), (y_item, .inl (cI, 320, .inl it_))]) (b_runS (As := [.long (i.toInt64), .long 0, .long (x_12.toInt64)]) (s_X9_in l D cI cZ cC cS sq H.size (i.toInt64) (0) (x_12.toInt64)) S gX9_set_X9_in rfl hdS_X9_in ⟨Nat.le_of_ble_eq_true rfl, Nat.le_of_ble_eq_true rfl⟩ ⟨Nat.le_of_ble_eq_true rfl, Nat.le_of_ble_eq_true rfl⟩ hK hT hS hA hP hD [] rfl (by decide) rfl hl.1 rfl (Nat.le_of_ble_eq_true rfl) dX9_set_47) hP hD hS hA [] [0, 1, 2, 3] rfl rfl (by decide) (by decide) (fun r_13 w_14 H locs hw_15 hP hD hS => ?_)
      rcases hw_15 with ⟨hf_16, rfl, rfl⟩ | ⟨hf_17, rfl, rfl⟩
      · have hf_16 : (0) ≤ i.toInt ∧ i.toInt ≤ x_12.toInt := by simp only [Int32.toInt_toInt64] at hf_16; exact hf_16
        have hP : va_P D vwCl [(y, .inr (9, [.int 0, .int 0, .ref y_lane, .ref y_many, .ref y_item, .ref y_city, .ref y_fresh, .int m_isThere, .ref y_tape, .int m_taped, .int m_latest, .int m_length, .int m_cursor, .int m_token, .int m_start, .int m_till, .int m_fault, .int m_faultAt, .int m_seen, .int m_mirrors, .ref y_cost, .ref y_away, .ref y_fee, .ref y_goesTo, .ref y_priceWas, .ref y_isKept, .ref y_kept, .ref y_trace, .int m_traced])), (y_lane, .inl (cI, 8, .inl la_)), (y_many, .inl (cI, 8, .inl ma_)), (y_item, .inl (cI, 320, .inl it_))] H := hP
        have hD : va_D A [(y, .inr (9, [.int 0, .int 0, .ref y_lane, .ref y_many, .ref y_item, .ref y_city, .ref y_fresh, .int m_isThere, .ref y_tape, .int m_taped, .int m_latest, .int m_length, .int m_cursor, .int m_token, .int m_start, .int m_till, .int m_fault, .int m_faultAt, .int m_seen, .int m_mirrors, .ref y_cost, .ref y_away, .ref y_fee, .ref y_goesTo, .ref y_priceWas, .ref y_isKept, .ref y_kept, .ref y_trace, .int m_traced])), (y_lane, .inl (cI, 8, .inl la_)), (y_many, .inl (cI, 8, .inl ma_)), (y_item, .inl (cI, 320, .inl it_))] := hD
        refine lv_if_ne (tgt := 59) S.1 S.2.1 dX9_set_50 (by decide) (fun c_18 => ?_) (fun c_18 => absurd c_18 (by decide))
        refine lv_aload_n S.1 S.2.1 dX9_set_59 rfl (lv_at hl 0 rfl) ?_
        refine b_get (v := .ref y_item) S iX9 hK hP 0 rfl rfl 4 (by decide) (by decide +kernel) rfl dX9_set_60 ?_
        refine lv_bipush (v := (40)) S.1 S.2.1 dX9_set_63 (by decide) ?_
        refine lv_iload_n S.1 S.2.1 dX9_set_65 rfl (lv_at hl 1 rfl) ?_
        refine lv_imul S.1 S.2.1 dX9_set_66 ?_
        refine lv_topi (fun x_19 ex_19 => ?_)
        have tx_19 : x_19.toInt = 40 * a.toInt := mulI (A := 40) (B := a.toInt) ex_19 rfl rfl (by omega) (by omega)
        refine lv_iload_n S.1 S.2.1 dX9_set_67 rfl (lv_at hl 2 rfl) ?_
        refine lv_iadd S.1 S.2.1 dX9_set_68 ?_
        refine lv_topi (fun x_20 ex_20 => ?_)
        have tx_20 : x_20.toInt = x_19.toInt + (i.toInt) := addI (A := x_19.toInt) (B := i.toInt) ex_20 rfl rfl (by omega) (by omega)
        refine lv_aload_n S.1 S.2.1 dX9_set_69 rfl (lv_at hl 0 rfl) ?_
        refine b_get (v := .ref y_lane) S iX9 hK hP 0 rfl rfl 2 (by decide) (by decide +kernel) rfl dX9_set_70 ?_
        refine lv_iload_n S.1 S.2.1 dX9_set_73 rfl (lv_at hl 1 rfl) ?_
        have hin_21 : vp_in a 8 := (in_of (n := 8) (by omega) (by omega))
        refine va_iald S.1 S.2.1 hK.1 hP 1 0 rfl rfl hin_21 dX9_set_74 ?_
        refine lv_topi (fun x_22 ex_22 => ?_)
        have bx_22 : x_22.toInt = (la_ a.toNatClampNeg).toInt := by rw [ex_22]
        have lx_22 : x_22.toInt = x_8.toInt := by rw [ex_22, ex_8]
        refine lv_if_ne (tgt := 83) S.1 S.2.1 dX9_set_75 (by decide) (fun c_23 => ?_) (fun c_23 => ?_)
        · rw [eq2 (a := x_22) (b := 0) (A := x_22.toInt) (B := 0) rfl rfl] at c_23
          refine lv_aload_n S.1 S.2.1 dX9_set_83 rfl (lv_at hl 0 rfl) ?_
          refine b_get (v := .ref y_lane) S iX9 hK hP 0 rfl rfl 2 (by decide) (by decide +kernel) rfl dX9_set_84 ?_
          refine lv_iload_n S.1 S.2.1 dX9_set_87 rfl (lv_at hl 1 rfl) ?_
          have hin_24 : vp_in a 8 := (in_of (n := 8) (by omega) (by omega))
          refine va_iald S.1 S.2.1 hK.1 hP 1 0 rfl rfl hin_24 dX9_set_88 ?_
          refine lv_topi (fun x_25 ex_25 => ?_)
          have bx_25 : x_25.toInt = (la_ a.toNatClampNeg).toInt := by rw [ex_25]
          have lx_25 : x_25.toInt = x_8.toInt := by rw [ex_25, ex_8]
          refine lv_iconst (v := (1)) S.1 S.2.1 dX9_set_89 (by decide) ?_
          refine lv_icmp_ne (tgt := 98) S.1 S.2.1 dX9_set_90 (by decide) (fun c_26 => ?_) (fun c_26 => ?_)
          · rw [eq2 (a := x_25) (b := 1) (A := x_25.toInt) (B := 1) rfl rfl] at c_26
            refine lv_iload_n S.1 S.2.1 dX9_set_98 rfl (lv_at hl 3 rfl) ?_
            refine va_iast S.1 S.2.1 hK.1 hP hD hS 3 0 rfl rfl (in_of (n := 320) (by omega) (by omega)) dX9_set_99 (fun H locs hP hD hS => ?_)
            obtain ⟨f_27, hf_27⟩ : ∃ g, (upd it_ x_20.toNatClampNeg (v)) = g := ⟨_, rfl⟩
            have us : upd it_ (x_20).toNatClampNeg v = f_27 := hf_27
            have ui : (x_20).toInt = 40 * a.toInt + i.toInt := by omega
            have kv : v = putV (la_ a.toNatClampNeg) v := (by unfold putV; first | (rw [if_pos (by omega)]; assumption) | (rw [if_neg (by omega), if_pos (by omega)]; assumption) | (rw [if_neg (by omega), if_neg (by omega)]))
            have hP : va_P D vwCl [(y, .inr (9, [.int 0, .int 0, .ref y_lane, .ref y_many, .ref y_item, .ref y_city, .ref y_fresh, .int m_isThere, .ref y_tape, .int m_taped, .int m_latest, .int m_length, .int m_cursor, .int m_token, .int m_start, .int m_till, .int m_fault, .int m_faultAt, .int m_seen, .int m_mirrors, .ref y_cost, .ref y_away, .ref y_fee, .ref y_goesTo, .ref y_priceWas, .ref y_isKept, .ref y_kept, .ref y_trace, .int m_traced])), (y_lane, .inl (cI, 8, .inl la_)), (y_many, .inl (cI, 8, .inl ma_)), (y_item, .inl (cI, 320, .inl (upd it_ x_20.toNatClampNeg (v))))] H := hP
            have hD : va_D A [(y, .inr (9, [.int 0, .int 0, .ref y_lane, .ref y_many, .ref y_item, .ref y_city, .ref y_fresh, .int m_isThere, .ref y_tape, .int m_taped, .int m_latest, .int m_length, .int m_cursor, .int m_token, .int m_start, .int m_till, .int m_fault, .int m_faultAt, .int m_seen, .int m_mirrors, .ref y_cost, .ref y_away, .ref y_fee, .ref y_goesTo, .ref y_priceWas, .ref y_isKept, .ref y_kept, .ref y_trace, .int m_traced])), (y_lane, .inl (cI, 8, .inl la_)), (y_many, .inl (cI, 8, .inl ma_)), (y_item, .inl (cI, 320, .inl (upd it_ x_20.toNatClampNeg (v))))] := hD
            rw [hf_27] at hP hD
            refine lv_aload_n S.1 S.2.1 dX9_set_100 rfl (lv_at hl 0 rfl) ?_
            refine b_get (v := .ref y_item) S iX9 hK hP 0 rfl rfl 4 (by decide) (by decide +kernel) rfl dX9_set_101 ?_
            refine lv_bipush (v := (40)) S.1 S.2.1 dX9_set_104 (by decide) ?_
            refine lv_iload_n S.1 S.2.1 dX9_set_106 rfl (lv_at hl 1 rfl) ?_
            refine lv_imul S.1 S.2.1 dX9_set_107 ?_
            refine lv_topi (fun x_28 ex_28 => ?_)
            have tx_28 : x_28.toInt = 40 * a.toInt := mulI (A := 40) (B := a.toInt) ex_28 rfl rfl (by omega) (by omega)
            refine lv_iload_n S.1 S.2.1 dX9_set_108 rfl (lv_at hl 2 rfl) ?_
            refine lv_iadd S.1 S.2.1 dX9_set_109 ?_
            refine lv_topi (fun x_29 ex_29 => ?_)
            have tx_29 : x_29.toInt = x_28.toInt + (i.toInt) := addI (A := x_28.toInt) (B := i.toInt) ex_29 rfl rfl (by omega) (by omega)
            have hin_30 : vp_in x_29 320 := (in_of (n := 320) (by omega) (by omega))
            refine va_iald S.1 S.2.1 hK.1 hP 3 0 rfl rfl hin_30 dX9_set_110 ?_
            refine lv_topi (fun x_31 ex_31 => ?_)
            have vr : x_31 = putV (la_ a.toNatClampNeg) v := by rw [ex_31, ← us, upd_at (by omega)]; exact kv
            have lq0 : Int32.toInt (0) = 0 := by decide
            exact b_iret S.1 S.2.1 X.2.1 X.2.2.1 hP hD hS (Or.inr (Or.inr (Or.inr (⟨(0), f_27, (by first | assumption | omega | decide | (rw [show Int32.toInt 0 = 0 from rfl]; omega)), vr, rfl⟩)))) dX9_set_111
          · rw [eq2 (a := x_25) (b := 1) (A := x_25.toInt) (B := 1) rfl rfl] at c_26
            refine lv_iload_n S.1 S.2.1 dX9_set_93 rfl (lv_at hl 3 rfl) ?_
            refine lv_i2s S.1 S.2.1 dX9_set_94 rfl ?_
            refine lv_topi (fun x_32 ex_32 => ?_)
            refine lv_goto (tgt := 99) S.1 S.2.1 dX9_set_95 (by decide) ?_
            refine va_iast S.1 S.2.1 hK.1 hP hD hS 3 0 rfl rfl (in_of (n := 320) (by omega) (by omega)) dX9_set_99 (fun H locs hP hD hS => ?_)
            obtain ⟨f_33, hf_33⟩ : ∃ g, (upd it_ x_20.toNatClampNeg (x_32)) = g := ⟨_, rfl⟩
            have us : upd it_ (x_20).toNatClampNeg x_32 = f_33 := hf_33
            have ui : (x_20).toInt = 40 * a.toInt + i.toInt := by omega
            have kv : x_32 = putV (la_ a.toNatClampNeg) v := (by unfold putV; first | (rw [if_pos (by omega)]; assumption) | (rw [if_neg (by omega), if_pos (by omega)]; assumption) | (rw [if_neg (by omega), if_neg (by omega)]))
            have hP : va_P D vwCl [(y, .inr (9, [.int 0, .int 0, .ref y_lane, .ref y_many, .ref y_item, .ref y_city, .ref y_fresh, .int m_isThere, .ref y_tape, .int m_taped, .int m_latest, .int m_length, .int m_cursor, .int m_token, .int m_start, .int m_till, .int m_fault, .int m_faultAt, .int m_seen, .int m_mirrors, .ref y_cost, .ref y_away, .ref y_fee, .ref y_goesTo, .ref y_priceWas, .ref y_isKept, .ref y_kept, .ref y_trace, .int m_traced])), (y_lane, .inl (cI, 8, .inl la_)), (y_many, .inl (cI, 8, .inl ma_)), (y_item, .inl (cI, 320, .inl (upd it_ x_20.toNatClampNeg (x_32))))] H := hP
            have hD : va_D A [(y, .inr (9, [.int 0, .int 0, .ref y_lane, .ref y_many, .ref y_item, .ref y_city, .ref y_fresh, .int m_isThere, .ref y_tape, .int m_taped, .int m_latest, .int m_length, .int m_cursor, .int m_token, .int m_start, .int m_till, .int m_fault, .int m_faultAt, .int m_seen, .int m_mirrors, .ref y_cost, .ref y_away, .ref y_fee, .ref y_goesTo, .ref y_priceWas, .ref y_isKept, .ref y_kept, .ref y_trace, .int m_traced])), (y_lane, .inl (cI, 8, .inl la_)), (y_many, .inl (cI, 8, .inl ma_)), (y_item, .inl (cI, 320, .inl (upd it_ x_20.toNatClampNeg (x_32))))] := hD
            rw [hf_33] at hP hD
            refine lv_aload_n S.1 S.2.1 dX9_set_100 rfl (lv_at hl 0 rfl) ?_
            refine b_get (v := .ref y_item) S iX9 hK hP 0 rfl rfl 4 (by decide) (by decide +kernel) rfl dX9_set_101 ?_
            refine lv_bipush (v := (40)) S.1 S.2.1 dX9_set_104 (by decide) ?_
            refine lv_iload_n S.1 S.2.1 dX9_set_106 rfl (lv_at hl 1 rfl) ?_
            refine lv_imul S.1 S.2.1 dX9_set_107 ?_
            refine lv_topi (fun x_34 ex_34 => ?_)
            have tx_34 : x_34.toInt = 40 * a.toInt := mulI (A := 40) (B := a.toInt) ex_34 rfl rfl (by omega) (by omega)
            refine lv_iload_n S.1 S.2.1 dX9_set_108 rfl (lv_at hl 2 rfl) ?_
            refine lv_iadd S.1 S.2.1 dX9_set_109 ?_
            refine lv_topi (fun x_35 ex_35 => ?_)
            have tx_35 : x_35.toInt = x_34.toInt + (i.toInt) := addI (A := x_34.toInt) (B := i.toInt) ex_35 rfl rfl (by omega) (by omega)
            have hin_36 : vp_in x_35 320 := (in_of (n := 320) (by omega) (by omega))
            refine va_iald S.1 S.2.1 hK.1 hP 3 0 rfl rfl hin_36 dX9_set_110 ?_
            refine lv_topi (fun x_37 ex_37 => ?_)
            have vr : x_37 = putV (la_ a.toNatClampNeg) v := by rw [ex_37, ← us, upd_at (by omega)]; exact kv
            have lq0 : Int32.toInt (0) = 0 := by decide
            exact b_iret S.1 S.2.1 X.2.1 X.2.2.1 hP hD hS (Or.inr (Or.inr (Or.inr (⟨(0), f_33, (by first | assumption | omega | decide | (rw [show Int32.toInt 0 = 0 from rfl]; omega)), vr, rfl⟩)))) dX9_set_111
        · rw [eq2 (a := x_22) (b := 0) (A := x_22.toInt) (B := 0) rfl rfl] at c_23
          refine lv_iload_n S.1 S.2.1 dX9_set_78 rfl (lv_at hl 3 rfl) ?_
          refine lv_i2b S.1 S.2.1 dX9_set_79 rfl ?_
          refine lv_topi (fun x_38 ex_38 => ?_)
          refine lv_goto (tgt := 99) S.1 S.2.1 dX9_set_80 (by decide) ?_
          refine va_iast S.1 S.2.1 hK.1 hP hD hS 3 0 rfl rfl (in_of (n := 320) (by omega) (by omega)) dX9_set_99 (fun H locs hP hD hS => ?_)
          obtain ⟨f_39, hf_39⟩ : ∃ g, (upd it_ x_20.toNatClampNeg (x_38)) = g := ⟨_, rfl⟩
          have us : upd it_ (x_20).toNatClampNeg x_38 = f_39 := hf_39
          have ui : (x_20).toInt = 40 * a.toInt + i.toInt := by omega
          have kv : x_38 = putV (la_ a.toNatClampNeg) v := (by unfold putV; first | (rw [if_pos (by omega)]; assumption) | (rw [if_neg (by omega), if_pos (by omega)]; assumption) | (rw [if_neg (by omega), if_neg (by omega)]))
          have hP : va_P D vwCl [(y, .inr (9, [.int 0, .int 0, .ref y_lane, .ref y_many, .ref y_item, .ref y_city, .ref y_fresh, .int m_isThere, .ref y_tape, .int m_taped, .int m_latest, .int m_length, .int m_cursor, .int m_token, .int m_start, .int m_till, .int m_fault, .int m_faultAt, .int m_seen, .int m_mirrors, .ref y_cost, .ref y_away, .ref y_fee, .ref y_goesTo, .ref y_priceWas, .ref y_isKept, .ref y_kept, .ref y_trace, .int m_traced])), (y_lane, .inl (cI, 8, .inl la_)), (y_many, .inl (cI, 8, .inl ma_)), (y_item, .inl (cI, 320, .inl (upd it_ x_20.toNatClampNeg (x_38))))] H := hP
          have hD : va_D A [(y, .inr (9, [.int 0, .int 0, .ref y_lane, .ref y_many, .ref y_item, .ref y_city, .ref y_fresh, .int m_isThere, .ref y_tape, .int m_taped, .int m_latest, .int m_length, .int m_cursor, .int m_token, .int m_start, .int m_till, .int m_fault, .int m_faultAt, .int m_seen, .int m_mirrors, .ref y_cost, .ref y_away, .ref y_fee, .ref y_goesTo, .ref y_priceWas, .ref y_isKept, .ref y_kept, .ref y_trace, .int m_traced])), (y_lane, .inl (cI, 8, .inl la_)), (y_many, .inl (cI, 8, .inl ma_)), (y_item, .inl (cI, 320, .inl (upd it_ x_20.toNatClampNeg (x_38))))] := hD
          rw [hf_39] at hP hD
          refine lv_aload_n S.1 S.2.1 dX9_set_100 rfl (lv_at hl 0 rfl) ?_
          refine b_get (v := .ref y_item) S iX9 hK hP 0 rfl rfl 4 (by decide) (by decide +kernel) rfl dX9_set_101 ?_
          refine lv_bipush (v := (40)) S.1 S.2.1 dX9_set_104 (by decide) ?_
          refine lv_iload_n S.1 S.2.1 dX9_set_106 rfl (lv_at hl 1 rfl) ?_
          refine lv_imul S.1 S.2.1 dX9_set_107 ?_
          refine lv_topi (fun x_40 ex_40 => ?_)
          have tx_40 : x_40.toInt = 40 * a.toInt := mulI (A := 40) (B := a.toInt) ex_40 rfl rfl (by omega) (by omega)
          refine lv_iload_n S.1 S.2.1 dX9_set_108 rfl (lv_at hl 2 rfl) ?_
          refine lv_iadd S.1 S.2.1 dX9_set_109 ?_
          refine lv_topi (fun x_41 ex_41 => ?_)
          have tx_41 : x_41.toInt = x_40.toInt + (i.toInt) := addI (A := x_40.toInt) (B := i.toInt) ex_41 rfl rfl (by omega) (by omega)
          have hin_42 : vp_in x_41 320 := (in_of (n := 320) (by omega) (by omega))
          refine va_iald S.1 S.2.1 hK.1 hP 3 0 rfl rfl hin_42 dX9_set_110 ?_
          refine lv_topi (fun x_43 ex_43 => ?_)
          have vr : x_43 = putV (la_ a.toNatClampNeg) v := by rw [ex_43, ← us, upd_at (by omega)]; exact kv
          have lq0 : Int32.toInt (0) = 0 := by decide
          exact b_iret S.1 S.2.1 X.2.1 X.2.2.1 hP hD hS (Or.inr (Or.inr (Or.inr (⟨(0), f_39, (by first | assumption | omega | decide | (rw [show Int32.toInt 0 = 0 from rfl]; omega)), vr, rfl⟩)))) dX9_set_111
      · have hf_17 : i.toInt < (0) ∨ x_12.toInt < i.toInt := by simp only [Int32.toInt_toInt64] at hf_17; exact hf_17
        have hP : va_P D vwCl [(y, .inr (9, [.int 0, .int 0, .ref y_lane, .ref y_many, .ref y_item, .ref y_city, .ref y_fresh, .int m_isThere, .ref y_tape, .int m_taped, .int m_latest, .int m_length, .int m_cursor, .int m_token, .int m_start, .int m_till, .int m_fault, .int m_faultAt, .int m_seen, .int m_mirrors, .ref y_cost, .ref y_away, .ref y_fee, .ref y_goesTo, .ref y_priceWas, .ref y_isKept, .ref y_kept, .ref y_trace, .int m_traced])), (y_lane, .inl (cI, 8, .inl la_)), (y_many, .inl (cI, 8, .inl ma_)), (y_item, .inl (cI, 320, .inl it_))] H := hP
        have hD : va_D A [(y, .inr (9, [.int 0, .int 0, .ref y_lane, .ref y_many, .ref y_item, .ref y_city, .ref y_fresh, .int m_isThere, .ref y_tape, .int m_taped, .int m_latest, .int m_length, .int m_cursor, .int m_token, .int m_start, .int m_till, .int m_fault, .int m_faultAt, .int m_seen, .int m_mirrors, .ref y_cost, .ref y_away, .ref y_fee, .ref y_goesTo, .ref y_priceWas, .ref y_isKept, .ref y_kept, .ref y_trace, .int m_traced])), (y_lane, .inl (cI, 8, .inl la_)), (y_many, .inl (cI, 8, .inl ma_)), (y_item, .inl (cI, 320, .inl it_))] := hD
        refine lv_if_ne (tgt := 59) S.1 S.2.1 dX9_set_50 (by decide) (fun c_44 => absurd c_44 (by decide)) (fun c_44 => ?_)
        refine lv_aload_n S.1 S.2.1 dX9_set_53 rfl (lv_at hl 0 rfl) ?_
        refine lv_iconst (v := (2)) S.1 S.2.1 dX9_set_54 (by decide) ?_
        refine b_ai (wr := [(y_lane, .inl (cI, 8, .inl la_)), (y_many, .inl (cI, 8, .inl ma_)), (y_item, .inl (cI, 320, .inl it_))]) (b_runV (q0 := 0) (ci := 9) (As := [.int 2]) (s_X9_finding_2 l D cI cZ cC cS sq H.size y (0) (0) y_lane y_many y_item y_city y_fresh m_isThere y_tape m_taped m_latest m_length m_cursor m_token m_start m_till m_fault m_faultAt m_seen m_mirrors y_cost y_away y_fee y_goesTo y_priceWas y_isKept y_kept y_trace m_traced) S gX9_set_X9_finding rfl hdV_X9_finding ⟨Nat.le_of_ble_eq_true rfl, Nat.le_of_ble_eq_true rfl⟩ ⟨Nat.le_of_ble_eq_true rfl, Nat.le_of_ble_eq_true rfl⟩ hK hT hS hA hP hD rfl rfl [0] rfl (by decide) rfl hl.1 rfl (Nat.le_of_ble_eq_true rfl) dX9_set_55) hP hD hS hA [0] [1, 2, 3] rfl rfl (by decide) (by decide) (fun r_45 w_46 H locs hw_47 hP hD hS => ?_)
        obtain ⟨rfl, rfl⟩ := hw_47
        have hP : va_P D vwCl [(y_lane, .inl (cI, 8, .inl la_)), (y_many, .inl (cI, 8, .inl ma_)), (y_item, .inl (cI, 320, .inl it_)), (y, .inr (9, [.int 0, .int 2, .ref y_lane, .ref y_many, .ref y_item, .ref y_city, .ref y_fresh, .int m_isThere, .ref y_tape, .int m_taped, .int m_latest, .int m_length, .int m_cursor, .int m_token, .int m_start, .int m_till, .int m_fault, .int m_faultAt, .int m_seen, .int m_mirrors, .ref y_cost, .ref y_away, .ref y_fee, .ref y_goesTo, .ref y_priceWas, .ref y_isKept, .ref y_kept, .ref y_trace, .int m_traced]))] H := hP
        have hD : va_D A [(y_lane, .inl (cI, 8, .inl la_)), (y_many, .inl (cI, 8, .inl ma_)), (y_item, .inl (cI, 320, .inl it_)), (y, .inr (9, [.int 0, .int 2, .ref y_lane, .ref y_many, .ref y_item, .ref y_city, .ref y_fresh, .int m_isThere, .ref y_tape, .int m_taped, .int m_latest, .int m_length, .int m_cursor, .int m_token, .int m_start, .int m_till, .int m_fault, .int m_faultAt, .int m_seen, .int m_mirrors, .ref y_cost, .ref y_away, .ref y_fee, .ref y_goesTo, .ref y_priceWas, .ref y_isKept, .ref y_kept, .ref y_trace, .int m_traced]))] := hD
        have hP := hP.sub (ws' := [(y, .inr (9, [.int 0, .int 2, .ref y_lane, .ref y_many, .ref y_item, .ref y_city, .ref y_fresh, .int m_isThere, .ref y_tape, .int m_taped, .int m_latest, .int m_length, .int m_cursor, .int m_token, .int m_start, .int m_till, .int m_fault, .int m_faultAt, .int m_seen, .int m_mirrors, .ref y_cost, .ref y_away, .ref y_fee, .ref y_goesTo, .ref y_priceWas, .ref y_isKept, .ref y_kept, .ref y_trace, .int m_traced])), (y_lane, .inl (cI, 8, .inl la_)), (y_many, .inl (cI, 8, .inl ma_)), (y_item, .inl (cI, 320, .inl it_))]) [3, 0, 1, 2] rfl
        have hD := hD.sub (ws' := [(y, .inr (9, [.int 0, .int 2, .ref y_lane, .ref y_many, .ref y_item, .ref y_city, .ref y_fresh, .int m_isThere, .ref y_tape, .int m_taped, .int m_latest, .int m_length, .int m_cursor, .int m_token, .int m_start, .int m_till, .int m_fault, .int m_faultAt, .int m_seen, .int m_mirrors, .ref y_cost, .ref y_away, .ref y_fee, .ref y_goesTo, .ref y_priceWas, .ref y_isKept, .ref y_kept, .ref y_trace, .int m_traced])), (y_lane, .inl (cI, 8, .inl la_)), (y_many, .inl (cI, 8, .inl ma_)), (y_item, .inl (cI, 320, .inl it_))]) [3, 0, 1, 2] (by decide) rfl
        have lq2 : Int32.toInt (2) = 2 := by decide
        exact b_iret S.1 S.2.1 X.2.1 X.2.2.1 hP hD hS (Or.inr (Or.inr (Or.inl ⟨(2), (by first | assumption | omega | decide | (rw [show Int32.toInt 0 = 0 from rfl]; omega)), rfl, rfl⟩))) dX9_set_58
    · rw [le2 (a := 0) (b := x_8) (A := 0) (B := x_8.toInt) rfl rfl] at c_9
      refine lv_aload_n S.1 S.2.1 dX9_set_29 rfl (lv_at hl 0 rfl) ?_
      refine lv_iconst (v := (1)) S.1 S.2.1 dX9_set_30 (by decide) ?_
      refine b_ai (wr := [(y_lane, .inl (cI, 8, .inl la_)), (y_many, .inl (cI, 8, .inl ma_)), (y_item, .inl (cI, 320, .inl it_))]) (b_runV (q0 := 0) (ci := 9) (As := [.int 1]) (s_X9_finding_1 l D cI cZ cC cS sq H.size y (0) (0) y_lane y_many y_item y_city y_fresh m_isThere y_tape m_taped m_latest m_length m_cursor m_token m_start m_till m_fault m_faultAt m_seen m_mirrors y_cost y_away y_fee y_goesTo y_priceWas y_isKept y_kept y_trace m_traced) S gX9_set_X9_finding rfl hdV_X9_finding ⟨Nat.le_of_ble_eq_true rfl, Nat.le_of_ble_eq_true rfl⟩ ⟨Nat.le_of_ble_eq_true rfl, Nat.le_of_ble_eq_true rfl⟩ hK hT hS hA hP hD rfl rfl [0] rfl (by decide) rfl hl.1 rfl (Nat.le_of_ble_eq_true rfl) dX9_set_31) hP hD hS hA [0] [1, 2, 3] rfl rfl (by decide) (by decide) (fun r_48 w_49 H locs hw_50 hP hD hS => ?_)
      obtain ⟨rfl, rfl⟩ := hw_50
      have hP : va_P D vwCl [(y_lane, .inl (cI, 8, .inl la_)), (y_many, .inl (cI, 8, .inl ma_)), (y_item, .inl (cI, 320, .inl it_)), (y, .inr (9, [.int 0, .int 1, .ref y_lane, .ref y_many, .ref y_item, .ref y_city, .ref y_fresh, .int m_isThere, .ref y_tape, .int m_taped, .int m_latest, .int m_length, .int m_cursor, .int m_token, .int m_start, .int m_till, .int m_fault, .int m_faultAt, .int m_seen, .int m_mirrors, .ref y_cost, .ref y_away, .ref y_fee, .ref y_goesTo, .ref y_priceWas, .ref y_isKept, .ref y_kept, .ref y_trace, .int m_traced]))] H := hP
      have hD : va_D A [(y_lane, .inl (cI, 8, .inl la_)), (y_many, .inl (cI, 8, .inl ma_)), (y_item, .inl (cI, 320, .inl it_)), (y, .inr (9, [.int 0, .int 1, .ref y_lane, .ref y_many, .ref y_item, .ref y_city, .ref y_fresh, .int m_isThere, .ref y_tape, .int m_taped, .int m_latest, .int m_length, .int m_cursor, .int m_token, .int m_start, .int m_till, .int m_fault, .int m_faultAt, .int m_seen, .int m_mirrors, .ref y_cost, .ref y_away, .ref y_fee, .ref y_goesTo, .ref y_priceWas, .ref y_isKept, .ref y_kept, .ref y_trace, .int m_traced]))] := hD
      have hP := hP.sub (ws' := [(y, .inr (9, [.int 0, .int 1, .ref y_lane, .ref y_many, .ref y_item, .ref y_city, .ref y_fresh, .int m_isThere, .ref y_tape, .int m_taped, .int m_latest, .int m_length, .int m_cursor, .int m_token, .int m_start, .int m_till, .int m_fault, .int m_faultAt, .int m_seen, .int m_mirrors, .ref y_cost, .ref y_away, .ref y_fee, .ref y_goesTo, .ref y_priceWas, .ref y_isKept, .ref y_kept, .ref y_trace, .int m_traced])), (y_lane, .inl (cI, 8, .inl la_)), (y_many, .inl (cI, 8, .inl ma_)), (y_item, .inl (cI, 320, .inl it_))]) [3, 0, 1, 2] rfl
      have hD := hD.sub (ws' := [(y, .inr (9, [.int 0, .int 1, .ref y_lane, .ref y_many, .ref y_item, .ref y_city, .ref y_fresh, .int m_isThere, .ref y_tape, .int m_taped, .int m_latest, .int m_length, .int m_cursor, .int m_token, .int m_start, .int m_till, .int m_fault, .int m_faultAt, .int m_seen, .int m_mirrors, .ref y_cost, .ref y_away, .ref y_fee, .ref y_goesTo, .ref y_priceWas, .ref y_isKept, .ref y_kept, .ref y_trace, .int m_traced])), (y_lane, .inl (cI, 8, .inl la_)), (y_many, .inl (cI, 8, .inl ma_)), (y_item, .inl (cI, 320, .inl it_))]) [3, 0, 1, 2] (by decide) rfl
      have lq1 : Int32.toInt (1) = 1 := by decide
      exact b_iret S.1 S.2.1 X.2.1 X.2.2.1 hP hD hS (Or.inr (Or.inl ⟨(1), (by first | assumption | omega | decide | (rw [show Int32.toInt 0 = 0 from rfl]; omega)), rfl, rfl⟩)) dX9_set_34
  · have hP : va_P D vwCl [(y, .inr (9, [.int 0, .int m_status, .ref y_lane, .ref y_many, .ref y_item, .ref y_city, .ref y_fresh, .int m_isThere, .ref y_tape, .int m_taped, .int m_latest, .int m_length, .int m_cursor, .int m_token, .int m_start, .int m_till, .int m_fault, .int m_faultAt, .int m_seen, .int m_mirrors, .ref y_cost, .ref y_away, .ref y_fee, .ref y_goesTo, .ref y_priceWas, .ref y_isKept, .ref y_kept, .ref y_trace, .int m_traced])), (y_lane, .inl (cI, 8, .inl la_)), (y_many, .inl (cI, 8, .inl ma_)), (y_item, .inl (cI, 320, .inl it_))] H := hP
    have hD : va_D A [(y, .inr (9, [.int 0, .int m_status, .ref y_lane, .ref y_many, .ref y_item, .ref y_city, .ref y_fresh, .int m_isThere, .ref y_tape, .int m_taped, .int m_latest, .int m_length, .int m_cursor, .int m_token, .int m_start, .int m_till, .int m_fault, .int m_faultAt, .int m_seen, .int m_mirrors, .ref y_cost, .ref y_away, .ref y_fee, .ref y_goesTo, .ref y_priceWas, .ref y_isKept, .ref y_kept, .ref y_trace, .int m_traced])), (y_lane, .inl (cI, 8, .inl la_)), (y_many, .inl (cI, 8, .inl ma_)), (y_item, .inl (cI, 320, .inl it_))] := hD
    refine lv_if_ne (tgt := 15) S.1 S.2.1 dX9_set_9 (by decide) (fun c_51 => absurd c_51 (by decide)) (fun c_51 => ?_)
    refine lv_ldc (v := (-1000001)) S.1 S.2.1 S.2.2.2.1 (S.2.2.2.2 (.constant RX9 73 (-1000001)) (by decide +kernel)) dX9_set_12 ?_
    exact b_iret S.1 S.2.1 X.2.1 X.2.2.1 hP hD hS (Or.inl ⟨m_status, (by first | assumption | omega | decide | (rw [show Int32.toInt 0 = 0 from rfl]; omega)), rfl, rfl⟩) dX9_set_14
set_option maxHeartbeats 4000000 in
set_option maxRecDepth 100000 in
theorem lp_mcopy {p : Program} (l : Launch) {e : Env} {s : State} {m : MethodId} {below : List Frame} {meth : Method} {c : Code} (D : va_G) (cI cZ cC cS : ClassId) (sq : Nat → Nat) (y : Nat) (y_lane : Nat) (y_many : Nat) (y_item : Nat) (a : Int32) (i : Int32) (b : Int32) (j : Int32) (nn : Int32) (m_thrown : Int32) (m_status : Int32) (y_city : Nat) (y_fresh : Nat) (m_isThere : Int32) (y_tape : Nat) (m_taped : Int32) (m_latest : Int32) (m_length : Int32) (m_cursor : Int32) (m_token : Int32) (m_start : Int32) (m_till : Int32) (m_fault : Int32) (m_faultAt : Int32) (m_seen : Int32) (m_mirrors : Int32) (y_cost : Nat) (y_away : Nat) (y_fee : Nat) (y_goesTo : Nat) (y_priceWas : Nat) (y_isKept : Nat) (y_kept : Nat) (y_trace : Nat) (m_traced : Int32) (la_ : Nat → Int32) (ma_ : Nat → Int32) (it_ : Nat → Int32) (hrg_ma_ : rng ma_ 8 (0) (40)) (up_ : Int32) (hab : 0 ≤ a.toInt ∧ a.toInt < 8 ∧ 0 ≤ b.toInt ∧ b.toInt < 8 ∧ 0 ≤ i.toInt ∧ 0 ≤ j.toInt ∧ 0 ≤ nn.toInt ∧ i.toInt + nn.toInt ≤ 40 ∧ j.toInt + nn.toInt ≤ 40) {A : Nat → Prop} (X : bX p s m meth c cX9_copy 9 wsX9_copy yX9_copy (some .int) [.ref y, .int a, .int i, .int b, .int j, .int nn]) (hK : kW D (tyW cI cZ cC cS) sq s) (hT : sT sq A s s.heap) (hA : ∀ q, s.heap.size ≤ q → A q) (K : ∀ (k : Int32) (it_1 : Nat → Int32), (rng ma_ 8 (0) (40)) → (0 ≤ k.toInt ∧ k.toInt ≤ nn.toInt) → ∀ (H : Heap) (locs : List Loc) (ls : Array Slot), va_P D vwCl [(y, .inr (9, [.int 0, .int 0, .ref y_lane, .ref y_many, .ref y_item, .ref y_city, .ref y_fresh, .int m_isThere, .ref y_tape, .int m_taped, .int m_latest, .int m_length, .int m_cursor, .int m_token, .int m_start, .int m_till, .int m_fault, .int m_faultAt, .int m_seen, .int m_mirrors, .ref y_cost, .ref y_away, .ref y_fee, .ref y_goesTo, .ref y_priceWas, .ref y_isKept, .ref y_kept, .ref y_trace, .int m_traced])), (y_lane, .inl (cI, 8, .inl la_)), (y_many, .inl (cI, 8, .inl ma_)), (y_item, .inl (cI, 320, .inl it_1))] H → va_D A [(y, .inr (9, [.int 0, .int 0, .ref y_lane, .ref y_many, .ref y_item, .ref y_city, .ref y_fresh, .int m_isThere, .ref y_tape, .int m_taped, .int m_latest, .int m_length, .int m_cursor, .int m_token, .int m_start, .int m_till, .int m_fault, .int m_faultAt, .int m_seen, .int m_mirrors, .ref y_cost, .ref y_away, .ref y_fee, .ref y_goesTo, .ref y_priceWas, .ref y_isKept, .ref y_kept, .ref y_trace, .int m_traced])), (y_lane, .inl (cI, 8, .inl la_)), (y_many, .inl (cI, 8, .inl ma_)), (y_item, .inl (cI, 320, .inl it_1))] → va_S A s.heap H locs → lv_has ls 9 [(7, .int k), (6, .int up_), (0, .ref y), (1, .int a), (2, .int i), (3, .int b), (4, .int j), (5, .int nn)] → W p l e (rmW 50 2000 0 0) s m ([.ref y, .int a, .int i, .int b, .int j, .int nn] : List Value).toArray below meth c H locs 0 0 (MQ below (va_Qi (fun r w => (∃ (m_status2 : Int32), (¬ (0 ≤ a.toInt ∧ a.toInt < 8 ∧ 0 ≤ b.toInt ∧ b.toInt < 8)) ∧ r = -1000001 ∧ w = [(y, .inr (9, [.int 0, .int m_status2, .ref y_lane, .ref y_many, .ref y_item, .ref y_city, .ref y_fresh, .int m_isThere, .ref y_tape, .int m_taped, .int m_latest, .int m_length, .int m_cursor, .int m_token, .int m_start, .int m_till, .int m_fault, .int m_faultAt, .int m_seen, .int m_mirrors, .ref y_cost, .ref y_away, .ref y_fee, .ref y_goesTo, .ref y_priceWas, .ref y_isKept, .ref y_kept, .ref y_trace, .int m_traced])), (y_lane, .inl (cI, 8, .inl la_)), (y_many, .inl (cI, 8, .inl ma_)), (y_item, .inl (cI, 320, .inl it_))]) ∨ (∃ (m_status2 : Int32), (0 ≤ a.toInt ∧ a.toInt < 8 ∧ 0 ≤ b.toInt ∧ b.toInt < 8 ∧ ((la_ a.toNatClampNeg).toInt < 0 ∨ (la_ b.toNatClampNeg).toInt < 0)) ∧ r = -1000011 ∧ w = [(y, .inr (9, [.int 0, .int m_status2, .ref y_lane, .ref y_many, .ref y_item, .ref y_city, .ref y_fresh, .int m_isThere, .ref y_tape, .int m_taped, .int m_latest, .int m_length, .int m_cursor, .int m_token, .int m_start, .int m_till, .int m_fault, .int m_faultAt, .int m_seen, .int m_mirrors, .ref y_cost, .ref y_away, .ref y_fee, .ref y_goesTo, .ref y_priceWas, .ref y_isKept, .ref y_kept, .ref y_trace, .int m_traced])), (y_lane, .inl (cI, 8, .inl la_)), (y_many, .inl (cI, 8, .inl ma_)), (y_item, .inl (cI, 320, .inl it_))]) ∨ (∃ (m_status2 : Int32), (0 ≤ a.toInt ∧ a.toInt < 8 ∧ 0 ≤ b.toInt ∧ b.toInt < 8 ∧ 0 ≤ (la_ a.toNatClampNeg).toInt ∧ 0 ≤ (la_ b.toNatClampNeg).toInt ∧ ¬ (la_ a.toNatClampNeg).toInt = (la_ b.toNatClampNeg).toInt) ∧ r = -1000015 ∧ w = [(y, .inr (9, [.int 0, .int m_status2, .ref y_lane, .ref y_many, .ref y_item, .ref y_city, .ref y_fresh, .int m_isThere, .ref y_tape, .int m_taped, .int m_latest, .int m_length, .int m_cursor, .int m_token, .int m_start, .int m_till, .int m_fault, .int m_faultAt, .int m_seen, .int m_mirrors, .ref y_cost, .ref y_away, .ref y_fee, .ref y_goesTo, .ref y_priceWas, .ref y_isKept, .ref y_kept, .ref y_trace, .int m_traced])), (y_lane, .inl (cI, 8, .inl la_)), (y_many, .inl (cI, 8, .inl ma_)), (y_item, .inl (cI, 320, .inl it_))]) ∨ (∃ (m_status2 : Int32), (0 ≤ a.toInt ∧ a.toInt < 8 ∧ 0 ≤ b.toInt ∧ b.toInt < 8 ∧ 0 ≤ (la_ a.toNatClampNeg).toInt ∧ 0 ≤ (la_ b.toNatClampNeg).toInt ∧ (la_ a.toNatClampNeg).toInt = (la_ b.toNatClampNeg).toInt ∧ ¬ (0 ≤ i.toInt ∧ 0 ≤ j.toInt ∧ 0 ≤ nn.toInt ∧ i.toInt + nn.toInt ≤ (ma_ a.toNatClampNeg).toInt ∧ j.toInt + nn.toInt ≤ (ma_ b.toNatClampNeg).toInt)) ∧ r = -1000012 ∧ w = [(y, .inr (9, [.int 0, .int m_status2, .ref y_lane, .ref y_many, .ref y_item, .ref y_city, .ref y_fresh, .int m_isThere, .ref y_tape, .int m_taped, .int m_latest, .int m_length, .int m_cursor, .int m_token, .int m_start, .int m_till, .int m_fault, .int m_faultAt, .int m_seen, .int m_mirrors, .ref y_cost, .ref y_away, .ref y_fee, .ref y_goesTo, .ref y_priceWas, .ref y_isKept, .ref y_kept, .ref y_trace, .int m_traced])), (y_lane, .inl (cI, 8, .inl la_)), (y_many, .inl (cI, 8, .inl ma_)), (y_item, .inl (cI, 320, .inl it_))]) ∨ (∃ (m_status2 : Int32), ∃ (it_2 : Nat → Int32), (0 ≤ a.toInt ∧ a.toInt < 8 ∧ 0 ≤ b.toInt ∧ b.toInt < 8 ∧ 0 ≤ (la_ a.toNatClampNeg).toInt ∧ 0 ≤ (la_ b.toNatClampNeg).toInt ∧ (la_ a.toNatClampNeg).toInt = (la_ b.toNatClampNeg).toInt ∧ 0 ≤ i.toInt ∧ 0 ≤ j.toInt ∧ 0 ≤ nn.toInt ∧ i.toInt + nn.toInt ≤ (ma_ a.toNatClampNeg).toInt ∧ j.toInt + nn.toInt ≤ (ma_ b.toNatClampNeg).toInt) ∧ r = nn ∧ w = [(y, .inr (9, [.int 0, .int m_status2, .ref y_lane, .ref y_many, .ref y_item, .ref y_city, .ref y_fresh, .int m_isThere, .ref y_tape, .int m_taped, .int m_latest, .int m_length, .int m_cursor, .int m_token, .int m_start, .int m_till, .int m_fault, .int m_faultAt, .int m_seen, .int m_mirrors, .ref y_cost, .ref y_away, .ref y_fee, .ref y_goesTo, .ref y_priceWas, .ref y_isKept, .ref y_kept, .ref y_trace, .int m_traced])), (y_lane, .inl (cI, 8, .inl la_)), (y_many, .inl (cI, 8, .inl ma_)), (y_item, .inl (cI, 320, .inl it_2))])) (wD D A) A) ([.ref y, .int a, .int i, .int b, .int j, .int nn] : List Value).toArray s 0 0 A) (F0 m 204 ls [])) : ∀ (mN : Nat) (k : Int32) (it_1 : Nat → Int32), (rng ma_ 8 (0) (40)) → (0 ≤ k.toInt ∧ k.toInt ≤ nn.toInt) → ((nn.toInt - k.toInt).toNat < mN) → ∀ (H : Heap) (locs : List Loc) (ls : Array Slot), va_P D vwCl [(y, .inr (9, [.int 0, .int 0, .ref y_lane, .ref y_many, .ref y_item, .ref y_city, .ref y_fresh, .int m_isThere, .ref y_tape, .int m_taped, .int m_latest, .int m_length, .int m_cursor, .int m_token, .int m_start, .int m_till, .int m_fault, .int m_faultAt, .int m_seen, .int m_mirrors, .ref y_cost, .ref y_away, .ref y_fee, .ref y_goesTo, .ref y_priceWas, .ref y_isKept, .ref y_kept, .ref y_trace, .int m_traced])), (y_lane, .inl (cI, 8, .inl la_)), (y_many, .inl (cI, 8, .inl ma_)), (y_item, .inl (cI, 320, .inl it_1))] H → va_D A [(y, .inr (9, [.int 0, .int 0, .ref y_lane, .ref y_many, .ref y_item, .ref y_city, .ref y_fresh, .int m_isThere, .ref y_tape, .int m_taped, .int m_latest, .int m_length, .int m_cursor, .int m_token, .int m_start, .int m_till, .int m_fault, .int m_faultAt, .int m_seen, .int m_mirrors, .ref y_cost, .ref y_away, .ref y_fee, .ref y_goesTo, .ref y_priceWas, .ref y_isKept, .ref y_kept, .ref y_trace, .int m_traced])), (y_lane, .inl (cI, 8, .inl la_)), (y_many, .inl (cI, 8, .inl ma_)), (y_item, .inl (cI, 320, .inl it_1))] → va_S A s.heap H locs → lv_has ls 9 [(7, .int k), (6, .int up_), (0, .ref y), (1, .int a), (2, .int i), (3, .int b), (4, .int j), (5, .int nn)] → W p l e (rmW 50 2000 0 0) s m ([.ref y, .int a, .int i, .int b, .int j, .int nn] : List Value).toArray below meth c H locs 0 0 (MQ below (va_Qi (fun r w => (∃ (m_status2 : Int32), (¬ (0 ≤ a.toInt ∧ a.toInt < 8 ∧ 0 ≤ b.toInt ∧ b.toInt < 8)) ∧ r = -1000001 ∧ w = [(y, .inr (9, [.int 0, .int m_status2, .ref y_lane, .ref y_many, .ref y_item, .ref y_city, .ref y_fresh, .int m_isThere, .ref y_tape, .int m_taped, .int m_latest, .int m_length, .int m_cursor, .int m_token, .int m_start, .int m_till, .int m_fault, .int m_faultAt, .int m_seen, .int m_mirrors, .ref y_cost, .ref y_away, .ref y_fee, .ref y_goesTo, .ref y_priceWas, .ref y_isKept, .ref y_kept, .ref y_trace, .int m_traced])), (y_lane, .inl (cI, 8, .inl la_)), (y_many, .inl (cI, 8, .inl ma_)), (y_item, .inl (cI, 320, .inl it_))]) ∨ (∃ (m_status2 : Int32), (0 ≤ a.toInt ∧ a.toInt < 8 ∧ 0 ≤ b.toInt ∧ b.toInt < 8 ∧ ((la_ a.toNatClampNeg).toInt < 0 ∨ (la_ b.toNatClampNeg).toInt < 0)) ∧ r = -1000011 ∧ w = [(y, .inr (9, [.int 0, .int m_status2, .ref y_lane, .ref y_many, .ref y_item, .ref y_city, .ref y_fresh, .int m_isThere, .ref y_tape, .int m_taped, .int m_latest, .int m_length, .int m_cursor, .int m_token, .int m_start, .int m_till, .int m_fault, .int m_faultAt, .int m_seen, .int m_mirrors, .ref y_cost, .ref y_away, .ref y_fee, .ref y_goesTo, .ref y_priceWas, .ref y_isKept, .ref y_kept, .ref y_trace, .int m_traced])), (y_lane, .inl (cI, 8, .inl la_)), (y_many, .inl (cI, 8, .inl ma_)), (y_item, .inl (cI, 320, .inl it_))]) ∨ (∃ (m_status2 : Int32), (0 ≤ a.toInt ∧ a.toInt < 8 ∧ 0 ≤ b.toInt ∧ b.toInt < 8 ∧ 0 ≤ (la_ a.toNatClampNeg).toInt ∧ 0 ≤ (la_ b.toNatClampNeg).toInt ∧ ¬ (la_ a.toNatClampNeg).toInt = (la_ b.toNatClampNeg).toInt) ∧ r = -1000015 ∧ w = [(y, .inr (9, [.int 0, .int m_status2, .ref y_lane, .ref y_many, .ref y_item, .ref y_city, .ref y_fresh, .int m_isThere, .ref y_tape, .int m_taped, .int m_latest, .int m_length, .int m_cursor, .int m_token, .int m_start, .int m_till, .int m_fault, .int m_faultAt, .int m_seen, .int m_mirrors, .ref y_cost, .ref y_away, .ref y_fee, .ref y_goesTo, .ref y_priceWas, .ref y_isKept, .ref y_kept, .ref y_trace, .int m_traced])), (y_lane, .inl (cI, 8, .inl la_)), (y_many, .inl (cI, 8, .inl ma_)), (y_item, .inl (cI, 320, .inl it_))]) ∨ (∃ (m_status2 : Int32), (0 ≤ a.toInt ∧ a.toInt < 8 ∧ 0 ≤ b.toInt ∧ b.toInt < 8 ∧ 0 ≤ (la_ a.toNatClampNeg).toInt ∧ 0 ≤ (la_ b.toNatClampNeg).toInt ∧ (la_ a.toNatClampNeg).toInt = (la_ b.toNatClampNeg).toInt ∧ ¬ (0 ≤ i.toInt ∧ 0 ≤ j.toInt ∧ 0 ≤ nn.toInt ∧ i.toInt + nn.toInt ≤ (ma_ a.toNatClampNeg).toInt ∧ j.toInt + nn.toInt ≤ (ma_ b.toNatClampNeg).toInt)) ∧ r = -1000012 ∧ w = [(y, .inr (9, [.int 0, .int m_status2, .ref y_lane, .ref y_many, .ref y_item, .ref y_city, .ref y_fresh, .int m_isThere, .ref y_tape, .int m_taped, .int m_latest, .int m_length, .int m_cursor, .int m_token, .int m_start, .int m_till, .int m_fault, .int m_faultAt, .int m_seen, .int m_mirrors, .ref y_cost, .ref y_away, .ref y_fee, .ref y_goesTo, .ref y_priceWas, .ref y_isKept, .ref y_kept, .ref y_trace, .int m_traced])), (y_lane, .inl (cI, 8, .inl la_)), (y_many, .inl (cI, 8, .inl ma_)), (y_item, .inl (cI, 320, .inl it_))]) ∨ (∃ (m_status2 : Int32), ∃ (it_2 : Nat → Int32), (0 ≤ a.toInt ∧ a.toInt < 8 ∧ 0 ≤ b.toInt ∧ b.toInt < 8 ∧ 0 ≤ (la_ a.toNatClampNeg).toInt ∧ 0 ≤ (la_ b.toNatClampNeg).toInt ∧ (la_ a.toNatClampNeg).toInt = (la_ b.toNatClampNeg).toInt ∧ 0 ≤ i.toInt ∧ 0 ≤ j.toInt ∧ 0 ≤ nn.toInt ∧ i.toInt + nn.toInt ≤ (ma_ a.toNatClampNeg).toInt ∧ j.toInt + nn.toInt ≤ (ma_ b.toNatClampNeg).toInt) ∧ r = nn ∧ w = [(y, .inr (9, [.int 0, .int m_status2, .ref y_lane, .ref y_many, .ref y_item, .ref y_city, .ref y_fresh, .int m_isThere, .ref y_tape, .int m_taped, .int m_latest, .int m_length, .int m_cursor, .int m_token, .int m_start, .int m_till, .int m_fault, .int m_faultAt, .int m_seen, .int m_mirrors, .ref y_cost, .ref y_away, .ref y_fee, .ref y_goesTo, .ref y_priceWas, .ref y_isKept, .ref y_kept, .ref y_trace, .int m_traced])), (y_lane, .inl (cI, 8, .inl la_)), (y_many, .inl (cI, 8, .inl ma_)), (y_item, .inl (cI, 320, .inl it_2))])) (wD D A) A) ([.ref y, .int a, .int i, .int b, .int j, .int nn] : List Value).toArray s 0 0 A) (F0 m 143 ls []) := by
  have S : CallFix p m c cX9_copy 9 s ([.ref y, .int a, .int i, .int b, .int j, .int nn] : List Value).toArray wsX9_copy RX9 := X.1
  have iX9 := jX9_copy_X9
  intro mN
  induction mN with
  | zero => intro k it_1 hrg_ma_ hk hm; exact absurd hm (Nat.not_lt_zero _)
  | succ mN ih =>
    intro k it_1 hrg_ma_ hk hm H locs ls hP hD hS hl
    refine lv_iload S.1 S.2.1 dX9_copy_143 (lv_at hl 0 rfl) ?_
    refine lv_iload S.1 S.2.1 dX9_copy_145 (lv_at hl 7 rfl) ?_
    refine lv_icmp_ge (tgt := 204) S.1 S.2.1 dX9_copy_147 (by decide) (fun c_101 => ?_) (fun c_101 => ?_)
    · rw [le2 (a := nn) (b := k) (A := nn.toInt) (B := k.toInt) rfl rfl] at c_101
      exact K k it_1 (by first | assumption | omega | decide | (rw [show Int32.toInt 0 = 0 from rfl]; omega)) (by first | assumption | omega | decide | (rw [show Int32.toInt 0 = 0 from rfl]; omega)) H _ ls hP hD hS (lv_sub hl [0, 1, 2, 3, 4, 5, 6, 7] rfl)
    · rw [le2 (a := nn) (b := k) (A := nn.toInt) (B := k.toInt) rfl rfl] at c_101
      refine lv_iload S.1 S.2.1 dX9_copy_150 (lv_at hl 1 rfl) ?_
      refine lv_if_eq (tgt := 160) S.1 S.2.1 dX9_copy_152 (by decide) (fun c_102 => ?_) (fun c_102 => ?_)
      · rw [eq2 (a := up_) (b := 0) (A := up_.toInt) (B := 0) rfl rfl] at c_102
        refine lv_iload S.1 S.2.1 dX9_copy_160 (lv_at hl 7 rfl) ?_
        refine lv_iconst (v := (1)) S.1 S.2.1 dX9_copy_162 (by decide) ?_
        refine lv_isub S.1 S.2.1 dX9_copy_163 ?_
        refine lv_topi (fun x_103 ex_103 => ?_)
        have tx_103 : x_103.toInt = nn.toInt - (1) := subI (A := nn.toInt) (B := 1) ex_103 rfl rfl (by omega) (by omega)
        refine lv_iload S.1 S.2.1 dX9_copy_164 (lv_at hl 0 rfl) ?_
        refine lv_isub S.1 S.2.1 dX9_copy_166 ?_
        refine lv_topi (fun x_104 ex_104 => ?_)
        have tx_104 : x_104.toInt = x_103.toInt - (k.toInt) := subI (A := x_103.toInt) (B := k.toInt) ex_104 rfl rfl (by omega) (by omega)
        refine lv_istore (lv' := [(8, .int x_104), (7, .int k), (6, .int up_), (0, .ref y), (1, .int a), (2, .int i), (3, .int b), (4, .int j), (5, .int nn)]) S.1 S.2.1 dX9_copy_167 hl (by decide) rfl (fun ls hl => ?_)
        refine lv_aload_n S.1 S.2.1 dX9_copy_169 rfl (lv_at hl 3 rfl) ?_
        refine b_get (v := .ref y_item) S iX9 hK hP 0 rfl rfl 4 (by decide) (by decide +kernel) rfl dX9_copy_170 ?_
        refine lv_bipush (v := (40)) S.1 S.2.1 dX9_copy_173 (by decide) ?_
        refine lv_iload_n S.1 S.2.1 dX9_copy_175 rfl (lv_at hl 6 rfl) ?_
        refine lv_imul S.1 S.2.1 dX9_copy_176 ?_
        refine lv_topi (fun x_105 ex_105 => ?_)
        have tx_105 : x_105.toInt = 40 * b.toInt := mulI (A := 40) (B := b.toInt) ex_105 rfl rfl (by omega) (by omega)
        refine lv_iload S.1 S.2.1 dX9_copy_177 (lv_at hl 7 rfl) ?_
        refine lv_iadd S.1 S.2.1 dX9_copy_179 ?_
        refine lv_topi (fun x_106 ex_106 => ?_)
        have tx_106 : x_106.toInt = x_105.toInt + (j.toInt) := addI (A := x_105.toInt) (B := j.toInt) ex_106 rfl rfl (by omega) (by omega)
        refine lv_iload S.1 S.2.1 dX9_copy_180 (lv_at hl 0 rfl) ?_
        refine lv_iadd S.1 S.2.1 dX9_copy_182 ?_
        refine lv_topi (fun x_107 ex_107 => ?_)
        have tx_107 : x_107.toInt = x_106.toInt + (x_104.toInt) := addI (A := x_106.toInt) (B := x_104.toInt) ex_107 rfl rfl (by omega) (by omega)
        refine lv_aload_n S.1 S.2.1 dX9_copy_183 rfl (lv_at hl 3 rfl) ?_
        refine b_get (v := .ref y_item) S iX9 hK hP 0 rfl rfl 4 (by decide) (by decide +kernel) rfl dX9_copy_184 ?_
        refine lv_bipush (v := (40)) S.1 S.2.1 dX9_copy_187 (by decide) ?_
        refine lv_iload_n S.1 S.2.1 dX9_copy_189 rfl (lv_at hl 4 rfl) ?_
        refine lv_imul S.1 S.2.1 dX9_copy_190 ?_
        refine lv_topi (fun x_108 ex_108 => ?_)
        have tx_108 : x_108.toInt = 40 * a.toInt := mulI (A := 40) (B := a.toInt) ex_108 rfl rfl (by omega) (by omega)
        refine lv_iload_n S.1 S.2.1 dX9_copy_191 rfl (lv_at hl 5 rfl) ?_
        refine lv_iadd S.1 S.2.1 dX9_copy_192 ?_
        refine lv_topi (fun x_109 ex_109 => ?_)
        have tx_109 : x_109.toInt = x_108.toInt + (i.toInt) := addI (A := x_108.toInt) (B := i.toInt) ex_109 rfl rfl (by omega) (by omega)
        refine lv_iload S.1 S.2.1 dX9_copy_193 (lv_at hl 0 rfl) ?_
        refine lv_iadd S.1 S.2.1 dX9_copy_195 ?_
        refine lv_topi (fun x_110 ex_110 => ?_)
        have tx_110 : x_110.toInt = x_109.toInt + (x_104.toInt) := addI (A := x_109.toInt) (B := x_104.toInt) ex_110 rfl rfl (by omega) (by omega)
        have hin_111 : vp_in x_110 320 := (in_of (n := 320) (by omega) (by omega))
        refine va_iald S.1 S.2.1 hK.1 hP 3 0 rfl rfl hin_111 dX9_copy_196 ?_
        refine lv_topi (fun x_112 ex_112 => ?_)
        refine va_iast S.1 S.2.1 hK.1 hP hD hS 3 0 rfl rfl (in_of (n := 320) (by omega) (by omega)) dX9_copy_197 (fun H locs hP hD hS => ?_)
        obtain ⟨f_113, hf_113⟩ : ∃ g, (upd it_1 x_107.toNatClampNeg (x_112)) = g := ⟨_, rfl⟩
        have hP : va_P D vwCl [(y, .inr (9, [.int 0, .int 0, .ref y_lane, .ref y_many, .ref y_item, .ref y_city, .ref y_fresh, .int m_isThere, .ref y_tape, .int m_taped, .int m_latest, .int m_length, .int m_cursor, .int m_token, .int m_start, .int m_till, .int m_fault, .int m_faultAt, .int m_seen, .int m_mirrors, .ref y_cost, .ref y_away, .ref y_fee, .ref y_goesTo, .ref y_priceWas, .ref y_isKept, .ref y_kept, .ref y_trace, .int m_traced])), (y_lane, .inl (cI, 8, .inl la_)), (y_many, .inl (cI, 8, .inl ma_)), (y_item, .inl (cI, 320, .inl (upd it_1 x_107.toNatClampNeg (x_112))))] H := hP
        have hD : va_D A [(y, .inr (9, [.int 0, .int 0, .ref y_lane, .ref y_many, .ref y_item, .ref y_city, .ref y_fresh, .int m_isThere, .ref y_tape, .int m_taped, .int m_latest, .int m_length, .int m_cursor, .int m_token, .int m_start, .int m_till, .int m_fault, .int m_faultAt, .int m_seen, .int m_mirrors, .ref y_cost, .ref y_away, .ref y_fee, .ref y_goesTo, .ref y_priceWas, .ref y_isKept, .ref y_kept, .ref y_trace, .int m_traced])), (y_lane, .inl (cI, 8, .inl la_)), (y_many, .inl (cI, 8, .inl ma_)), (y_item, .inl (cI, 320, .inl (upd it_1 x_107.toNatClampNeg (x_112))))] := hD
        rw [hf_113] at hP hD
        obtain ⟨x_114, ex_114⟩ : ∃ y : Int32, y = k + Int32.ofInt (1) := ⟨_, rfl⟩
        refine lv_iinc (v := x_114) (lv' := [(7, .int x_114), (8, .int x_104), (6, .int up_), (0, .ref y), (1, .int a), (2, .int i), (3, .int b), (4, .int j), (5, .int nn)]) S.1 S.2.1 dX9_copy_198 hl (k := 1) rfl ex_114.symm (by decide) rfl (fun ls hl => ?_)
        have tx_114 : x_114.toInt = k.toInt + (1) := addI (A := k.toInt) (B := 1) ex_114 rfl rfl (by omega) (by omega)
        refine lv_goto (tgt := 143) S.1 S.2.1 dX9_copy_201 (by decide) ?_
        exact ih x_114 f_113 (by first | assumption | omega | decide | (rw [show Int32.toInt 0 = 0 from rfl]; omega)) (by first | assumption | omega | decide | (rw [show Int32.toInt 0 = 0 from rfl]; omega)) (by omega) H _ ls hP hD hS (lv_sub hl [0, 2, 3, 4, 5, 6, 7, 8] rfl)
      · rw [eq2 (a := up_) (b := 0) (A := up_.toInt) (B := 0) rfl rfl] at c_102
        refine lv_iload S.1 S.2.1 dX9_copy_155 (lv_at hl 0 rfl) ?_
        refine lv_goto (tgt := 167) S.1 S.2.1 dX9_copy_157 (by decide) ?_
        refine lv_istore (lv' := [(8, .int k), (7, .int k), (6, .int up_), (0, .ref y), (1, .int a), (2, .int i), (3, .int b), (4, .int j), (5, .int nn)]) S.1 S.2.1 dX9_copy_167 hl (by decide) rfl (fun ls hl => ?_)
        refine lv_aload_n S.1 S.2.1 dX9_copy_169 rfl (lv_at hl 3 rfl) ?_
        refine b_get (v := .ref y_item) S iX9 hK hP 0 rfl rfl 4 (by decide) (by decide +kernel) rfl dX9_copy_170 ?_
        refine lv_bipush (v := (40)) S.1 S.2.1 dX9_copy_173 (by decide) ?_
        refine lv_iload_n S.1 S.2.1 dX9_copy_175 rfl (lv_at hl 6 rfl) ?_
        refine lv_imul S.1 S.2.1 dX9_copy_176 ?_
        refine lv_topi (fun x_115 ex_115 => ?_)
        have tx_115 : x_115.toInt = 40 * b.toInt := mulI (A := 40) (B := b.toInt) ex_115 rfl rfl (by omega) (by omega)
        refine lv_iload S.1 S.2.1 dX9_copy_177 (lv_at hl 7 rfl) ?_
        refine lv_iadd S.1 S.2.1 dX9_copy_179 ?_
        refine lv_topi (fun x_116 ex_116 => ?_)
        have tx_116 : x_116.toInt = x_115.toInt + (j.toInt) := addI (A := x_115.toInt) (B := j.toInt) ex_116 rfl rfl (by omega) (by omega)
        refine lv_iload S.1 S.2.1 dX9_copy_180 (lv_at hl 0 rfl) ?_
        refine lv_iadd S.1 S.2.1 dX9_copy_182 ?_
        refine lv_topi (fun x_117 ex_117 => ?_)
        have tx_117 : x_117.toInt = x_116.toInt + (k.toInt) := addI (A := x_116.toInt) (B := k.toInt) ex_117 rfl rfl (by omega) (by omega)
        refine lv_aload_n S.1 S.2.1 dX9_copy_183 rfl (lv_at hl 3 rfl) ?_
        refine b_get (v := .ref y_item) S iX9 hK hP 0 rfl rfl 4 (by decide) (by decide +kernel) rfl dX9_copy_184 ?_
        refine lv_bipush (v := (40)) S.1 S.2.1 dX9_copy_187 (by decide) ?_
        refine lv_iload_n S.1 S.2.1 dX9_copy_189 rfl (lv_at hl 4 rfl) ?_
        refine lv_imul S.1 S.2.1 dX9_copy_190 ?_
        refine lv_topi (fun x_118 ex_118 => ?_)
        have tx_118 : x_118.toInt = 40 * a.toInt := mulI (A := 40) (B := a.toInt) ex_118 rfl rfl (by omega) (by omega)
        refine lv_iload_n S.1 S.2.1 dX9_copy_191 rfl (lv_at hl 5 rfl) ?_
        refine lv_iadd S.1 S.2.1 dX9_copy_192 ?_
        refine lv_topi (fun x_119 ex_119 => ?_)
        have tx_119 : x_119.toInt = x_118.toInt + (i.toInt) := addI (A := x_118.toInt) (B := i.toInt) ex_119 rfl rfl (by omega) (by omega)
        refine lv_iload S.1 S.2.1 dX9_copy_193 (lv_at hl 0 rfl) ?_
        refine lv_iadd S.1 S.2.1 dX9_copy_195 ?_
        refine lv_topi (fun x_120 ex_120 => ?_)
        have tx_120 : x_120.toInt = x_119.toInt + (k.toInt) := addI (A := x_119.toInt) (B := k.toInt) ex_120 rfl rfl (by omega) (by omega)
        have hin_121 : vp_in x_120 320 := (in_of (n := 320) (by omega) (by omega))
        refine va_iald S.1 S.2.1 hK.1 hP 3 0 rfl rfl hin_121 dX9_copy_196 ?_
        refine lv_topi (fun x_122 ex_122 => ?_)
        refine va_iast S.1 S.2.1 hK.1 hP hD hS 3 0 rfl rfl (in_of (n := 320) (by omega) (by omega)) dX9_copy_197 (fun H locs hP hD hS => ?_)
        obtain ⟨f_123, hf_123⟩ : ∃ g, (upd it_1 x_117.toNatClampNeg (x_122)) = g := ⟨_, rfl⟩
        have hP : va_P D vwCl [(y, .inr (9, [.int 0, .int 0, .ref y_lane, .ref y_many, .ref y_item, .ref y_city, .ref y_fresh, .int m_isThere, .ref y_tape, .int m_taped, .int m_latest, .int m_length, .int m_cursor, .int m_token, .int m_start, .int m_till, .int m_fault, .int m_faultAt, .int m_seen, .int m_mirrors, .ref y_cost, .ref y_away, .ref y_fee, .ref y_goesTo, .ref y_priceWas, .ref y_isKept, .ref y_kept, .ref y_trace, .int m_traced])), (y_lane, .inl (cI, 8, .inl la_)), (y_many, .inl (cI, 8, .inl ma_)), (y_item, .inl (cI, 320, .inl (upd it_1 x_117.toNatClampNeg (x_122))))] H := hP
        have hD : va_D A [(y, .inr (9, [.int 0, .int 0, .ref y_lane, .ref y_many, .ref y_item, .ref y_city, .ref y_fresh, .int m_isThere, .ref y_tape, .int m_taped, .int m_latest, .int m_length, .int m_cursor, .int m_token, .int m_start, .int m_till, .int m_fault, .int m_faultAt, .int m_seen, .int m_mirrors, .ref y_cost, .ref y_away, .ref y_fee, .ref y_goesTo, .ref y_priceWas, .ref y_isKept, .ref y_kept, .ref y_trace, .int m_traced])), (y_lane, .inl (cI, 8, .inl la_)), (y_many, .inl (cI, 8, .inl ma_)), (y_item, .inl (cI, 320, .inl (upd it_1 x_117.toNatClampNeg (x_122))))] := hD
        rw [hf_123] at hP hD
        obtain ⟨x_124, ex_124⟩ : ∃ y : Int32, y = k + Int32.ofInt (1) := ⟨_, rfl⟩
        refine lv_iinc (v := x_124) (lv' := [(7, .int x_124), (8, .int k), (6, .int up_), (0, .ref y), (1, .int a), (2, .int i), (3, .int b), (4, .int j), (5, .int nn)]) S.1 S.2.1 dX9_copy_198 hl (k := 1) rfl ex_124.symm (by decide) rfl (fun ls hl => ?_)
        have tx_124 : x_124.toInt = k.toInt + (1) := addI (A := k.toInt) (B := 1) ex_124 rfl rfl (by omega) (by omega)
        refine lv_goto (tgt := 143) S.1 S.2.1 dX9_copy_201 (by decide) ?_
        exact ih x_124 f_123 (by first | assumption | omega | decide | (rw [show Int32.toInt 0 = 0 from rfl]; omega)) (by first | assumption | omega | decide | (rw [show Int32.toInt 0 = 0 from rfl]; omega)) (by omega) H _ ls hP hD hS (lv_sub hl [0, 2, 3, 4, 5, 6, 7, 8] rfl)
set_option maxHeartbeats 4000000 in
set_option maxRecDepth 100000 in
theorem s_X9_copy (l : Launch) (D : va_G) (cI cZ cC cS : ClassId) (sq : Nat → Nat) (sz : Nat) (y : Nat) (y_lane : Nat) (y_many : Nat) (y_item : Nat) (a : Int32) (i : Int32) (b : Int32) (j : Int32) (nn : Int32) (m_thrown : Int32) (m_status : Int32) (y_city : Nat) (y_fresh : Nat) (m_isThere : Int32) (y_tape : Nat) (m_taped : Int32) (m_latest : Int32) (m_length : Int32) (m_cursor : Int32) (m_token : Int32) (m_start : Int32) (m_till : Int32) (m_fault : Int32) (m_faultAt : Int32) (m_seen : Int32) (m_mirrors : Int32) (y_cost : Nat) (y_away : Nat) (y_fee : Nat) (y_goesTo : Nat) (y_priceWas : Nat) (y_isKept : Nat) (y_kept : Nat) (y_trace : Nat) (m_traced : Int32) (la_ : Nat → Int32) (ma_ : Nat → Int32) (it_ : Nat → Int32) (hrg_ma_ : rng ma_ 8 (0) (40)) : mI l yX9_copy wsX9_copy 50 2000 D (tyW cI cZ cC cS) sq [(y, .inr (9, [.int m_thrown, .int m_status, .ref y_lane, .ref y_many, .ref y_item, .ref y_city, .ref y_fresh, .int m_isThere, .ref y_tape, .int m_taped, .int m_latest, .int m_length, .int m_cursor, .int m_token, .int m_start, .int m_till, .int m_fault, .int m_faultAt, .int m_seen, .int m_mirrors, .ref y_cost, .ref y_away, .ref y_fee, .ref y_goesTo, .ref y_priceWas, .ref y_isKept, .ref y_kept, .ref y_trace, .int m_traced])), (y_lane, .inl (cI, 8, .inl la_)), (y_many, .inl (cI, 8, .inl ma_)), (y_item, .inl (cI, 320, .inl it_))] sz [.ref y, .int a, .int i, .int b, .int j, .int nn] (fun r w => (∃ (m_status2 : Int32), (¬ (0 ≤ a.toInt ∧ a.toInt < 8 ∧ 0 ≤ b.toInt ∧ b.toInt < 8)) ∧ r = -1000001 ∧ w = [(y, .inr (9, [.int 0, .int m_status2, .ref y_lane, .ref y_many, .ref y_item, .ref y_city, .ref y_fresh, .int m_isThere, .ref y_tape, .int m_taped, .int m_latest, .int m_length, .int m_cursor, .int m_token, .int m_start, .int m_till, .int m_fault, .int m_faultAt, .int m_seen, .int m_mirrors, .ref y_cost, .ref y_away, .ref y_fee, .ref y_goesTo, .ref y_priceWas, .ref y_isKept, .ref y_kept, .ref y_trace, .int m_traced])), (y_lane, .inl (cI, 8, .inl la_)), (y_many, .inl (cI, 8, .inl ma_)), (y_item, .inl (cI, 320, .inl it_))]) ∨ (∃ (m_status2 : Int32), (0 ≤ a.toInt ∧ a.toInt < 8 ∧ 0 ≤ b.toInt ∧ b.toInt < 8 ∧ ((la_ a.toNatClampNeg).toInt < 0 ∨ (la_ b.toNatClampNeg).toInt < 0)) ∧ r = -1000011 ∧ w = [(y, .inr (9, [.int 0, .int m_status2, .ref y_lane, .ref y_many, .ref y_item, .ref y_city, .ref y_fresh, .int m_isThere, .ref y_tape, .int m_taped, .int m_latest, .int m_length, .int m_cursor, .int m_token, .int m_start, .int m_till, .int m_fault, .int m_faultAt, .int m_seen, .int m_mirrors, .ref y_cost, .ref y_away, .ref y_fee, .ref y_goesTo, .ref y_priceWas, .ref y_isKept, .ref y_kept, .ref y_trace, .int m_traced])), (y_lane, .inl (cI, 8, .inl la_)), (y_many, .inl (cI, 8, .inl ma_)), (y_item, .inl (cI, 320, .inl it_))]) ∨ (∃ (m_status2 : Int32), (0 ≤ a.toInt ∧ a.toInt < 8 ∧ 0 ≤ b.toInt ∧ b.toInt < 8 ∧ 0 ≤ (la_ a.toNatClampNeg).toInt ∧ 0 ≤ (la_ b.toNatClampNeg).toInt ∧ ¬ (la_ a.toNatClampNeg).toInt = (la_ b.toNatClampNeg).toInt) ∧ r = -1000015 ∧ w = [(y, .inr (9, [.int 0, .int m_status2, .ref y_lane, .ref y_many, .ref y_item, .ref y_city, .ref y_fresh, .int m_isThere, .ref y_tape, .int m_taped, .int m_latest, .int m_length, .int m_cursor, .int m_token, .int m_start, .int m_till, .int m_fault, .int m_faultAt, .int m_seen, .int m_mirrors, .ref y_cost, .ref y_away, .ref y_fee, .ref y_goesTo, .ref y_priceWas, .ref y_isKept, .ref y_kept, .ref y_trace, .int m_traced])), (y_lane, .inl (cI, 8, .inl la_)), (y_many, .inl (cI, 8, .inl ma_)), (y_item, .inl (cI, 320, .inl it_))]) ∨ (∃ (m_status2 : Int32), (0 ≤ a.toInt ∧ a.toInt < 8 ∧ 0 ≤ b.toInt ∧ b.toInt < 8 ∧ 0 ≤ (la_ a.toNatClampNeg).toInt ∧ 0 ≤ (la_ b.toNatClampNeg).toInt ∧ (la_ a.toNatClampNeg).toInt = (la_ b.toNatClampNeg).toInt ∧ ¬ (0 ≤ i.toInt ∧ 0 ≤ j.toInt ∧ 0 ≤ nn.toInt ∧ i.toInt + nn.toInt ≤ (ma_ a.toNatClampNeg).toInt ∧ j.toInt + nn.toInt ≤ (ma_ b.toNatClampNeg).toInt)) ∧ r = -1000012 ∧ w = [(y, .inr (9, [.int 0, .int m_status2, .ref y_lane, .ref y_many, .ref y_item, .ref y_city, .ref y_fresh, .int m_isThere, .ref y_tape, .int m_taped, .int m_latest, .int m_length, .int m_cursor, .int m_token, .int m_start, .int m_till, .int m_fault, .int m_faultAt, .int m_seen, .int m_mirrors, .ref y_cost, .ref y_away, .ref y_fee, .ref y_goesTo, .ref y_priceWas, .ref y_isKept, .ref y_kept, .ref y_trace, .int m_traced])), (y_lane, .inl (cI, 8, .inl la_)), (y_many, .inl (cI, 8, .inl ma_)), (y_item, .inl (cI, 320, .inl it_))]) ∨ (∃ (m_status2 : Int32), ∃ (it_2 : Nat → Int32), (0 ≤ a.toInt ∧ a.toInt < 8 ∧ 0 ≤ b.toInt ∧ b.toInt < 8 ∧ 0 ≤ (la_ a.toNatClampNeg).toInt ∧ 0 ≤ (la_ b.toNatClampNeg).toInt ∧ (la_ a.toNatClampNeg).toInt = (la_ b.toNatClampNeg).toInt ∧ 0 ≤ i.toInt ∧ 0 ≤ j.toInt ∧ 0 ≤ nn.toInt ∧ i.toInt + nn.toInt ≤ (ma_ a.toNatClampNeg).toInt ∧ j.toInt + nn.toInt ≤ (ma_ b.toNatClampNeg).toInt) ∧ r = nn ∧ w = [(y, .inr (9, [.int 0, .int m_status2, .ref y_lane, .ref y_many, .ref y_item, .ref y_city, .ref y_fresh, .int m_isThere, .ref y_tape, .int m_taped, .int m_latest, .int m_length, .int m_cursor, .int m_token, .int m_start, .int m_till, .int m_fault, .int m_faultAt, .int m_seen, .int m_mirrors, .ref y_cost, .ref y_away, .ref y_fee, .ref y_goesTo, .ref y_priceWas, .ref y_isKept, .ref y_kept, .ref y_trace, .int m_traced])), (y_lane, .inl (cI, 8, .inl la_)), (y_many, .inl (cI, 8, .inl ma_)), (y_item, .inl (cI, 320, .inl it_2))])) := by
  refine b_metI (cc := cX9_copy) (maxL := 9) (ret := (some .int)) (by decide) rfl (Nat.le_of_ble_eq_true rfl) ?_
  intro p e s m below meth c ls A H X hsz hP hK hT hD hA hS hl
  have S : CallFix p m c cX9_copy 9 s ([.ref y, .int a, .int i, .int b, .int j, .int nn] : List Value).toArray wsX9_copy RX9 := X.1
  have hl : lv_has ls 9 [(0, .ref y), (1, .int a), (2, .int i), (3, .int b), (4, .int j), (5, .int nn)] := hl
  have iX9 := jX9_copy_X9
  refine lv_aload_n S.1 S.2.1 dX9_copy_0 rfl (lv_at hl 0 rfl) ?_
  refine lv_iconst (v := (0)) S.1 S.2.1 dX9_copy_1 (by decide) ?_
  refine b_put (v := .int 0) S iX9 tyX9 tyX9_ok nmX9 hK hP hD hS 0 rfl rfl 0 (by decide) (by decide +kernel) rfl rfl rfl (Nat.le_of_ble_eq_true rfl) dX9_copy_2 (fun H locs hP hD hS => ?_)
  have hP : va_P D vwCl [(y, .inr (9, [.int 0, .int m_status, .ref y_lane, .ref y_many, .ref y_item, .ref y_city, .ref y_fresh, .int m_isThere, .ref y_tape, .int m_taped, .int m_latest, .int m_length, .int m_cursor, .int m_token, .int m_start, .int m_till, .int m_fault, .int m_faultAt, .int m_seen, .int m_mirrors, .ref y_cost, .ref y_away, .ref y_fee, .ref y_goesTo, .ref y_priceWas, .ref y_isKept, .ref y_kept, .ref y_trace, .int m_traced])), (y_lane, .inl (cI, 8, .inl la_)), (y_many, .inl (cI, 8, .inl ma_)), (y_item, .inl (cI, 320, .inl it_))] H := hP
  have hD : va_D A [(y, .inr (9, [.int 0, .int m_status, .ref y_lane, .ref y_many, .ref y_item, .ref y_city, .ref y_fresh, .int m_isThere, .ref y_tape, .int m_taped, .int m_latest, .int m_length, .int m_cursor, .int m_token, .int m_start, .int m_till, .int m_fault, .int m_faultAt, .int m_seen, .int m_mirrors, .ref y_cost, .ref y_away, .ref y_fee, .ref y_goesTo, .ref y_priceWas, .ref y_isKept, .ref y_kept, .ref y_trace, .int m_traced])), (y_lane, .inl (cI, 8, .inl la_)), (y_many, .inl (cI, 8, .inl ma_)), (y_item, .inl (cI, 320, .inl it_))] := hD
  refine lv_iload_n S.1 S.2.1 dX9_copy_5 rfl (lv_at hl 1 rfl) ?_
  refine b_ai (wr := [(y, .inr (9, [.int 0, .int m_status, .ref y_lane, .ref y_many, .ref y_item, .ref y_city, .ref y_fresh, .int m_isThere, .ref y_tape, .int m_taped, .int m_latest, .int m_length, .int m_cursor, .int m_token, .int m_start, .int m_till, .int m_fault, .int m_faultAt, .int m_seen, .int m_mirrors, .ref y_cost, .ref y_away, .ref y_fee, .ref y_goesTo, .ref y_priceWas, .ref y_isKept, .ref y_kept, .ref y_trace, .int m_traced])), (y_lane, .inl (cI, 8, .inl la_)), (y_many, .inl (cI, 8, .inl ma_)), (y_item, .inl (cI, 320, .inl it_))]) (b_runS (As := [.int a]) (s_X9_isSheet l D cI cZ cC cS sq H.size a) S gX9_copy_X9_isSheet rfl hdS_X9_isSheet ⟨Nat.le_of_ble_eq_true rfl, Nat.le_of_ble_eq_true rfl⟩ ⟨Nat.le_of_ble_eq_true rfl, Nat.le_of_ble_eq_true rfl⟩ hK hT hS hA hP hD [] rfl (by decide) rfl hl.1 rfl (Nat.le_of_ble_eq_true rfl) dX9_copy_6) hP hD hS hA [] [0, 1, 2, 3] rfl rfl (by decide) (by decide) (fun r_1 w_2 H locs hw_3 hP hD hS => ?_)
  rcases hw_3 with ⟨hf_4, rfl, rfl⟩ | ⟨hf_5, rfl, rfl⟩
  · have hP : va_P D vwCl [(y, .inr (9, [.int 0, .int m_status, .ref y_lane, .ref y_many, .ref y_item, .ref y_city, .ref y_fresh, .int m_isThere, .ref y_tape, .int m_taped, .int m_latest, .int m_length, .int m_cursor, .int m_token, .int m_start, .int m_till, .int m_fault, .int m_faultAt, .int m_seen, .int m_mirrors, .ref y_cost, .ref y_away, .ref y_fee, .ref y_goesTo, .ref y_priceWas, .ref y_isKept, .ref y_kept, .ref y_trace, .int m_traced])), (y_lane, .inl (cI, 8, .inl la_)), (y_many, .inl (cI, 8, .inl ma_)), (y_item, .inl (cI, 320, .inl it_))] H := hP
    have hD : va_D A [(y, .inr (9, [.int 0, .int m_status, .ref y_lane, .ref y_many, .ref y_item, .ref y_city, .ref y_fresh, .int m_isThere, .ref y_tape, .int m_taped, .int m_latest, .int m_length, .int m_cursor, .int m_token, .int m_start, .int m_till, .int m_fault, .int m_faultAt, .int m_seen, .int m_mirrors, .ref y_cost, .ref y_away, .ref y_fee, .ref y_goesTo, .ref y_priceWas, .ref y_isKept, .ref y_kept, .ref y_trace, .int m_traced])), (y_lane, .inl (cI, 8, .inl la_)), (y_many, .inl (cI, 8, .inl ma_)), (y_item, .inl (cI, 320, .inl it_))] := hD
    refine lv_if_eq (tgt := 19) S.1 S.2.1 dX9_copy_9 (by decide) (fun c_6 => absurd c_6 (by decide)) (fun c_6 => ?_)
    refine lv_iload_n S.1 S.2.1 dX9_copy_12 rfl (lv_at hl 3 rfl) ?_
    refine b_ai (wr := [(y, .inr (9, [.int 0, .int m_status, .ref y_lane, .ref y_many, .ref y_item, .ref y_city, .ref y_fresh, .int m_isThere, .ref y_tape, .int m_taped, .int m_latest, .int m_length, .int m_cursor, .int m_token, .int m_start, .int m_till, .int m_fault, .int m_faultAt, .int m_seen, .int m_mirrors, .ref y_cost, .ref y_away, .ref y_fee, .ref y_goesTo, .ref y_priceWas, .ref y_isKept, .ref y_kept, .ref y_trace, .int m_traced])), (y_lane, .inl (cI, 8, .inl la_)), (y_many, .inl (cI, 8, .inl ma_)), (y_item, .inl (cI, 320, .inl it_))]) (b_runS (As := [.int b]) (s_X9_isSheet l D cI cZ cC cS sq H.size b) S gX9_copy_X9_isSheet rfl hdS_X9_isSheet ⟨Nat.le_of_ble_eq_true rfl, Nat.le_of_ble_eq_true rfl⟩ ⟨Nat.le_of_ble_eq_true rfl, Nat.le_of_ble_eq_true rfl⟩ hK hT hS hA hP hD [] rfl (by decide) rfl hl.1 rfl (Nat.le_of_ble_eq_true rfl) dX9_copy_13) hP hD hS hA [] [0, 1, 2, 3] rfl rfl (by decide) (by decide) (fun r_7 w_8 H locs hw_9 hP hD hS => ?_)
    rcases hw_9 with ⟨hf_10, rfl, rfl⟩ | ⟨hf_11, rfl, rfl⟩
    · have hP : va_P D vwCl [(y, .inr (9, [.int 0, .int m_status, .ref y_lane, .ref y_many, .ref y_item, .ref y_city, .ref y_fresh, .int m_isThere, .ref y_tape, .int m_taped, .int m_latest, .int m_length, .int m_cursor, .int m_token, .int m_start, .int m_till, .int m_fault, .int m_faultAt, .int m_seen, .int m_mirrors, .ref y_cost, .ref y_away, .ref y_fee, .ref y_goesTo, .ref y_priceWas, .ref y_isKept, .ref y_kept, .ref y_trace, .int m_traced])), (y_lane, .inl (cI, 8, .inl la_)), (y_many, .inl (cI, 8, .inl ma_)), (y_item, .inl (cI, 320, .inl it_))] H := hP
      have hD : va_D A [(y, .inr (9, [.int 0, .int m_status, .ref y_lane, .ref y_many, .ref y_item, .ref y_city, .ref y_fresh, .int m_isThere, .ref y_tape, .int m_taped, .int m_latest, .int m_length, .int m_cursor, .int m_token, .int m_start, .int m_till, .int m_fault, .int m_faultAt, .int m_seen, .int m_mirrors, .ref y_cost, .ref y_away, .ref y_fee, .ref y_goesTo, .ref y_priceWas, .ref y_isKept, .ref y_kept, .ref y_trace, .int m_traced])), (y_lane, .inl (cI, 8, .inl la_)), (y_many, .inl (cI, 8, .inl ma_)), (y_item, .inl (cI, 320, .inl it_))] := hD
      refine lv_if_ne (tgt := 22) S.1 S.2.1 dX9_copy_16 (by decide) (fun c_12 => ?_) (fun c_12 => absurd c_12 (by decide))
      refine lv_aload_n S.1 S.2.1 dX9_copy_22 rfl (lv_at hl 0 rfl) ?_
      refine lv_iconst (v := (0)) S.1 S.2.1 dX9_copy_23 (by decide) ?_
      refine b_put (v := .int 0) S iX9 tyX9 tyX9_ok nmX9 hK hP hD hS 0 rfl rfl 1 (by decide) (by decide +kernel) rfl rfl rfl (Nat.le_of_ble_eq_true rfl) dX9_copy_24 (fun H locs hP hD hS => ?_)
      have hP : va_P D vwCl [(y, .inr (9, [.int 0, .int 0, .ref y_lane, .ref y_many, .ref y_item, .ref y_city, .ref y_fresh, .int m_isThere, .ref y_tape, .int m_taped, .int m_latest, .int m_length, .int m_cursor, .int m_token, .int m_start, .int m_till, .int m_fault, .int m_faultAt, .int m_seen, .int m_mirrors, .ref y_cost, .ref y_away, .ref y_fee, .ref y_goesTo, .ref y_priceWas, .ref y_isKept, .ref y_kept, .ref y_trace, .int m_traced])), (y_lane, .inl (cI, 8, .inl la_)), (y_many, .inl (cI, 8, .inl ma_)), (y_item, .inl (cI, 320, .inl it_))] H := hP
      have hD : va_D A [(y, .inr (9, [.int 0, .int 0, .ref y_lane, .ref y_many, .ref y_item, .ref y_city, .ref y_fresh, .int m_isThere, .ref y_tape, .int m_taped, .int m_latest, .int m_length, .int m_cursor, .int m_token, .int m_start, .int m_till, .int m_fault, .int m_faultAt, .int m_seen, .int m_mirrors, .ref y_cost, .ref y_away, .ref y_fee, .ref y_goesTo, .ref y_priceWas, .ref y_isKept, .ref y_kept, .ref y_trace, .int m_traced])), (y_lane, .inl (cI, 8, .inl la_)), (y_many, .inl (cI, 8, .inl ma_)), (y_item, .inl (cI, 320, .inl it_))] := hD
      refine lv_aload_n S.1 S.2.1 dX9_copy_27 rfl (lv_at hl 0 rfl) ?_
      refine b_get (v := .ref y_lane) S iX9 hK hP 0 rfl rfl 2 (by decide) (by decide +kernel) rfl dX9_copy_28 ?_
      refine lv_iload_n S.1 S.2.1 dX9_copy_31 rfl (lv_at hl 1 rfl) ?_
      have hin_13 : vp_in a 8 := (in_of (n := 8) (by omega) (by omega))
      refine va_iald S.1 S.2.1 hK.1 hP 1 0 rfl rfl hin_13 dX9_copy_32 ?_
      refine lv_topi (fun x_14 ex_14 => ?_)
      have bx_14 : x_14.toInt = (la_ a.toNatClampNeg).toInt := by rw [ex_14]
      refine lv_if_lt (tgt := 45) S.1 S.2.1 dX9_copy_33 (by decide) (fun c_15 => ?_) (fun c_15 => ?_)
      · rw [lt2 (a := x_14) (b := 0) (A := x_14.toInt) (B := 0) rfl rfl] at c_15
        refine lv_aload_n S.1 S.2.1 dX9_copy_45 rfl (lv_at hl 0 rfl) ?_
        refine lv_iconst (v := (1)) S.1 S.2.1 dX9_copy_46 (by decide) ?_
        refine b_ai (wr := [(y_lane, .inl (cI, 8, .inl la_)), (y_many, .inl (cI, 8, .inl ma_)), (y_item, .inl (cI, 320, .inl it_))]) (b_runV (q0 := 0) (ci := 9) (As := [.int 1]) (s_X9_finding_1 l D cI cZ cC cS sq H.size y (0) (0) y_lane y_many y_item y_city y_fresh m_isThere y_tape m_taped m_latest m_length m_cursor m_token m_start m_till m_fault m_faultAt m_seen m_mirrors y_cost y_away y_fee y_goesTo y_priceWas y_isKept y_kept y_trace m_traced) S gX9_copy_X9_finding rfl hdV_X9_finding ⟨Nat.le_of_ble_eq_true rfl, Nat.le_of_ble_eq_true rfl⟩ ⟨Nat.le_of_ble_eq_true rfl, Nat.le_of_ble_eq_true rfl⟩ hK hT hS hA hP hD rfl rfl [0] rfl (by decide) rfl hl.1 rfl (Nat.le_of_ble_eq_true rfl) dX9_copy_47) hP hD hS hA [0] [1, 2, 3] rfl rfl (by decide) (by decide) (fun r_16 w_17 H locs hw_18 hP hD hS => ?_)
        obtain ⟨rfl, rfl⟩ := hw_18
        have hP : va_P D vwCl [(y_lane, .inl (cI, 8, .inl la_)), (y_many, .inl (cI, 8, .inl ma_)), (y_item, .inl (cI, 320, .inl it_)), (y, .inr (9, [.int 0, .int 1, .ref y_lane, .ref y_many, .ref y_item, .ref y_city, .ref y_fresh, .int m_isThere, .ref y_tape, .int m_taped, .int m_latest, .int m_length, .int m_cursor, .int m_token, .int m_start, .int m_till, .int m_fault, .int m_faultAt, .int m_seen, .int m_mirrors, .ref y_cost, .ref y_away, .ref y_fee, .ref y_goesTo, .ref y_priceWas, .ref y_isKept, .ref y_kept, .ref y_trace, .int m_traced]))] H := hP
        have hD : va_D A [(y_lane, .inl (cI, 8, .inl la_)), (y_many, .inl (cI, 8, .inl ma_)), (y_item, .inl (cI, 320, .inl it_)), (y, .inr (9, [.int 0, .int 1, .ref y_lane, .ref y_many, .ref y_item, .ref y_city, .ref y_fresh, .int m_isThere, .ref y_tape, .int m_taped, .int m_latest, .int m_length, .int m_cursor, .int m_token, .int m_start, .int m_till, .int m_fault, .int m_faultAt, .int m_seen, .int m_mirrors, .ref y_cost, .ref y_away, .ref y_fee, .ref y_goesTo, .ref y_priceWas, .ref y_isKept, .ref y_kept, .ref y_trace, .int m_traced]))] := hD
        have hP := hP.sub (ws' := [(y, .inr (9, [.int 0, .int 1, .ref y_lane, .ref y_many, .ref y_item, .ref y_city, .ref y_fresh, .int m_isThere, .ref y_tape, .int m_taped, .int m_latest, .int m_length, .int m_cursor, .int m_token, .int m_start, .int m_till, .int m_fault, .int m_faultAt, .int m_seen, .int m_mirrors, .ref y_cost, .ref y_away, .ref y_fee, .ref y_goesTo, .ref y_priceWas, .ref y_isKept, .ref y_kept, .ref y_trace, .int m_traced])), (y_lane, .inl (cI, 8, .inl la_)), (y_many, .inl (cI, 8, .inl ma_)), (y_item, .inl (cI, 320, .inl it_))]) [3, 0, 1, 2] rfl
        have hD := hD.sub (ws' := [(y, .inr (9, [.int 0, .int 1, .ref y_lane, .ref y_many, .ref y_item, .ref y_city, .ref y_fresh, .int m_isThere, .ref y_tape, .int m_taped, .int m_latest, .int m_length, .int m_cursor, .int m_token, .int m_start, .int m_till, .int m_fault, .int m_faultAt, .int m_seen, .int m_mirrors, .ref y_cost, .ref y_away, .ref y_fee, .ref y_goesTo, .ref y_priceWas, .ref y_isKept, .ref y_kept, .ref y_trace, .int m_traced])), (y_lane, .inl (cI, 8, .inl la_)), (y_many, .inl (cI, 8, .inl ma_)), (y_item, .inl (cI, 320, .inl it_))]) [3, 0, 1, 2] (by decide) rfl
        have lq1 : Int32.toInt (1) = 1 := by decide
        exact b_iret S.1 S.2.1 X.2.1 X.2.2.1 hP hD hS (Or.inr (Or.inl ⟨(1), (by first | assumption | omega | decide | (rw [show Int32.toInt 0 = 0 from rfl]; omega)), rfl, rfl⟩)) dX9_copy_50
      · rw [lt2 (a := x_14) (b := 0) (A := x_14.toInt) (B := 0) rfl rfl] at c_15
        refine lv_aload_n S.1 S.2.1 dX9_copy_36 rfl (lv_at hl 0 rfl) ?_
        refine b_get (v := .ref y_lane) S iX9 hK hP 0 rfl rfl 2 (by decide) (by decide +kernel) rfl dX9_copy_37 ?_
        refine lv_iload_n S.1 S.2.1 dX9_copy_40 rfl (lv_at hl 3 rfl) ?_
        have hin_19 : vp_in b 8 := (in_of (n := 8) (by omega) (by omega))
        refine va_iald S.1 S.2.1 hK.1 hP 1 0 rfl rfl hin_19 dX9_copy_41 ?_
        refine lv_topi (fun x_20 ex_20 => ?_)
        have bx_20 : x_20.toInt = (la_ b.toNatClampNeg).toInt := by rw [ex_20]
        refine lv_if_ge (tgt := 51) S.1 S.2.1 dX9_copy_42 (by decide) (fun c_21 => ?_) (fun c_21 => ?_)
        · rw [le2 (a := 0) (b := x_20) (A := 0) (B := x_20.toInt) rfl rfl] at c_21
          refine lv_aload_n S.1 S.2.1 dX9_copy_51 rfl (lv_at hl 0 rfl) ?_
          refine b_get (v := .ref y_lane) S iX9 hK hP 0 rfl rfl 2 (by decide) (by decide +kernel) rfl dX9_copy_52 ?_
          refine lv_iload_n S.1 S.2.1 dX9_copy_55 rfl (lv_at hl 1 rfl) ?_
          have hin_22 : vp_in a 8 := (in_of (n := 8) (by omega) (by omega))
          refine va_iald S.1 S.2.1 hK.1 hP 1 0 rfl rfl hin_22 dX9_copy_56 ?_
          refine lv_topi (fun x_23 ex_23 => ?_)
          have bx_23 : x_23.toInt = (la_ a.toNatClampNeg).toInt := by rw [ex_23]
          have lx_23 : x_23.toInt = x_14.toInt := by rw [ex_23, ex_14]
          refine lv_aload_n S.1 S.2.1 dX9_copy_57 rfl (lv_at hl 0 rfl) ?_
          refine b_get (v := .ref y_lane) S iX9 hK hP 0 rfl rfl 2 (by decide) (by decide +kernel) rfl dX9_copy_58 ?_
          refine lv_iload_n S.1 S.2.1 dX9_copy_61 rfl (lv_at hl 3 rfl) ?_
          have hin_24 : vp_in b 8 := (in_of (n := 8) (by omega) (by omega))
          refine va_iald S.1 S.2.1 hK.1 hP 1 0 rfl rfl hin_24 dX9_copy_62 ?_
          refine lv_topi (fun x_25 ex_25 => ?_)
          have bx_25 : x_25.toInt = (la_ b.toNatClampNeg).toInt := by rw [ex_25]
          have lx_25 : x_25.toInt = x_20.toInt := by rw [ex_25, ex_20]
          refine lv_icmp_eq (tgt := 72) S.1 S.2.1 dX9_copy_63 (by decide) (fun c_26 => ?_) (fun c_26 => ?_)
          · rw [eq2 (a := x_23) (b := x_25) (A := x_23.toInt) (B := x_25.toInt) rfl rfl] at c_26
            refine lv_iload_n S.1 S.2.1 dX9_copy_72 rfl (lv_at hl 2 rfl) ?_
            refine lv_if_lt (tgt := 121) S.1 S.2.1 dX9_copy_73 (by decide) (fun c_27 => ?_) (fun c_27 => ?_)
            · rw [lt2 (a := i) (b := 0) (A := i.toInt) (B := 0) rfl rfl] at c_27
              refine lv_aload_n S.1 S.2.1 dX9_copy_121 rfl (lv_at hl 0 rfl) ?_
              refine lv_iconst (v := (2)) S.1 S.2.1 dX9_copy_122 (by decide) ?_
              refine b_ai (wr := [(y_lane, .inl (cI, 8, .inl la_)), (y_many, .inl (cI, 8, .inl ma_)), (y_item, .inl (cI, 320, .inl it_))]) (b_runV (q0 := 0) (ci := 9) (As := [.int 2]) (s_X9_finding_2 l D cI cZ cC cS sq H.size y (0) (0) y_lane y_many y_item y_city y_fresh m_isThere y_tape m_taped m_latest m_length m_cursor m_token m_start m_till m_fault m_faultAt m_seen m_mirrors y_cost y_away y_fee y_goesTo y_priceWas y_isKept y_kept y_trace m_traced) S gX9_copy_X9_finding rfl hdV_X9_finding ⟨Nat.le_of_ble_eq_true rfl, Nat.le_of_ble_eq_true rfl⟩ ⟨Nat.le_of_ble_eq_true rfl, Nat.le_of_ble_eq_true rfl⟩ hK hT hS hA hP hD rfl rfl [0] rfl (by decide) rfl hl.1 rfl (Nat.le_of_ble_eq_true rfl) dX9_copy_123) hP hD hS hA [0] [1, 2, 3] rfl rfl (by decide) (by decide) (fun r_28 w_29 H locs hw_30 hP hD hS => ?_)
              obtain ⟨rfl, rfl⟩ := hw_30
              have hP : va_P D vwCl [(y_lane, .inl (cI, 8, .inl la_)), (y_many, .inl (cI, 8, .inl ma_)), (y_item, .inl (cI, 320, .inl it_)), (y, .inr (9, [.int 0, .int 2, .ref y_lane, .ref y_many, .ref y_item, .ref y_city, .ref y_fresh, .int m_isThere, .ref y_tape, .int m_taped, .int m_latest, .int m_length, .int m_cursor, .int m_token, .int m_start, .int m_till, .int m_fault, .int m_faultAt, .int m_seen, .int m_mirrors, .ref y_cost, .ref y_away, .ref y_fee, .ref y_goesTo, .ref y_priceWas, .ref y_isKept, .ref y_kept, .ref y_trace, .int m_traced]))] H := hP
              have hD : va_D A [(y_lane, .inl (cI, 8, .inl la_)), (y_many, .inl (cI, 8, .inl ma_)), (y_item, .inl (cI, 320, .inl it_)), (y, .inr (9, [.int 0, .int 2, .ref y_lane, .ref y_many, .ref y_item, .ref y_city, .ref y_fresh, .int m_isThere, .ref y_tape, .int m_taped, .int m_latest, .int m_length, .int m_cursor, .int m_token, .int m_start, .int m_till, .int m_fault, .int m_faultAt, .int m_seen, .int m_mirrors, .ref y_cost, .ref y_away, .ref y_fee, .ref y_goesTo, .ref y_priceWas, .ref y_isKept, .ref y_kept, .ref y_trace, .int m_traced]))] := hD
              have hP := hP.sub (ws' := [(y, .inr (9, [.int 0, .int 2, .ref y_lane, .ref y_many, .ref y_item, .ref y_city, .ref y_fresh, .int m_isThere, .ref y_tape, .int m_taped, .int m_latest, .int m_length, .int m_cursor, .int m_token, .int m_start, .int m_till, .int m_fault, .int m_faultAt, .int m_seen, .int m_mirrors, .ref y_cost, .ref y_away, .ref y_fee, .ref y_goesTo, .ref y_priceWas, .ref y_isKept, .ref y_kept, .ref y_trace, .int m_traced])), (y_lane, .inl (cI, 8, .inl la_)), (y_many, .inl (cI, 8, .inl ma_)), (y_item, .inl (cI, 320, .inl it_))]) [3, 0, 1, 2] rfl
              have hD := hD.sub (ws' := [(y, .inr (9, [.int 0, .int 2, .ref y_lane, .ref y_many, .ref y_item, .ref y_city, .ref y_fresh, .int m_isThere, .ref y_tape, .int m_taped, .int m_latest, .int m_length, .int m_cursor, .int m_token, .int m_start, .int m_till, .int m_fault, .int m_faultAt, .int m_seen, .int m_mirrors, .ref y_cost, .ref y_away, .ref y_fee, .ref y_goesTo, .ref y_priceWas, .ref y_isKept, .ref y_kept, .ref y_trace, .int m_traced])), (y_lane, .inl (cI, 8, .inl la_)), (y_many, .inl (cI, 8, .inl ma_)), (y_item, .inl (cI, 320, .inl it_))]) [3, 0, 1, 2] (by decide) rfl
              have lq2 : Int32.toInt (2) = 2 := by decide
              exact b_iret S.1 S.2.1 X.2.1 X.2.2.1 hP hD hS (Or.inr (Or.inr (Or.inr (Or.inl ⟨(2), (by first | assumption | omega | decide | (rw [show Int32.toInt 0 = 0 from rfl]; omega)), rfl, rfl⟩)))) dX9_copy_126
            · rw [lt2 (a := i) (b := 0) (A := i.toInt) (B := 0) rfl rfl] at c_27
              refine lv_iload S.1 S.2.1 dX9_copy_76 (lv_at hl 4 rfl) ?_
              refine lv_if_lt (tgt := 121) S.1 S.2.1 dX9_copy_78 (by decide) (fun c_31 => ?_) (fun c_31 => ?_)
              · rw [lt2 (a := j) (b := 0) (A := j.toInt) (B := 0) rfl rfl] at c_31
                refine lv_aload_n S.1 S.2.1 dX9_copy_121 rfl (lv_at hl 0 rfl) ?_
                refine lv_iconst (v := (2)) S.1 S.2.1 dX9_copy_122 (by decide) ?_
                refine b_ai (wr := [(y_lane, .inl (cI, 8, .inl la_)), (y_many, .inl (cI, 8, .inl ma_)), (y_item, .inl (cI, 320, .inl it_))]) (b_runV (q0 := 0) (ci := 9) (As := [.int 2]) (s_X9_finding_2 l D cI cZ cC cS sq H.size y (0) (0) y_lane y_many y_item y_city y_fresh m_isThere y_tape m_taped m_latest m_length m_cursor m_token m_start m_till m_fault m_faultAt m_seen m_mirrors y_cost y_away y_fee y_goesTo y_priceWas y_isKept y_kept y_trace m_traced) S gX9_copy_X9_finding rfl hdV_X9_finding ⟨Nat.le_of_ble_eq_true rfl, Nat.le_of_ble_eq_true rfl⟩ ⟨Nat.le_of_ble_eq_true rfl, Nat.le_of_ble_eq_true rfl⟩ hK hT hS hA hP hD rfl rfl [0] rfl (by decide) rfl hl.1 rfl (Nat.le_of_ble_eq_true rfl) dX9_copy_123) hP hD hS hA [0] [1, 2, 3] rfl rfl (by decide) (by decide) (fun r_32 w_33 H locs hw_34 hP hD hS => ?_)
                obtain ⟨rfl, rfl⟩ := hw_34
                have hP : va_P D vwCl [(y_lane, .inl (cI, 8, .inl la_)), (y_many, .inl (cI, 8, .inl ma_)), (y_item, .inl (cI, 320, .inl it_)), (y, .inr (9, [.int 0, .int 2, .ref y_lane, .ref y_many, .ref y_item, .ref y_city, .ref y_fresh, .int m_isThere, .ref y_tape, .int m_taped, .int m_latest, .int m_length, .int m_cursor, .int m_token, .int m_start, .int m_till, .int m_fault, .int m_faultAt, .int m_seen, .int m_mirrors, .ref y_cost, .ref y_away, .ref y_fee, .ref y_goesTo, .ref y_priceWas, .ref y_isKept, .ref y_kept, .ref y_trace, .int m_traced]))] H := hP
                have hD : va_D A [(y_lane, .inl (cI, 8, .inl la_)), (y_many, .inl (cI, 8, .inl ma_)), (y_item, .inl (cI, 320, .inl it_)), (y, .inr (9, [.int 0, .int 2, .ref y_lane, .ref y_many, .ref y_item, .ref y_city, .ref y_fresh, .int m_isThere, .ref y_tape, .int m_taped, .int m_latest, .int m_length, .int m_cursor, .int m_token, .int m_start, .int m_till, .int m_fault, .int m_faultAt, .int m_seen, .int m_mirrors, .ref y_cost, .ref y_away, .ref y_fee, .ref y_goesTo, .ref y_priceWas, .ref y_isKept, .ref y_kept, .ref y_trace, .int m_traced]))] := hD
                have hP := hP.sub (ws' := [(y, .inr (9, [.int 0, .int 2, .ref y_lane, .ref y_many, .ref y_item, .ref y_city, .ref y_fresh, .int m_isThere, .ref y_tape, .int m_taped, .int m_latest, .int m_length, .int m_cursor, .int m_token, .int m_start, .int m_till, .int m_fault, .int m_faultAt, .int m_seen, .int m_mirrors, .ref y_cost, .ref y_away, .ref y_fee, .ref y_goesTo, .ref y_priceWas, .ref y_isKept, .ref y_kept, .ref y_trace, .int m_traced])), (y_lane, .inl (cI, 8, .inl la_)), (y_many, .inl (cI, 8, .inl ma_)), (y_item, .inl (cI, 320, .inl it_))]) [3, 0, 1, 2] rfl
                have hD := hD.sub (ws' := [(y, .inr (9, [.int 0, .int 2, .ref y_lane, .ref y_many, .ref y_item, .ref y_city, .ref y_fresh, .int m_isThere, .ref y_tape, .int m_taped, .int m_latest, .int m_length, .int m_cursor, .int m_token, .int m_start, .int m_till, .int m_fault, .int m_faultAt, .int m_seen, .int m_mirrors, .ref y_cost, .ref y_away, .ref y_fee, .ref y_goesTo, .ref y_priceWas, .ref y_isKept, .ref y_kept, .ref y_trace, .int m_traced])), (y_lane, .inl (cI, 8, .inl la_)), (y_many, .inl (cI, 8, .inl ma_)), (y_item, .inl (cI, 320, .inl it_))]) [3, 0, 1, 2] (by decide) rfl
                have lq2 : Int32.toInt (2) = 2 := by decide
                exact b_iret S.1 S.2.1 X.2.1 X.2.2.1 hP hD hS (Or.inr (Or.inr (Or.inr (Or.inl ⟨(2), (by first | assumption | omega | decide | (rw [show Int32.toInt 0 = 0 from rfl]; omega)), rfl, rfl⟩)))) dX9_copy_126
              · rw [lt2 (a := j) (b := 0) (A := j.toInt) (B := 0) rfl rfl] at c_31
                refine lv_iload S.1 S.2.1 dX9_copy_81 (lv_at hl 5 rfl) ?_
                refine lv_if_lt (tgt := 121) S.1 S.2.1 dX9_copy_83 (by decide) (fun c_35 => ?_) (fun c_35 => ?_)
                · rw [lt2 (a := nn) (b := 0) (A := nn.toInt) (B := 0) rfl rfl] at c_35
                  refine lv_aload_n S.1 S.2.1 dX9_copy_121 rfl (lv_at hl 0 rfl) ?_
                  refine lv_iconst (v := (2)) S.1 S.2.1 dX9_copy_122 (by decide) ?_
                  refine b_ai (wr := [(y_lane, .inl (cI, 8, .inl la_)), (y_many, .inl (cI, 8, .inl ma_)), (y_item, .inl (cI, 320, .inl it_))]) (b_runV (q0 := 0) (ci := 9) (As := [.int 2]) (s_X9_finding_2 l D cI cZ cC cS sq H.size y (0) (0) y_lane y_many y_item y_city y_fresh m_isThere y_tape m_taped m_latest m_length m_cursor m_token m_start m_till m_fault m_faultAt m_seen m_mirrors y_cost y_away y_fee y_goesTo y_priceWas y_isKept y_kept y_trace m_traced) S gX9_copy_X9_finding rfl hdV_X9_finding ⟨Nat.le_of_ble_eq_true rfl, Nat.le_of_ble_eq_true rfl⟩ ⟨Nat.le_of_ble_eq_true rfl, Nat.le_of_ble_eq_true rfl⟩ hK hT hS hA hP hD rfl rfl [0] rfl (by decide) rfl hl.1 rfl (Nat.le_of_ble_eq_true rfl) dX9_copy_123) hP hD hS hA [0] [1, 2, 3] rfl rfl (by decide) (by decide) (fun r_36 w_37 H locs hw_38 hP hD hS => ?_)
                  obtain ⟨rfl, rfl⟩ := hw_38
                  have hP : va_P D vwCl [(y_lane, .inl (cI, 8, .inl la_)), (y_many, .inl (cI, 8, .inl ma_)), (y_item, .inl (cI, 320, .inl it_)), (y, .inr (9, [.int 0, .int 2, .ref y_lane, .ref y_many, .ref y_item, .ref y_city, .ref y_fresh, .int m_isThere, .ref y_tape, .int m_taped, .int m_latest, .int m_length, .int m_cursor, .int m_token, .int m_start, .int m_till, .int m_fault, .int m_faultAt, .int m_seen, .int m_mirrors, .ref y_cost, .ref y_away, .ref y_fee, .ref y_goesTo, .ref y_priceWas, .ref y_isKept, .ref y_kept, .ref y_trace, .int m_traced]))] H := hP
                  have hD : va_D A [(y_lane, .inl (cI, 8, .inl la_)), (y_many, .inl (cI, 8, .inl ma_)), (y_item, .inl (cI, 320, .inl it_)), (y, .inr (9, [.int 0, .int 2, .ref y_lane, .ref y_many, .ref y_item, .ref y_city, .ref y_fresh, .int m_isThere, .ref y_tape, .int m_taped, .int m_latest, .int m_length, .int m_cursor, .int m_token, .int m_start, .int m_till, .int m_fault, .int m_faultAt, .int m_seen, .int m_mirrors, .ref y_cost, .ref y_away, .ref y_fee, .ref y_goesTo, .ref y_priceWas, .ref y_isKept, .ref y_kept, .ref y_trace, .int m_traced]))] := hD
                  have hP := hP.sub (ws' := [(y, .inr (9, [.int 0, .int 2, .ref y_lane, .ref y_many, .ref y_item, .ref y_city, .ref y_fresh, .int m_isThere, .ref y_tape, .int m_taped, .int m_latest, .int m_length, .int m_cursor, .int m_token, .int m_start, .int m_till, .int m_fault, .int m_faultAt, .int m_seen, .int m_mirrors, .ref y_cost, .ref y_away, .ref y_fee, .ref y_goesTo, .ref y_priceWas, .ref y_isKept, .ref y_kept, .ref y_trace, .int m_traced])), (y_lane, .inl (cI, 8, .inl la_)), (y_many, .inl (cI, 8, .inl ma_)), (y_item, .inl (cI, 320, .inl it_))]) [3, 0, 1, 2] rfl
                  have hD := hD.sub (ws' := [(y, .inr (9, [.int 0, .int 2, .ref y_lane, .ref y_many, .ref y_item, .ref y_city, .ref y_fresh, .int m_isThere, .ref y_tape, .int m_taped, .int m_latest, .int m_length, .int m_cursor, .int m_token, .int m_start, .int m_till, .int m_fault, .int m_faultAt, .int m_seen, .int m_mirrors, .ref y_cost, .ref y_away, .ref y_fee, .ref y_goesTo, .ref y_priceWas, .ref y_isKept, .ref y_kept, .ref y_trace, .int m_traced])), (y_lane, .inl (cI, 8, .inl la_)), (y_many, .inl (cI, 8, .inl ma_)), (y_item, .inl (cI, 320, .inl it_))]) [3, 0, 1, 2] (by decide) rfl
                  have lq2 : Int32.toInt (2) = 2 := by decide
                  exact b_iret S.1 S.2.1 X.2.1 X.2.2.1 hP hD hS (Or.inr (Or.inr (Or.inr (Or.inl ⟨(2), (by first | assumption | omega | decide | (rw [show Int32.toInt 0 = 0 from rfl]; omega)), rfl, rfl⟩)))) dX9_copy_126
                · rw [lt2 (a := nn) (b := 0) (A := nn.toInt) (B := 0) rfl rfl] at c_35
                  refine lv_iload_n S.1 S.2.1 dX9_copy_86 rfl (lv_at hl 2 rfl) ?_
                  refine lv_i2l (v := i.toInt64) S.1 S.2.1 dX9_copy_87 rfl ?_
                  refine lv_iload S.1 S.2.1 dX9_copy_88 (lv_at hl 5 rfl) ?_
                  refine lv_i2l (v := nn.toInt64) S.1 S.2.1 dX9_copy_90 rfl ?_
                  refine lv_ladd S.1 S.2.1 dX9_copy_91 ?_
                  refine lv_aload_n S.1 S.2.1 dX9_copy_92 rfl (lv_at hl 0 rfl) ?_
                  refine b_get (v := .ref y_many) S iX9 hK hP 0 rfl rfl 3 (by decide) (by decide +kernel) rfl dX9_copy_93 ?_
                  refine lv_iload_n S.1 S.2.1 dX9_copy_96 rfl (lv_at hl 1 rfl) ?_
                  have hin_39 : vp_in a 8 := (in_of (n := 8) (by omega) (by omega))
                  refine va_iald S.1 S.2.1 hK.1 hP 2 0 rfl rfl hin_39 dX9_copy_97 ?_
                  refine lv_topi (fun x_40 ex_40 => ?_)
                  have tx_40 := rng_get (x := x_40) (show rng ma_ 8 (0) (40) by assumption) hin_39 ex_40
                  have bx_40 : x_40.toInt = (ma_ a.toNatClampNeg).toInt := by rw [ex_40]
                  refine lv_i2l (v := x_40.toInt64) S.1 S.2.1 dX9_copy_98 rfl ?_
                  refine W.lcmp S.1 S.2.1 dX9_copy_99 ?_
                  refine lv_if_gt (tgt := 121) S.1 S.2.1 dX9_copy_100 (by decide) (fun c_41 => ?_) (fun c_41 => ?_)
                  · rw [lg_cmp_gt] at c_41; simp only [Int64.lt_iff_toInt_lt, Int64.le_iff_toInt_le, l_add2, Int32.toInt_toInt64] at c_41
                    refine lv_aload_n S.1 S.2.1 dX9_copy_121 rfl (lv_at hl 0 rfl) ?_
                    refine lv_iconst (v := (2)) S.1 S.2.1 dX9_copy_122 (by decide) ?_
                    refine b_ai (wr := [(y_lane, .inl (cI, 8, .inl la_)), (y_many, .inl (cI, 8, .inl ma_)), (y_item, .inl (cI, 320, .inl it_))]) (b_runV (q0 := 0) (ci := 9) (As := [.int 2]) (s_X9_finding_2 l D cI cZ cC cS sq H.size y (0) (0) y_lane y_many y_item y_city y_fresh m_isThere y_tape m_taped m_latest m_length m_cursor m_token m_start m_till m_fault m_faultAt m_seen m_mirrors y_cost y_away y_fee y_goesTo y_priceWas y_isKept y_kept y_trace m_traced) S gX9_copy_X9_finding rfl hdV_X9_finding ⟨Nat.le_of_ble_eq_true rfl, Nat.le_of_ble_eq_true rfl⟩ ⟨Nat.le_of_ble_eq_true rfl, Nat.le_of_ble_eq_true rfl⟩ hK hT hS hA hP hD rfl rfl [0] rfl (by decide) rfl hl.1 rfl (Nat.le_of_ble_eq_true rfl) dX9_copy_123) hP hD hS hA [0] [1, 2, 3] rfl rfl (by decide) (by decide) (fun r_42 w_43 H locs hw_44 hP hD hS => ?_)
                    obtain ⟨rfl, rfl⟩ := hw_44
                    have hP : va_P D vwCl [(y_lane, .inl (cI, 8, .inl la_)), (y_many, .inl (cI, 8, .inl ma_)), (y_item, .inl (cI, 320, .inl it_)), (y, .inr (9, [.int 0, .int 2, .ref y_lane, .ref y_many, .ref y_item, .ref y_city, .ref y_fresh, .int m_isThere, .ref y_tape, .int m_taped, .int m_latest, .int m_length, .int m_cursor, .int m_token, .int m_start, .int m_till, .int m_fault, .int m_faultAt, .int m_seen, .int m_mirrors, .ref y_cost, .ref y_away, .ref y_fee, .ref y_goesTo, .ref y_priceWas, .ref y_isKept, .ref y_kept, .ref y_trace, .int m_traced]))] H := hP
                    have hD : va_D A [(y_lane, .inl (cI, 8, .inl la_)), (y_many, .inl (cI, 8, .inl ma_)), (y_item, .inl (cI, 320, .inl it_)), (y, .inr (9, [.int 0, .int 2, .ref y_lane, .ref y_many, .ref y_item, .ref y_city, .ref y_fresh, .int m_isThere, .ref y_tape, .int m_taped, .int m_latest, .int m_length, .int m_cursor, .int m_token, .int m_start, .int m_till, .int m_fault, .int m_faultAt, .int m_seen, .int m_mirrors, .ref y_cost, .ref y_away, .ref y_fee, .ref y_goesTo, .ref y_priceWas, .ref y_isKept, .ref y_kept, .ref y_trace, .int m_traced]))] := hD
                    have hP := hP.sub (ws' := [(y, .inr (9, [.int 0, .int 2, .ref y_lane, .ref y_many, .ref y_item, .ref y_city, .ref y_fresh, .int m_isThere, .ref y_tape, .int m_taped, .int m_latest, .int m_length, .int m_cursor, .int m_token, .int m_start, .int m_till, .int m_fault, .int m_faultAt, .int m_seen, .int m_mirrors, .ref y_cost, .ref y_away, .ref y_fee, .ref y_goesTo, .ref y_priceWas, .ref y_isKept, .ref y_kept, .ref y_trace, .int m_traced])), (y_lane, .inl (cI, 8, .inl la_)), (y_many, .inl (cI, 8, .inl ma_)), (y_item, .inl (cI, 320, .inl it_))]) [3, 0, 1, 2] rfl
                    have hD := hD.sub (ws' := [(y, .inr (9, [.int 0, .int 2, .ref y_lane, .ref y_many, .ref y_item, .ref y_city, .ref y_fresh, .int m_isThere, .ref y_tape, .int m_taped, .int m_latest, .int m_length, .int m_cursor, .int m_token, .int m_start, .int m_till, .int m_fault, .int m_faultAt, .int m_seen, .int m_mirrors, .ref y_cost, .ref y_away, .ref y_fee, .ref y_goesTo, .ref y_priceWas, .ref y_isKept, .ref y_kept, .ref y_trace, .int m_traced])), (y_lane, .inl (cI, 8, .inl la_)), (y_many, .inl (cI, 8, .inl ma_)), (y_item, .inl (cI, 320, .inl it_))]) [3, 0, 1, 2] (by decide) rfl
                    have lq2 : Int32.toInt (2) = 2 := by decide
                    exact b_iret S.1 S.2.1 X.2.1 X.2.2.1 hP hD hS (Or.inr (Or.inr (Or.inr (Or.inl ⟨(2), (by first | assumption | omega | decide | (rw [show Int32.toInt 0 = 0 from rfl]; omega)), rfl, rfl⟩)))) dX9_copy_126
                  · rw [lg_cmp_gt] at c_41; simp only [Int64.lt_iff_toInt_lt, Int64.le_iff_toInt_le, l_add2, Int32.toInt_toInt64] at c_41
                    refine lv_iload S.1 S.2.1 dX9_copy_103 (lv_at hl 4 rfl) ?_
                    refine lv_i2l (v := j.toInt64) S.1 S.2.1 dX9_copy_105 rfl ?_
                    refine lv_iload S.1 S.2.1 dX9_copy_106 (lv_at hl 5 rfl) ?_
                    refine lv_i2l (v := nn.toInt64) S.1 S.2.1 dX9_copy_108 rfl ?_
                    refine lv_ladd S.1 S.2.1 dX9_copy_109 ?_
                    refine lv_aload_n S.1 S.2.1 dX9_copy_110 rfl (lv_at hl 0 rfl) ?_
                    refine b_get (v := .ref y_many) S iX9 hK hP 0 rfl rfl 3 (by decide) (by decide +kernel) rfl dX9_copy_111 ?_
                    refine lv_iload_n S.1 S.2.1 dX9_copy_114 rfl (lv_at hl 3 rfl) ?_
                    have hin_45 : vp_in b 8 := (in_of (n := 8) (by omega) (by omega))
                    refine va_iald S.1 S.2.1 hK.1 hP 2 0 rfl rfl hin_45 dX9_copy_115 ?_
                    refine lv_topi (fun x_46 ex_46 => ?_)
                    have tx_46 := rng_get (x := x_46) (show rng ma_ 8 (0) (40) by assumption) hin_45 ex_46
                    have bx_46 : x_46.toInt = (ma_ b.toNatClampNeg).toInt := by rw [ex_46]
                    refine lv_i2l (v := x_46.toInt64) S.1 S.2.1 dX9_copy_116 rfl ?_
                    refine W.lcmp S.1 S.2.1 dX9_copy_117 ?_
                    refine lv_if_le (tgt := 127) S.1 S.2.1 dX9_copy_118 (by decide) (fun c_47 => ?_) (fun c_47 => ?_)
                    · rw [lg_cmp_le] at c_47; simp only [Int64.lt_iff_toInt_lt, Int64.le_iff_toInt_le, l_add2, Int32.toInt_toInt64] at c_47
                      refine lv_iload_n S.1 S.2.1 dX9_copy_127 rfl (lv_at hl 2 rfl) ?_
                      refine lv_iload S.1 S.2.1 dX9_copy_128 (lv_at hl 4 rfl) ?_
                      refine lv_icmp_lt (tgt := 137) S.1 S.2.1 dX9_copy_130 (by decide) (fun c_48 => ?_) (fun c_48 => ?_)
                      · rw [lt2 (a := i) (b := j) (A := i.toInt) (B := j.toInt) rfl rfl] at c_48
                        refine lv_iconst (v := (0)) S.1 S.2.1 dX9_copy_137 (by decide) ?_
                        refine lv_istore (lv' := [(6, .int 0), (0, .ref y), (1, .int a), (2, .int i), (3, .int b), (4, .int j), (5, .int nn)]) S.1 S.2.1 dX9_copy_138 hl (by decide) rfl (fun ls hl => ?_)
                        refine lv_iconst (v := (0)) S.1 S.2.1 dX9_copy_140 (by decide) ?_
                        refine lv_istore (lv' := [(7, .int 0), (6, .int 0), (0, .ref y), (1, .int a), (2, .int i), (3, .int b), (4, .int j), (5, .int nn)]) S.1 S.2.1 dX9_copy_141 hl (by decide) rfl (fun ls hl => ?_)
                        refine lp_mcopy l D cI cZ cC cS sq y y_lane y_many y_item a i b j nn m_thrown m_status y_city y_fresh m_isThere y_tape m_taped m_latest m_length m_cursor m_token m_start m_till m_fault m_faultAt m_seen m_mirrors y_cost y_away y_fee y_goesTo y_priceWas y_isKept y_kept y_trace m_traced la_ ma_ it_ hrg_ma_ ((0)) (by first | assumption | omega | decide | (rw [show Int32.toInt 0 = 0 from rfl]; omega)) X hK hT hA (fun k_49 it_1_50 hi_51 hi_52 H locs ls hP hD hS hl => ?_) _ (0) it_ (by first | assumption | omega | decide | (rw [show Int32.toInt 0 = 0 from rfl]; omega)) (by first | assumption | omega | decide | (rw [show Int32.toInt 0 = 0 from rfl]; omega)) (Nat.lt_succ_self _) H _ ls hP hD hS (lv_sub hl [0, 1, 2, 3, 4, 5, 6, 7] rfl)
                        refine lv_iload S.1 S.2.1 dX9_copy_204 (lv_at hl 7 rfl) ?_
                        have lq0 : Int32.toInt (0) = 0 := by decide
                        exact b_iret S.1 S.2.1 X.2.1 X.2.2.1 hP hD hS (Or.inr (Or.inr (Or.inr (Or.inr (⟨(0), it_1_50, (by first | assumption | omega | decide | (rw [show Int32.toInt 0 = 0 from rfl]; omega)), rfl, rfl⟩))))) dX9_copy_206
                      · rw [lt2 (a := i) (b := j) (A := i.toInt) (B := j.toInt) rfl rfl] at c_48
                        refine lv_iconst (v := (1)) S.1 S.2.1 dX9_copy_133 (by decide) ?_
                        refine lv_goto (tgt := 138) S.1 S.2.1 dX9_copy_134 (by decide) ?_
                        refine lv_istore (lv' := [(6, .int 1), (0, .ref y), (1, .int a), (2, .int i), (3, .int b), (4, .int j), (5, .int nn)]) S.1 S.2.1 dX9_copy_138 hl (by decide) rfl (fun ls hl => ?_)
                        refine lv_iconst (v := (0)) S.1 S.2.1 dX9_copy_140 (by decide) ?_
                        refine lv_istore (lv' := [(7, .int 0), (6, .int 1), (0, .ref y), (1, .int a), (2, .int i), (3, .int b), (4, .int j), (5, .int nn)]) S.1 S.2.1 dX9_copy_141 hl (by decide) rfl (fun ls hl => ?_)
                        refine lp_mcopy l D cI cZ cC cS sq y y_lane y_many y_item a i b j nn m_thrown m_status y_city y_fresh m_isThere y_tape m_taped m_latest m_length m_cursor m_token m_start m_till m_fault m_faultAt m_seen m_mirrors y_cost y_away y_fee y_goesTo y_priceWas y_isKept y_kept y_trace m_traced la_ ma_ it_ hrg_ma_ ((1)) (by first | assumption | omega | decide | (rw [show Int32.toInt 0 = 0 from rfl]; omega)) X hK hT hA (fun k_53 it_1_54 hi_55 hi_56 H locs ls hP hD hS hl => ?_) _ (0) it_ (by first | assumption | omega | decide | (rw [show Int32.toInt 0 = 0 from rfl]; omega)) (by first | assumption | omega | decide | (rw [show Int32.toInt 0 = 0 from rfl]; omega)) (Nat.lt_succ_self _) H _ ls hP hD hS (lv_sub hl [0, 1, 2, 3, 4, 5, 6, 7] rfl)
                        refine lv_iload S.1 S.2.1 dX9_copy_204 (lv_at hl 7 rfl) ?_
                        have lq0 : Int32.toInt (0) = 0 := by decide
                        exact b_iret S.1 S.2.1 X.2.1 X.2.2.1 hP hD hS (Or.inr (Or.inr (Or.inr (Or.inr (⟨(0), it_1_54, (by first | assumption | omega | decide | (rw [show Int32.toInt 0 = 0 from rfl]; omega)), rfl, rfl⟩))))) dX9_copy_206
                    · rw [lg_cmp_le] at c_47; simp only [Int64.lt_iff_toInt_lt, Int64.le_iff_toInt_le, l_add2, Int32.toInt_toInt64] at c_47
                      refine lv_aload_n S.1 S.2.1 dX9_copy_121 rfl (lv_at hl 0 rfl) ?_
                      refine lv_iconst (v := (2)) S.1 S.2.1 dX9_copy_122 (by decide) ?_
                      refine b_ai (wr := [(y_lane, .inl (cI, 8, .inl la_)), (y_many, .inl (cI, 8, .inl ma_)), (y_item, .inl (cI, 320, .inl it_))]) (b_runV (q0 := 0) (ci := 9) (As := [.int 2]) (s_X9_finding_2 l D cI cZ cC cS sq H.size y (0) (0) y_lane y_many y_item y_city y_fresh m_isThere y_tape m_taped m_latest m_length m_cursor m_token m_start m_till m_fault m_faultAt m_seen m_mirrors y_cost y_away y_fee y_goesTo y_priceWas y_isKept y_kept y_trace m_traced) S gX9_copy_X9_finding rfl hdV_X9_finding ⟨Nat.le_of_ble_eq_true rfl, Nat.le_of_ble_eq_true rfl⟩ ⟨Nat.le_of_ble_eq_true rfl, Nat.le_of_ble_eq_true rfl⟩ hK hT hS hA hP hD rfl rfl [0] rfl (by decide) rfl hl.1 rfl (Nat.le_of_ble_eq_true rfl) dX9_copy_123) hP hD hS hA [0] [1, 2, 3] rfl rfl (by decide) (by decide) (fun r_57 w_58 H locs hw_59 hP hD hS => ?_)
                      obtain ⟨rfl, rfl⟩ := hw_59
                      have hP : va_P D vwCl [(y_lane, .inl (cI, 8, .inl la_)), (y_many, .inl (cI, 8, .inl ma_)), (y_item, .inl (cI, 320, .inl it_)), (y, .inr (9, [.int 0, .int 2, .ref y_lane, .ref y_many, .ref y_item, .ref y_city, .ref y_fresh, .int m_isThere, .ref y_tape, .int m_taped, .int m_latest, .int m_length, .int m_cursor, .int m_token, .int m_start, .int m_till, .int m_fault, .int m_faultAt, .int m_seen, .int m_mirrors, .ref y_cost, .ref y_away, .ref y_fee, .ref y_goesTo, .ref y_priceWas, .ref y_isKept, .ref y_kept, .ref y_trace, .int m_traced]))] H := hP
                      have hD : va_D A [(y_lane, .inl (cI, 8, .inl la_)), (y_many, .inl (cI, 8, .inl ma_)), (y_item, .inl (cI, 320, .inl it_)), (y, .inr (9, [.int 0, .int 2, .ref y_lane, .ref y_many, .ref y_item, .ref y_city, .ref y_fresh, .int m_isThere, .ref y_tape, .int m_taped, .int m_latest, .int m_length, .int m_cursor, .int m_token, .int m_start, .int m_till, .int m_fault, .int m_faultAt, .int m_seen, .int m_mirrors, .ref y_cost, .ref y_away, .ref y_fee, .ref y_goesTo, .ref y_priceWas, .ref y_isKept, .ref y_kept, .ref y_trace, .int m_traced]))] := hD
                      have hP := hP.sub (ws' := [(y, .inr (9, [.int 0, .int 2, .ref y_lane, .ref y_many, .ref y_item, .ref y_city, .ref y_fresh, .int m_isThere, .ref y_tape, .int m_taped, .int m_latest, .int m_length, .int m_cursor, .int m_token, .int m_start, .int m_till, .int m_fault, .int m_faultAt, .int m_seen, .int m_mirrors, .ref y_cost, .ref y_away, .ref y_fee, .ref y_goesTo, .ref y_priceWas, .ref y_isKept, .ref y_kept, .ref y_trace, .int m_traced])), (y_lane, .inl (cI, 8, .inl la_)), (y_many, .inl (cI, 8, .inl ma_)), (y_item, .inl (cI, 320, .inl it_))]) [3, 0, 1, 2] rfl
                      have hD := hD.sub (ws' := [(y, .inr (9, [.int 0, .int 2, .ref y_lane, .ref y_many, .ref y_item, .ref y_city, .ref y_fresh, .int m_isThere, .ref y_tape, .int m_taped, .int m_latest, .int m_length, .int m_cursor, .int m_token, .int m_start, .int m_till, .int m_fault, .int m_faultAt, .int m_seen, .int m_mirrors, .ref y_cost, .ref y_away, .ref y_fee, .ref y_goesTo, .ref y_priceWas, .ref y_isKept, .ref y_kept, .ref y_trace, .int m_traced])), (y_lane, .inl (cI, 8, .inl la_)), (y_many, .inl (cI, 8, .inl ma_)), (y_item, .inl (cI, 320, .inl it_))]) [3, 0, 1, 2] (by decide) rfl
                      have lq2 : Int32.toInt (2) = 2 := by decide
                      exact b_iret S.1 S.2.1 X.2.1 X.2.2.1 hP hD hS (Or.inr (Or.inr (Or.inr (Or.inl ⟨(2), (by first | assumption | omega | decide | (rw [show Int32.toInt 0 = 0 from rfl]; omega)), rfl, rfl⟩)))) dX9_copy_126
          · rw [eq2 (a := x_23) (b := x_25) (A := x_23.toInt) (B := x_25.toInt) rfl rfl] at c_26
            refine lv_aload_n S.1 S.2.1 dX9_copy_66 rfl (lv_at hl 0 rfl) ?_
            refine lv_iconst (v := (5)) S.1 S.2.1 dX9_copy_67 (by decide) ?_
            refine b_ai (wr := [(y_lane, .inl (cI, 8, .inl la_)), (y_many, .inl (cI, 8, .inl ma_)), (y_item, .inl (cI, 320, .inl it_))]) (b_runV (q0 := 0) (ci := 9) (As := [.int 5]) (s_X9_finding_5 l D cI cZ cC cS sq H.size y (0) (0) y_lane y_many y_item y_city y_fresh m_isThere y_tape m_taped m_latest m_length m_cursor m_token m_start m_till m_fault m_faultAt m_seen m_mirrors y_cost y_away y_fee y_goesTo y_priceWas y_isKept y_kept y_trace m_traced) S gX9_copy_X9_finding rfl hdV_X9_finding ⟨Nat.le_of_ble_eq_true rfl, Nat.le_of_ble_eq_true rfl⟩ ⟨Nat.le_of_ble_eq_true rfl, Nat.le_of_ble_eq_true rfl⟩ hK hT hS hA hP hD rfl rfl [0] rfl (by decide) rfl hl.1 rfl (Nat.le_of_ble_eq_true rfl) dX9_copy_68) hP hD hS hA [0] [1, 2, 3] rfl rfl (by decide) (by decide) (fun r_60 w_61 H locs hw_62 hP hD hS => ?_)
            obtain ⟨rfl, rfl⟩ := hw_62
            have hP : va_P D vwCl [(y_lane, .inl (cI, 8, .inl la_)), (y_many, .inl (cI, 8, .inl ma_)), (y_item, .inl (cI, 320, .inl it_)), (y, .inr (9, [.int 0, .int 5, .ref y_lane, .ref y_many, .ref y_item, .ref y_city, .ref y_fresh, .int m_isThere, .ref y_tape, .int m_taped, .int m_latest, .int m_length, .int m_cursor, .int m_token, .int m_start, .int m_till, .int m_fault, .int m_faultAt, .int m_seen, .int m_mirrors, .ref y_cost, .ref y_away, .ref y_fee, .ref y_goesTo, .ref y_priceWas, .ref y_isKept, .ref y_kept, .ref y_trace, .int m_traced]))] H := hP
            have hD : va_D A [(y_lane, .inl (cI, 8, .inl la_)), (y_many, .inl (cI, 8, .inl ma_)), (y_item, .inl (cI, 320, .inl it_)), (y, .inr (9, [.int 0, .int 5, .ref y_lane, .ref y_many, .ref y_item, .ref y_city, .ref y_fresh, .int m_isThere, .ref y_tape, .int m_taped, .int m_latest, .int m_length, .int m_cursor, .int m_token, .int m_start, .int m_till, .int m_fault, .int m_faultAt, .int m_seen, .int m_mirrors, .ref y_cost, .ref y_away, .ref y_fee, .ref y_goesTo, .ref y_priceWas, .ref y_isKept, .ref y_kept, .ref y_trace, .int m_traced]))] := hD
            have hP := hP.sub (ws' := [(y, .inr (9, [.int 0, .int 5, .ref y_lane, .ref y_many, .ref y_item, .ref y_city, .ref y_fresh, .int m_isThere, .ref y_tape, .int m_taped, .int m_latest, .int m_length, .int m_cursor, .int m_token, .int m_start, .int m_till, .int m_fault, .int m_faultAt, .int m_seen, .int m_mirrors, .ref y_cost, .ref y_away, .ref y_fee, .ref y_goesTo, .ref y_priceWas, .ref y_isKept, .ref y_kept, .ref y_trace, .int m_traced])), (y_lane, .inl (cI, 8, .inl la_)), (y_many, .inl (cI, 8, .inl ma_)), (y_item, .inl (cI, 320, .inl it_))]) [3, 0, 1, 2] rfl
            have hD := hD.sub (ws' := [(y, .inr (9, [.int 0, .int 5, .ref y_lane, .ref y_many, .ref y_item, .ref y_city, .ref y_fresh, .int m_isThere, .ref y_tape, .int m_taped, .int m_latest, .int m_length, .int m_cursor, .int m_token, .int m_start, .int m_till, .int m_fault, .int m_faultAt, .int m_seen, .int m_mirrors, .ref y_cost, .ref y_away, .ref y_fee, .ref y_goesTo, .ref y_priceWas, .ref y_isKept, .ref y_kept, .ref y_trace, .int m_traced])), (y_lane, .inl (cI, 8, .inl la_)), (y_many, .inl (cI, 8, .inl ma_)), (y_item, .inl (cI, 320, .inl it_))]) [3, 0, 1, 2] (by decide) rfl
            have lq5 : Int32.toInt (5) = 5 := by decide
            exact b_iret S.1 S.2.1 X.2.1 X.2.2.1 hP hD hS (Or.inr (Or.inr (Or.inl ⟨(5), (by first | assumption | omega | decide | (rw [show Int32.toInt 0 = 0 from rfl]; omega)), rfl, rfl⟩))) dX9_copy_71
        · rw [le2 (a := 0) (b := x_20) (A := 0) (B := x_20.toInt) rfl rfl] at c_21
          refine lv_aload_n S.1 S.2.1 dX9_copy_45 rfl (lv_at hl 0 rfl) ?_
          refine lv_iconst (v := (1)) S.1 S.2.1 dX9_copy_46 (by decide) ?_
          refine b_ai (wr := [(y_lane, .inl (cI, 8, .inl la_)), (y_many, .inl (cI, 8, .inl ma_)), (y_item, .inl (cI, 320, .inl it_))]) (b_runV (q0 := 0) (ci := 9) (As := [.int 1]) (s_X9_finding_1 l D cI cZ cC cS sq H.size y (0) (0) y_lane y_many y_item y_city y_fresh m_isThere y_tape m_taped m_latest m_length m_cursor m_token m_start m_till m_fault m_faultAt m_seen m_mirrors y_cost y_away y_fee y_goesTo y_priceWas y_isKept y_kept y_trace m_traced) S gX9_copy_X9_finding rfl hdV_X9_finding ⟨Nat.le_of_ble_eq_true rfl, Nat.le_of_ble_eq_true rfl⟩ ⟨Nat.le_of_ble_eq_true rfl, Nat.le_of_ble_eq_true rfl⟩ hK hT hS hA hP hD rfl rfl [0] rfl (by decide) rfl hl.1 rfl (Nat.le_of_ble_eq_true rfl) dX9_copy_47) hP hD hS hA [0] [1, 2, 3] rfl rfl (by decide) (by decide) (fun r_63 w_64 H locs hw_65 hP hD hS => ?_)
          obtain ⟨rfl, rfl⟩ := hw_65
          have hP : va_P D vwCl [(y_lane, .inl (cI, 8, .inl la_)), (y_many, .inl (cI, 8, .inl ma_)), (y_item, .inl (cI, 320, .inl it_)), (y, .inr (9, [.int 0, .int 1, .ref y_lane, .ref y_many, .ref y_item, .ref y_city, .ref y_fresh, .int m_isThere, .ref y_tape, .int m_taped, .int m_latest, .int m_length, .int m_cursor, .int m_token, .int m_start, .int m_till, .int m_fault, .int m_faultAt, .int m_seen, .int m_mirrors, .ref y_cost, .ref y_away, .ref y_fee, .ref y_goesTo, .ref y_priceWas, .ref y_isKept, .ref y_kept, .ref y_trace, .int m_traced]))] H := hP
          have hD : va_D A [(y_lane, .inl (cI, 8, .inl la_)), (y_many, .inl (cI, 8, .inl ma_)), (y_item, .inl (cI, 320, .inl it_)), (y, .inr (9, [.int 0, .int 1, .ref y_lane, .ref y_many, .ref y_item, .ref y_city, .ref y_fresh, .int m_isThere, .ref y_tape, .int m_taped, .int m_latest, .int m_length, .int m_cursor, .int m_token, .int m_start, .int m_till, .int m_fault, .int m_faultAt, .int m_seen, .int m_mirrors, .ref y_cost, .ref y_away, .ref y_fee, .ref y_goesTo, .ref y_priceWas, .ref y_isKept, .ref y_kept, .ref y_trace, .int m_traced]))] := hD
          have hP := hP.sub (ws' := [(y, .inr (9, [.int 0, .int 1, .ref y_lane, .ref y_many, .ref y_item, .ref y_city, .ref y_fresh, .int m_isThere, .ref y_tape, .int m_taped, .int m_latest, .int m_length, .int m_cursor, .int m_token, .int m_start, .int m_till, .int m_fault, .int m_faultAt, .int m_seen, .int m_mirrors, .ref y_cost, .ref y_away, .ref y_fee, .ref y_goesTo, .ref y_priceWas, .ref y_isKept, .ref y_kept, .ref y_trace, .int m_traced])), (y_lane, .inl (cI, 8, .inl la_)), (y_many, .inl (cI, 8, .inl ma_)), (y_item, .inl (cI, 320, .inl it_))]) [3, 0, 1, 2] rfl
          have hD := hD.sub (ws' := [(y, .inr (9, [.int 0, .int 1, .ref y_lane, .ref y_many, .ref y_item, .ref y_city, .ref y_fresh, .int m_isThere, .ref y_tape, .int m_taped, .int m_latest, .int m_length, .int m_cursor, .int m_token, .int m_start, .int m_till, .int m_fault, .int m_faultAt, .int m_seen, .int m_mirrors, .ref y_cost, .ref y_away, .ref y_fee, .ref y_goesTo, .ref y_priceWas, .ref y_isKept, .ref y_kept, .ref y_trace, .int m_traced])), (y_lane, .inl (cI, 8, .inl la_)), (y_many, .inl (cI, 8, .inl ma_)), (y_item, .inl (cI, 320, .inl it_))]) [3, 0, 1, 2] (by decide) rfl
          have lq1 : Int32.toInt (1) = 1 := by decide
          exact b_iret S.1 S.2.1 X.2.1 X.2.2.1 hP hD hS (Or.inr (Or.inl ⟨(1), (by first | assumption | omega | decide | (rw [show Int32.toInt 0 = 0 from rfl]; omega)), rfl, rfl⟩)) dX9_copy_50
    · have hP : va_P D vwCl [(y, .inr (9, [.int 0, .int m_status, .ref y_lane, .ref y_many, .ref y_item, .ref y_city, .ref y_fresh, .int m_isThere, .ref y_tape, .int m_taped, .int m_latest, .int m_length, .int m_cursor, .int m_token, .int m_start, .int m_till, .int m_fault, .int m_faultAt, .int m_seen, .int m_mirrors, .ref y_cost, .ref y_away, .ref y_fee, .ref y_goesTo, .ref y_priceWas, .ref y_isKept, .ref y_kept, .ref y_trace, .int m_traced])), (y_lane, .inl (cI, 8, .inl la_)), (y_many, .inl (cI, 8, .inl ma_)), (y_item, .inl (cI, 320, .inl it_))] H := hP
      have hD : va_D A [(y, .inr (9, [.int 0, .int m_status, .ref y_lane, .ref y_many, .ref y_item, .ref y_city, .ref y_fresh, .int m_isThere, .ref y_tape, .int m_taped, .int m_latest, .int m_length, .int m_cursor, .int m_token, .int m_start, .int m_till, .int m_fault, .int m_faultAt, .int m_seen, .int m_mirrors, .ref y_cost, .ref y_away, .ref y_fee, .ref y_goesTo, .ref y_priceWas, .ref y_isKept, .ref y_kept, .ref y_trace, .int m_traced])), (y_lane, .inl (cI, 8, .inl la_)), (y_many, .inl (cI, 8, .inl ma_)), (y_item, .inl (cI, 320, .inl it_))] := hD
      refine lv_if_ne (tgt := 22) S.1 S.2.1 dX9_copy_16 (by decide) (fun c_66 => absurd c_66 (by decide)) (fun c_66 => ?_)
      refine lv_ldc (v := (-1000001)) S.1 S.2.1 S.2.2.2.1 (S.2.2.2.2 (.constant RX9 73 (-1000001)) (by decide +kernel)) dX9_copy_19 ?_
      exact b_iret S.1 S.2.1 X.2.1 X.2.2.1 hP hD hS (Or.inl ⟨m_status, (by first | assumption | omega | decide | (rw [show Int32.toInt 0 = 0 from rfl]; omega)), rfl, rfl⟩) dX9_copy_21
  · have hP : va_P D vwCl [(y, .inr (9, [.int 0, .int m_status, .ref y_lane, .ref y_many, .ref y_item, .ref y_city, .ref y_fresh, .int m_isThere, .ref y_tape, .int m_taped, .int m_latest, .int m_length, .int m_cursor, .int m_token, .int m_start, .int m_till, .int m_fault, .int m_faultAt, .int m_seen, .int m_mirrors, .ref y_cost, .ref y_away, .ref y_fee, .ref y_goesTo, .ref y_priceWas, .ref y_isKept, .ref y_kept, .ref y_trace, .int m_traced])), (y_lane, .inl (cI, 8, .inl la_)), (y_many, .inl (cI, 8, .inl ma_)), (y_item, .inl (cI, 320, .inl it_))] H := hP
    have hD : va_D A [(y, .inr (9, [.int 0, .int m_status, .ref y_lane, .ref y_many, .ref y_item, .ref y_city, .ref y_fresh, .int m_isThere, .ref y_tape, .int m_taped, .int m_latest, .int m_length, .int m_cursor, .int m_token, .int m_start, .int m_till, .int m_fault, .int m_faultAt, .int m_seen, .int m_mirrors, .ref y_cost, .ref y_away, .ref y_fee, .ref y_goesTo, .ref y_priceWas, .ref y_isKept, .ref y_kept, .ref y_trace, .int m_traced])), (y_lane, .inl (cI, 8, .inl la_)), (y_many, .inl (cI, 8, .inl ma_)), (y_item, .inl (cI, 320, .inl it_))] := hD
    refine lv_if_eq (tgt := 19) S.1 S.2.1 dX9_copy_9 (by decide) (fun c_67 => ?_) (fun c_67 => absurd c_67 (by decide))
    refine lv_ldc (v := (-1000001)) S.1 S.2.1 S.2.2.2.1 (S.2.2.2.2 (.constant RX9 73 (-1000001)) (by decide +kernel)) dX9_copy_19 ?_
    exact b_iret S.1 S.2.1 X.2.1 X.2.2.1 hP hD hS (Or.inl ⟨m_status, (by first | assumption | omega | decide | (rw [show Int32.toInt 0 = 0 from rfl]; omega)), rfl, rfl⟩) dX9_copy_21
set_option maxHeartbeats 4000000 in
set_option maxRecDepth 100000 in
theorem s_X9_drop (l : Launch) (D : va_G) (cI cZ cC cS : ClassId) (sq : Nat → Nat) (sz : Nat) (y : Nat) (y_lane : Nat) (y_many : Nat) (a : Int32) (m_thrown : Int32) (m_status : Int32) (y_item : Nat) (y_city : Nat) (y_fresh : Nat) (m_isThere : Int32) (y_tape : Nat) (m_taped : Int32) (m_latest : Int32) (m_length : Int32) (m_cursor : Int32) (m_token : Int32) (m_start : Int32) (m_till : Int32) (m_fault : Int32) (m_faultAt : Int32) (m_seen : Int32) (m_mirrors : Int32) (y_cost : Nat) (y_away : Nat) (y_fee : Nat) (y_goesTo : Nat) (y_priceWas : Nat) (y_isKept : Nat) (y_kept : Nat) (y_trace : Nat) (m_traced : Int32) (la_ : Nat → Int32) (ma_ : Nat → Int32) (hrg_ma_ : rng ma_ 8 (0) (40)) : mI l yX9_drop wsX9_drop 50 2000 D (tyW cI cZ cC cS) sq [(y, .inr (9, [.int m_thrown, .int m_status, .ref y_lane, .ref y_many, .ref y_item, .ref y_city, .ref y_fresh, .int m_isThere, .ref y_tape, .int m_taped, .int m_latest, .int m_length, .int m_cursor, .int m_token, .int m_start, .int m_till, .int m_fault, .int m_faultAt, .int m_seen, .int m_mirrors, .ref y_cost, .ref y_away, .ref y_fee, .ref y_goesTo, .ref y_priceWas, .ref y_isKept, .ref y_kept, .ref y_trace, .int m_traced])), (y_lane, .inl (cI, 8, .inl la_)), (y_many, .inl (cI, 8, .inl ma_))] sz [.ref y, .int a] (fun r w => (∃ (m_status2 : Int32), (¬ (0 ≤ a.toInt ∧ a.toInt < 8)) ∧ r = -1000001 ∧ w = [(y, .inr (9, [.int 0, .int m_status2, .ref y_lane, .ref y_many, .ref y_item, .ref y_city, .ref y_fresh, .int m_isThere, .ref y_tape, .int m_taped, .int m_latest, .int m_length, .int m_cursor, .int m_token, .int m_start, .int m_till, .int m_fault, .int m_faultAt, .int m_seen, .int m_mirrors, .ref y_cost, .ref y_away, .ref y_fee, .ref y_goesTo, .ref y_priceWas, .ref y_isKept, .ref y_kept, .ref y_trace, .int m_traced])), (y_lane, .inl (cI, 8, .inl la_)), (y_many, .inl (cI, 8, .inl ma_))]) ∨ (∃ (m_status2 : Int32), (0 ≤ a.toInt ∧ a.toInt < 8 ∧ (la_ a.toNatClampNeg).toInt < 0) ∧ r = -1000011 ∧ w = [(y, .inr (9, [.int 0, .int m_status2, .ref y_lane, .ref y_many, .ref y_item, .ref y_city, .ref y_fresh, .int m_isThere, .ref y_tape, .int m_taped, .int m_latest, .int m_length, .int m_cursor, .int m_token, .int m_start, .int m_till, .int m_fault, .int m_faultAt, .int m_seen, .int m_mirrors, .ref y_cost, .ref y_away, .ref y_fee, .ref y_goesTo, .ref y_priceWas, .ref y_isKept, .ref y_kept, .ref y_trace, .int m_traced])), (y_lane, .inl (cI, 8, .inl la_)), (y_many, .inl (cI, 8, .inl ma_))]) ∨ (∃ (m_status2 : Int32), ∃ (la_2 : Nat → Int32), (0 ≤ a.toInt ∧ a.toInt < 8 ∧ 0 ≤ (la_ a.toNatClampNeg).toInt) ∧ (r = (ma_ a.toNatClampNeg)) ∧ (la_2 = upd la_ a.toNatClampNeg (-1)) ∧ w = [(y, .inr (9, [.int 0, .int m_status2, .ref y_lane, .ref y_many, .ref y_item, .ref y_city, .ref y_fresh, .int m_isThere, .ref y_tape, .int m_taped, .int m_latest, .int m_length, .int m_cursor, .int m_token, .int m_start, .int m_till, .int m_fault, .int m_faultAt, .int m_seen, .int m_mirrors, .ref y_cost, .ref y_away, .ref y_fee, .ref y_goesTo, .ref y_priceWas, .ref y_isKept, .ref y_kept, .ref y_trace, .int m_traced])), (y_lane, .inl (cI, 8, .inl la_2)), (y_many, .inl (cI, 8, .inl ma_))])) := by
  refine b_metI (cc := cX9_drop) (maxL := 2) (ret := (some .int)) (by decide) rfl (Nat.le_of_ble_eq_true rfl) ?_
  intro p e s m below meth c ls A H X hsz hP hK hT hD hA hS hl
  have S : CallFix p m c cX9_drop 2 s ([.ref y, .int a] : List Value).toArray wsX9_drop RX9 := X.1
  have hl : lv_has ls 2 [(0, .ref y), (1, .int a)] := hl
  have iX9 := jX9_drop_X9
  refine lv_aload_n S.1 S.2.1 dX9_drop_0 rfl (lv_at hl 0 rfl) ?_
  refine lv_iconst (v := (0)) S.1 S.2.1 dX9_drop_1 (by decide) ?_
  refine b_put (v := .int 0) S iX9 tyX9 tyX9_ok nmX9 hK hP hD hS 0 rfl rfl 0 (by decide) (by decide +kernel) rfl rfl rfl (Nat.le_of_ble_eq_true rfl) dX9_drop_2 (fun H locs hP hD hS => ?_)
  have hP : va_P D vwCl [(y, .inr (9, [.int 0, .int m_status, .ref y_lane, .ref y_many, .ref y_item, .ref y_city, .ref y_fresh, .int m_isThere, .ref y_tape, .int m_taped, .int m_latest, .int m_length, .int m_cursor, .int m_token, .int m_start, .int m_till, .int m_fault, .int m_faultAt, .int m_seen, .int m_mirrors, .ref y_cost, .ref y_away, .ref y_fee, .ref y_goesTo, .ref y_priceWas, .ref y_isKept, .ref y_kept, .ref y_trace, .int m_traced])), (y_lane, .inl (cI, 8, .inl la_)), (y_many, .inl (cI, 8, .inl ma_))] H := hP
  have hD : va_D A [(y, .inr (9, [.int 0, .int m_status, .ref y_lane, .ref y_many, .ref y_item, .ref y_city, .ref y_fresh, .int m_isThere, .ref y_tape, .int m_taped, .int m_latest, .int m_length, .int m_cursor, .int m_token, .int m_start, .int m_till, .int m_fault, .int m_faultAt, .int m_seen, .int m_mirrors, .ref y_cost, .ref y_away, .ref y_fee, .ref y_goesTo, .ref y_priceWas, .ref y_isKept, .ref y_kept, .ref y_trace, .int m_traced])), (y_lane, .inl (cI, 8, .inl la_)), (y_many, .inl (cI, 8, .inl ma_))] := hD
  refine lv_iload_n S.1 S.2.1 dX9_drop_5 rfl (lv_at hl 1 rfl) ?_
  refine b_ai (wr := [(y, .inr (9, [.int 0, .int m_status, .ref y_lane, .ref y_many, .ref y_item, .ref y_city, .ref y_fresh, .int m_isThere, .ref y_tape, .int m_taped, .int m_latest, .int m_length, .int m_cursor, .int m_token, .int m_start, .int m_till, .int m_fault, .int m_faultAt, .int m_seen, .int m_mirrors, .ref y_cost, .ref y_away, .ref y_fee, .ref y_goesTo, .ref y_priceWas, .ref y_isKept, .ref y_kept, .ref y_trace, .int m_traced])), (y_lane, .inl (cI, 8, .inl la_)), (y_many, .inl (cI, 8, .inl ma_))]) (b_runS (As := [.int a]) (s_X9_isSheet l D cI cZ cC cS sq H.size a) S gX9_drop_X9_isSheet rfl hdS_X9_isSheet ⟨Nat.le_of_ble_eq_true rfl, Nat.le_of_ble_eq_true rfl⟩ ⟨Nat.le_of_ble_eq_true rfl, Nat.le_of_ble_eq_true rfl⟩ hK hT hS hA hP hD [] rfl (by decide) rfl hl.1 rfl (Nat.le_of_ble_eq_true rfl) dX9_drop_6) hP hD hS hA [] [0, 1, 2] rfl rfl (by decide) (by decide) (fun r_1 w_2 H locs hw_3 hP hD hS => ?_)
  rcases hw_3 with ⟨hf_4, rfl, rfl⟩ | ⟨hf_5, rfl, rfl⟩
  · have hP : va_P D vwCl [(y, .inr (9, [.int 0, .int m_status, .ref y_lane, .ref y_many, .ref y_item, .ref y_city, .ref y_fresh, .int m_isThere, .ref y_tape, .int m_taped, .int m_latest, .int m_length, .int m_cursor, .int m_token, .int m_start, .int m_till, .int m_fault, .int m_faultAt, .int m_seen, .int m_mirrors, .ref y_cost, .ref y_away, .ref y_fee, .ref y_goesTo, .ref y_priceWas, .ref y_isKept, .ref y_kept, .ref y_trace, .int m_traced])), (y_lane, .inl (cI, 8, .inl la_)), (y_many, .inl (cI, 8, .inl ma_))] H := hP
    have hD : va_D A [(y, .inr (9, [.int 0, .int m_status, .ref y_lane, .ref y_many, .ref y_item, .ref y_city, .ref y_fresh, .int m_isThere, .ref y_tape, .int m_taped, .int m_latest, .int m_length, .int m_cursor, .int m_token, .int m_start, .int m_till, .int m_fault, .int m_faultAt, .int m_seen, .int m_mirrors, .ref y_cost, .ref y_away, .ref y_fee, .ref y_goesTo, .ref y_priceWas, .ref y_isKept, .ref y_kept, .ref y_trace, .int m_traced])), (y_lane, .inl (cI, 8, .inl la_)), (y_many, .inl (cI, 8, .inl ma_))] := hD
    refine lv_if_ne (tgt := 15) S.1 S.2.1 dX9_drop_9 (by decide) (fun c_6 => ?_) (fun c_6 => absurd c_6 (by decide))
    refine lv_aload_n S.1 S.2.1 dX9_drop_15 rfl (lv_at hl 0 rfl) ?_
    refine lv_iconst (v := (0)) S.1 S.2.1 dX9_drop_16 (by decide) ?_
    refine b_put (v := .int 0) S iX9 tyX9 tyX9_ok nmX9 hK hP hD hS 0 rfl rfl 1 (by decide) (by decide +kernel) rfl rfl rfl (Nat.le_of_ble_eq_true rfl) dX9_drop_17 (fun H locs hP hD hS => ?_)
    have hP : va_P D vwCl [(y, .inr (9, [.int 0, .int 0, .ref y_lane, .ref y_many, .ref y_item, .ref y_city, .ref y_fresh, .int m_isThere, .ref y_tape, .int m_taped, .int m_latest, .int m_length, .int m_cursor, .int m_token, .int m_start, .int m_till, .int m_fault, .int m_faultAt, .int m_seen, .int m_mirrors, .ref y_cost, .ref y_away, .ref y_fee, .ref y_goesTo, .ref y_priceWas, .ref y_isKept, .ref y_kept, .ref y_trace, .int m_traced])), (y_lane, .inl (cI, 8, .inl la_)), (y_many, .inl (cI, 8, .inl ma_))] H := hP
    have hD : va_D A [(y, .inr (9, [.int 0, .int 0, .ref y_lane, .ref y_many, .ref y_item, .ref y_city, .ref y_fresh, .int m_isThere, .ref y_tape, .int m_taped, .int m_latest, .int m_length, .int m_cursor, .int m_token, .int m_start, .int m_till, .int m_fault, .int m_faultAt, .int m_seen, .int m_mirrors, .ref y_cost, .ref y_away, .ref y_fee, .ref y_goesTo, .ref y_priceWas, .ref y_isKept, .ref y_kept, .ref y_trace, .int m_traced])), (y_lane, .inl (cI, 8, .inl la_)), (y_many, .inl (cI, 8, .inl ma_))] := hD
    refine lv_aload_n S.1 S.2.1 dX9_drop_20 rfl (lv_at hl 0 rfl) ?_
    refine b_get (v := .ref y_lane) S iX9 hK hP 0 rfl rfl 2 (by decide) (by decide +kernel) rfl dX9_drop_21 ?_
    refine lv_iload_n S.1 S.2.1 dX9_drop_24 rfl (lv_at hl 1 rfl) ?_
    have hin_7 : vp_in a 8 := (in_of (n := 8) (by omega) (by omega))
    refine va_iald S.1 S.2.1 hK.1 hP 1 0 rfl rfl hin_7 dX9_drop_25 ?_
    refine lv_topi (fun x_8 ex_8 => ?_)
    have bx_8 : x_8.toInt = (la_ a.toNatClampNeg).toInt := by rw [ex_8]
    refine lv_if_ge (tgt := 35) S.1 S.2.1 dX9_drop_26 (by decide) (fun c_9 => ?_) (fun c_9 => ?_)
    · rw [le2 (a := 0) (b := x_8) (A := 0) (B := x_8.toInt) rfl rfl] at c_9
      refine lv_aload_n S.1 S.2.1 dX9_drop_35 rfl (lv_at hl 0 rfl) ?_
      refine b_get (v := .ref y_lane) S iX9 hK hP 0 rfl rfl 2 (by decide) (by decide +kernel) rfl dX9_drop_36 ?_
      refine lv_iload_n S.1 S.2.1 dX9_drop_39 rfl (lv_at hl 1 rfl) ?_
      refine lv_iconst (v := (-1)) S.1 S.2.1 dX9_drop_40 (by decide) ?_
      refine va_iast S.1 S.2.1 hK.1 hP hD hS 1 0 rfl rfl (in_of (n := 8) (by omega) (by omega)) dX9_drop_41 (fun H locs hP hD hS => ?_)
      obtain ⟨f_10, hf_10⟩ : ∃ g, (upd la_ a.toNatClampNeg (-1)) = g := ⟨_, rfl⟩
      have hP : va_P D vwCl [(y, .inr (9, [.int 0, .int 0, .ref y_lane, .ref y_many, .ref y_item, .ref y_city, .ref y_fresh, .int m_isThere, .ref y_tape, .int m_taped, .int m_latest, .int m_length, .int m_cursor, .int m_token, .int m_start, .int m_till, .int m_fault, .int m_faultAt, .int m_seen, .int m_mirrors, .ref y_cost, .ref y_away, .ref y_fee, .ref y_goesTo, .ref y_priceWas, .ref y_isKept, .ref y_kept, .ref y_trace, .int m_traced])), (y_lane, .inl (cI, 8, .inl (upd la_ a.toNatClampNeg (-1)))), (y_many, .inl (cI, 8, .inl ma_))] H := hP
      have hD : va_D A [(y, .inr (9, [.int 0, .int 0, .ref y_lane, .ref y_many, .ref y_item, .ref y_city, .ref y_fresh, .int m_isThere, .ref y_tape, .int m_taped, .int m_latest, .int m_length, .int m_cursor, .int m_token, .int m_start, .int m_till, .int m_fault, .int m_faultAt, .int m_seen, .int m_mirrors, .ref y_cost, .ref y_away, .ref y_fee, .ref y_goesTo, .ref y_priceWas, .ref y_isKept, .ref y_kept, .ref y_trace, .int m_traced])), (y_lane, .inl (cI, 8, .inl (upd la_ a.toNatClampNeg (-1)))), (y_many, .inl (cI, 8, .inl ma_))] := hD
      rw [hf_10] at hP hD
      refine lv_aload_n S.1 S.2.1 dX9_drop_42 rfl (lv_at hl 0 rfl) ?_
      refine b_get (v := .ref y_many) S iX9 hK hP 0 rfl rfl 3 (by decide) (by decide +kernel) rfl dX9_drop_43 ?_
      refine lv_iload_n S.1 S.2.1 dX9_drop_46 rfl (lv_at hl 1 rfl) ?_
      have hin_11 : vp_in a 8 := (in_of (n := 8) (by omega) (by omega))
      refine va_iald S.1 S.2.1 hK.1 hP 2 0 rfl rfl hin_11 dX9_drop_47 ?_
      refine lv_topi (fun x_12 ex_12 => ?_)
      have tx_12 := rng_get (x := x_12) (show rng ma_ 8 (0) (40) by assumption) hin_11 ex_12
      have lq0 : Int32.toInt (0) = 0 := by decide
      exact b_iret S.1 S.2.1 X.2.1 X.2.2.1 hP hD hS (Or.inr (Or.inr (⟨(0), f_10, (by first | assumption | omega | decide | (rw [show Int32.toInt 0 = 0 from rfl]; omega)), (by assumption), (Eq.symm (by assumption)), rfl⟩))) dX9_drop_48
    · rw [le2 (a := 0) (b := x_8) (A := 0) (B := x_8.toInt) rfl rfl] at c_9
      refine lv_aload_n S.1 S.2.1 dX9_drop_29 rfl (lv_at hl 0 rfl) ?_
      refine lv_iconst (v := (1)) S.1 S.2.1 dX9_drop_30 (by decide) ?_
      refine b_ai (wr := [(y_lane, .inl (cI, 8, .inl la_)), (y_many, .inl (cI, 8, .inl ma_))]) (b_runV (q0 := 0) (ci := 9) (As := [.int 1]) (s_X9_finding_1 l D cI cZ cC cS sq H.size y (0) (0) y_lane y_many y_item y_city y_fresh m_isThere y_tape m_taped m_latest m_length m_cursor m_token m_start m_till m_fault m_faultAt m_seen m_mirrors y_cost y_away y_fee y_goesTo y_priceWas y_isKept y_kept y_trace m_traced) S gX9_drop_X9_finding rfl hdV_X9_finding ⟨Nat.le_of_ble_eq_true rfl, Nat.le_of_ble_eq_true rfl⟩ ⟨Nat.le_of_ble_eq_true rfl, Nat.le_of_ble_eq_true rfl⟩ hK hT hS hA hP hD rfl rfl [0] rfl (by decide) rfl hl.1 rfl (Nat.le_of_ble_eq_true rfl) dX9_drop_31) hP hD hS hA [0] [1, 2] rfl rfl (by decide) (by decide) (fun r_13 w_14 H locs hw_15 hP hD hS => ?_)
      obtain ⟨rfl, rfl⟩ := hw_15
      have hP : va_P D vwCl [(y_lane, .inl (cI, 8, .inl la_)), (y_many, .inl (cI, 8, .inl ma_)), (y, .inr (9, [.int 0, .int 1, .ref y_lane, .ref y_many, .ref y_item, .ref y_city, .ref y_fresh, .int m_isThere, .ref y_tape, .int m_taped, .int m_latest, .int m_length, .int m_cursor, .int m_token, .int m_start, .int m_till, .int m_fault, .int m_faultAt, .int m_seen, .int m_mirrors, .ref y_cost, .ref y_away, .ref y_fee, .ref y_goesTo, .ref y_priceWas, .ref y_isKept, .ref y_kept, .ref y_trace, .int m_traced]))] H := hP
      have hD : va_D A [(y_lane, .inl (cI, 8, .inl la_)), (y_many, .inl (cI, 8, .inl ma_)), (y, .inr (9, [.int 0, .int 1, .ref y_lane, .ref y_many, .ref y_item, .ref y_city, .ref y_fresh, .int m_isThere, .ref y_tape, .int m_taped, .int m_latest, .int m_length, .int m_cursor, .int m_token, .int m_start, .int m_till, .int m_fault, .int m_faultAt, .int m_seen, .int m_mirrors, .ref y_cost, .ref y_away, .ref y_fee, .ref y_goesTo, .ref y_priceWas, .ref y_isKept, .ref y_kept, .ref y_trace, .int m_traced]))] := hD
      have hP := hP.sub (ws' := [(y, .inr (9, [.int 0, .int 1, .ref y_lane, .ref y_many, .ref y_item, .ref y_city, .ref y_fresh, .int m_isThere, .ref y_tape, .int m_taped, .int m_latest, .int m_length, .int m_cursor, .int m_token, .int m_start, .int m_till, .int m_fault, .int m_faultAt, .int m_seen, .int m_mirrors, .ref y_cost, .ref y_away, .ref y_fee, .ref y_goesTo, .ref y_priceWas, .ref y_isKept, .ref y_kept, .ref y_trace, .int m_traced])), (y_lane, .inl (cI, 8, .inl la_)), (y_many, .inl (cI, 8, .inl ma_))]) [2, 0, 1] rfl
      have hD := hD.sub (ws' := [(y, .inr (9, [.int 0, .int 1, .ref y_lane, .ref y_many, .ref y_item, .ref y_city, .ref y_fresh, .int m_isThere, .ref y_tape, .int m_taped, .int m_latest, .int m_length, .int m_cursor, .int m_token, .int m_start, .int m_till, .int m_fault, .int m_faultAt, .int m_seen, .int m_mirrors, .ref y_cost, .ref y_away, .ref y_fee, .ref y_goesTo, .ref y_priceWas, .ref y_isKept, .ref y_kept, .ref y_trace, .int m_traced])), (y_lane, .inl (cI, 8, .inl la_)), (y_many, .inl (cI, 8, .inl ma_))]) [2, 0, 1] (by decide) rfl
      have lq1 : Int32.toInt (1) = 1 := by decide
      exact b_iret S.1 S.2.1 X.2.1 X.2.2.1 hP hD hS (Or.inr (Or.inl ⟨(1), (by first | assumption | omega | decide | (rw [show Int32.toInt 0 = 0 from rfl]; omega)), rfl, rfl⟩)) dX9_drop_34
  · have hP : va_P D vwCl [(y, .inr (9, [.int 0, .int m_status, .ref y_lane, .ref y_many, .ref y_item, .ref y_city, .ref y_fresh, .int m_isThere, .ref y_tape, .int m_taped, .int m_latest, .int m_length, .int m_cursor, .int m_token, .int m_start, .int m_till, .int m_fault, .int m_faultAt, .int m_seen, .int m_mirrors, .ref y_cost, .ref y_away, .ref y_fee, .ref y_goesTo, .ref y_priceWas, .ref y_isKept, .ref y_kept, .ref y_trace, .int m_traced])), (y_lane, .inl (cI, 8, .inl la_)), (y_many, .inl (cI, 8, .inl ma_))] H := hP
    have hD : va_D A [(y, .inr (9, [.int 0, .int m_status, .ref y_lane, .ref y_many, .ref y_item, .ref y_city, .ref y_fresh, .int m_isThere, .ref y_tape, .int m_taped, .int m_latest, .int m_length, .int m_cursor, .int m_token, .int m_start, .int m_till, .int m_fault, .int m_faultAt, .int m_seen, .int m_mirrors, .ref y_cost, .ref y_away, .ref y_fee, .ref y_goesTo, .ref y_priceWas, .ref y_isKept, .ref y_kept, .ref y_trace, .int m_traced])), (y_lane, .inl (cI, 8, .inl la_)), (y_many, .inl (cI, 8, .inl ma_))] := hD
    refine lv_if_ne (tgt := 15) S.1 S.2.1 dX9_drop_9 (by decide) (fun c_16 => absurd c_16 (by decide)) (fun c_16 => ?_)
    refine lv_ldc (v := (-1000001)) S.1 S.2.1 S.2.2.2.1 (S.2.2.2.2 (.constant RX9 73 (-1000001)) (by decide +kernel)) dX9_drop_12 ?_
    exact b_iret S.1 S.2.1 X.2.1 X.2.2.1 hP hD hS (Or.inl ⟨m_status, (by first | assumption | omega | decide | (rw [show Int32.toInt 0 = 0 from rfl]; omega)), rfl, rfl⟩) dX9_drop_14
set_option maxHeartbeats 4000000 in
set_option maxRecDepth 100000 in
theorem lp_mfeed {p : Program} (l : Launch) {e : Env} {s : State} {m : MethodId} {below : List Frame} {meth : Method} {c : Code} (D : va_G) (cI cZ cC cS : ClassId) (sq : Nat → Nat) (y : Nat) (y_tape : Nat) (wv : Int64) (nn : Int32) (m_thrown : Int32) (m_status : Int32) (y_lane : Nat) (y_many : Nat) (y_item : Nat) (y_city : Nat) (y_fresh : Nat) (m_isThere : Int32) (m_taped : Int32) (m_latest : Int32) (m_length : Int32) (m_cursor : Int32) (m_token : Int32) (m_start : Int32) (m_till : Int32) (m_fault : Int32) (m_faultAt : Int32) (m_seen : Int32) (m_mirrors : Int32) (y_cost : Nat) (y_away : Nat) (y_fee : Nat) (y_goesTo : Nat) (y_priceWas : Nat) (y_isKept : Nat) (y_kept : Nat) (y_trace : Nat) (m_traced : Int32) (tf : Nat → Int32) (hrg_tf : rng tf 400 (0) (255)) (htp : 0 ≤ m_taped.toInt ∧ m_taped.toInt ≤ 400) (hnn : 1 ≤ nn.toInt ∧ nn.toInt ≤ 8 ∧ m_taped.toInt + nn.toInt ≤ 400) {A : Nat → Prop} (X : bX p s m meth c cX9_feed 5 wsX9_feed yX9_feed (some .int) [.ref y, .long wv, .int nn]) (hK : kW D (tyW cI cZ cC cS) sq s) (hT : sT sq A s s.heap) (hA : ∀ q, s.heap.size ≤ q → A q) (K : ∀ (i : Int32) (q : Int32) (tf1 : Nat → Int32), (rng tf1 400 (0) (255)) → (-1 ≤ i.toInt ∧ i.toInt < nn.toInt ∧ i.toInt < 8 ∧ 0 ≤ q.toInt ∧ q.toInt + i.toInt + 1 = m_taped.toInt + nn.toInt) → (fdB wv tf m_taped.toInt (m_taped.toInt + nn.toInt) tf1 q.toInt) → (i.toInt < 0) → ∀ (H : Heap) (locs : List Loc) (ls : Array Slot), va_P D vwCl [(y, .inr (9, [.int 0, .int m_status, .ref y_lane, .ref y_many, .ref y_item, .ref y_city, .ref y_fresh, .int m_isThere, .ref y_tape, .int q, .int m_latest, .int m_length, .int m_cursor, .int m_token, .int m_start, .int m_till, .int m_fault, .int m_faultAt, .int m_seen, .int m_mirrors, .ref y_cost, .ref y_away, .ref y_fee, .ref y_goesTo, .ref y_priceWas, .ref y_isKept, .ref y_kept, .ref y_trace, .int m_traced])), (y_tape, .inl (cI, 400, .inl tf1))] H → va_D A [(y, .inr (9, [.int 0, .int m_status, .ref y_lane, .ref y_many, .ref y_item, .ref y_city, .ref y_fresh, .int m_isThere, .ref y_tape, .int q, .int m_latest, .int m_length, .int m_cursor, .int m_token, .int m_start, .int m_till, .int m_fault, .int m_faultAt, .int m_seen, .int m_mirrors, .ref y_cost, .ref y_away, .ref y_fee, .ref y_goesTo, .ref y_priceWas, .ref y_isKept, .ref y_kept, .ref y_trace, .int m_traced])), (y_tape, .inl (cI, 400, .inl tf1))] → va_S A s.heap H locs → lv_has ls 5 [(4, .int i), (0, .ref y), (1, .long wv), (3, .int nn)] → W p l e (rmW 50 2000 0 0) s m ([.ref y, .long wv, .int nn] : List Value).toArray below meth c H locs 0 0 (MQ below (va_Qi (fun r w => ((¬ (1 ≤ nn.toInt ∧ nn.toInt ≤ 8)) ∧ r = -1000001 ∧ w = [(y, .inr (9, [.int 0, .int m_status, .ref y_lane, .ref y_many, .ref y_item, .ref y_city, .ref y_fresh, .int m_isThere, .ref y_tape, .int m_taped, .int m_latest, .int m_length, .int m_cursor, .int m_token, .int m_start, .int m_till, .int m_fault, .int m_faultAt, .int m_seen, .int m_mirrors, .ref y_cost, .ref y_away, .ref y_fee, .ref y_goesTo, .ref y_priceWas, .ref y_isKept, .ref y_kept, .ref y_trace, .int m_traced])), (y_tape, .inl (cI, 400, .inl tf))]) ∨ ((1 ≤ nn.toInt ∧ nn.toInt ≤ 8 ∧ 400 < m_taped.toInt + nn.toInt) ∧ r = -1000003 ∧ w = [(y, .inr (9, [.int 0, .int m_status, .ref y_lane, .ref y_many, .ref y_item, .ref y_city, .ref y_fresh, .int m_isThere, .ref y_tape, .int m_taped, .int m_latest, .int m_length, .int m_cursor, .int m_token, .int m_start, .int m_till, .int m_fault, .int m_faultAt, .int m_seen, .int m_mirrors, .ref y_cost, .ref y_away, .ref y_fee, .ref y_goesTo, .ref y_priceWas, .ref y_isKept, .ref y_kept, .ref y_trace, .int m_traced])), (y_tape, .inl (cI, 400, .inl tf))]) ∨ (∃ (m_taped2 : Int32), ∃ (tf2 : Nat → Int32), (rng tf2 400 (0) (255)) ∧ (1 ≤ nn.toInt ∧ nn.toInt ≤ 8 ∧ m_taped.toInt + nn.toInt ≤ 400 ∧ m_taped2.toInt = m_taped.toInt + nn.toInt) ∧ (fdB wv tf m_taped.toInt (m_taped.toInt + nn.toInt) tf2 m_taped2.toInt) ∧ r = m_taped2 ∧ w = [(y, .inr (9, [.int 0, .int m_status, .ref y_lane, .ref y_many, .ref y_item, .ref y_city, .ref y_fresh, .int m_isThere, .ref y_tape, .int m_taped2, .int m_latest, .int m_length, .int m_cursor, .int m_token, .int m_start, .int m_till, .int m_fault, .int m_faultAt, .int m_seen, .int m_mirrors, .ref y_cost, .ref y_away, .ref y_fee, .ref y_goesTo, .ref y_priceWas, .ref y_isKept, .ref y_kept, .ref y_trace, .int m_traced])), (y_tape, .inl (cI, 400, .inl tf2))])) (wD D A) A) ([.ref y, .long wv, .int nn] : List Value).toArray s 0 0 A) (F0 m 82 ls [])) : ∀ (mN : Nat) (i : Int32) (q : Int32) (tf1 : Nat → Int32), (rng tf1 400 (0) (255)) → (-1 ≤ i.toInt ∧ i.toInt < nn.toInt ∧ i.toInt < 8 ∧ 0 ≤ q.toInt ∧ q.toInt + i.toInt + 1 = m_taped.toInt + nn.toInt) → (fdB wv tf m_taped.toInt (m_taped.toInt + nn.toInt) tf1 q.toInt) → ((i.toInt + 1).toNat < mN) → ∀ (H : Heap) (locs : List Loc) (ls : Array Slot), va_P D vwCl [(y, .inr (9, [.int 0, .int m_status, .ref y_lane, .ref y_many, .ref y_item, .ref y_city, .ref y_fresh, .int m_isThere, .ref y_tape, .int q, .int m_latest, .int m_length, .int m_cursor, .int m_token, .int m_start, .int m_till, .int m_fault, .int m_faultAt, .int m_seen, .int m_mirrors, .ref y_cost, .ref y_away, .ref y_fee, .ref y_goesTo, .ref y_priceWas, .ref y_isKept, .ref y_kept, .ref y_trace, .int m_traced])), (y_tape, .inl (cI, 400, .inl tf1))] H → va_D A [(y, .inr (9, [.int 0, .int m_status, .ref y_lane, .ref y_many, .ref y_item, .ref y_city, .ref y_fresh, .int m_isThere, .ref y_tape, .int q, .int m_latest, .int m_length, .int m_cursor, .int m_token, .int m_start, .int m_till, .int m_fault, .int m_faultAt, .int m_seen, .int m_mirrors, .ref y_cost, .ref y_away, .ref y_fee, .ref y_goesTo, .ref y_priceWas, .ref y_isKept, .ref y_kept, .ref y_trace, .int m_traced])), (y_tape, .inl (cI, 400, .inl tf1))] → va_S A s.heap H locs → lv_has ls 5 [(4, .int i), (0, .ref y), (1, .long wv), (3, .int nn)] → W p l e (rmW 50 2000 0 0) s m ([.ref y, .long wv, .int nn] : List Value).toArray below meth c H locs 0 0 (MQ below (va_Qi (fun r w => ((¬ (1 ≤ nn.toInt ∧ nn.toInt ≤ 8)) ∧ r = -1000001 ∧ w = [(y, .inr (9, [.int 0, .int m_status, .ref y_lane, .ref y_many, .ref y_item, .ref y_city, .ref y_fresh, .int m_isThere, .ref y_tape, .int m_taped, .int m_latest, .int m_length, .int m_cursor, .int m_token, .int m_start, .int m_till, .int m_fault, .int m_faultAt, .int m_seen, .int m_mirrors, .ref y_cost, .ref y_away, .ref y_fee, .ref y_goesTo, .ref y_priceWas, .ref y_isKept, .ref y_kept, .ref y_trace, .int m_traced])), (y_tape, .inl (cI, 400, .inl tf))]) ∨ ((1 ≤ nn.toInt ∧ nn.toInt ≤ 8 ∧ 400 < m_taped.toInt + nn.toInt) ∧ r = -1000003 ∧ w = [(y, .inr (9, [.int 0, .int m_status, .ref y_lane, .ref y_many, .ref y_item, .ref y_city, .ref y_fresh, .int m_isThere, .ref y_tape, .int m_taped, .int m_latest, .int m_length, .int m_cursor, .int m_token, .int m_start, .int m_till, .int m_fault, .int m_faultAt, .int m_seen, .int m_mirrors, .ref y_cost, .ref y_away, .ref y_fee, .ref y_goesTo, .ref y_priceWas, .ref y_isKept, .ref y_kept, .ref y_trace, .int m_traced])), (y_tape, .inl (cI, 400, .inl tf))]) ∨ (∃ (m_taped2 : Int32), ∃ (tf2 : Nat → Int32), (rng tf2 400 (0) (255)) ∧ (1 ≤ nn.toInt ∧ nn.toInt ≤ 8 ∧ m_taped.toInt + nn.toInt ≤ 400 ∧ m_taped2.toInt = m_taped.toInt + nn.toInt) ∧ (fdB wv tf m_taped.toInt (m_taped.toInt + nn.toInt) tf2 m_taped2.toInt) ∧ r = m_taped2 ∧ w = [(y, .inr (9, [.int 0, .int m_status, .ref y_lane, .ref y_many, .ref y_item, .ref y_city, .ref y_fresh, .int m_isThere, .ref y_tape, .int m_taped2, .int m_latest, .int m_length, .int m_cursor, .int m_token, .int m_start, .int m_till, .int m_fault, .int m_faultAt, .int m_seen, .int m_mirrors, .ref y_cost, .ref y_away, .ref y_fee, .ref y_goesTo, .ref y_priceWas, .ref y_isKept, .ref y_kept, .ref y_trace, .int m_traced])), (y_tape, .inl (cI, 400, .inl tf2))])) (wD D A) A) ([.ref y, .long wv, .int nn] : List Value).toArray s 0 0 A) (F0 m 40 ls []) := by
  have S : CallFix p m c cX9_feed 5 s ([.ref y, .long wv, .int nn] : List Value).toArray wsX9_feed RX9 := X.1
  have iX9 := jX9_feed_X9
  intro mN
  induction mN with
  | zero => intro i q tf1 hrg_tf1 hi hby hm; exact absurd hm (Nat.not_lt_zero _)
  | succ mN ih =>
    intro i q tf1 hrg_tf1 hi hby hm H locs ls hP hD hS hl
    refine lv_iload S.1 S.2.1 dX9_feed_40 (lv_at hl 0 rfl) ?_
    refine lv_if_lt (tgt := 82) S.1 S.2.1 dX9_feed_42 (by decide) (fun c_101 => ?_) (fun c_101 => ?_)
    · rw [lt2 (a := i) (b := 0) (A := i.toInt) (B := 0) rfl rfl] at c_101
      exact K i q tf1 (by first | assumption | omega | decide | (rw [show Int32.toInt 0 = 0 from rfl]; omega)) (by first | assumption | omega | decide | (rw [show Int32.toInt 0 = 0 from rfl]; omega)) (by first | assumption | exact fdB_st hby (by assumption) (by assumption) (by omega) (by omega) (by omega) (by omega) (by omega)) (by first | assumption | omega | decide | (rw [show Int32.toInt 0 = 0 from rfl]; omega)) H _ ls hP hD hS (lv_sub hl [0, 1, 2, 3] rfl)
    · rw [lt2 (a := i) (b := 0) (A := i.toInt) (B := 0) rfl rfl] at c_101
      refine lv_aload_n S.1 S.2.1 dX9_feed_45 rfl (lv_at hl 1 rfl) ?_
      refine b_get (v := .ref y_tape) S iX9 hK hP 0 rfl rfl 8 (by decide) (by decide +kernel) rfl dX9_feed_46 ?_
      refine lv_aload_n S.1 S.2.1 dX9_feed_49 rfl (lv_at hl 1 rfl) ?_
      refine b_get (v := .int q) S iX9 hK hP 0 rfl rfl 9 (by decide) (by decide +kernel) rfl dX9_feed_50 ?_
      refine lv_lload_n S.1 S.2.1 dX9_feed_53 rfl (lv_at hl 2 rfl) ?_
      refine lv_bipush (v := (8)) S.1 S.2.1 dX9_feed_54 (by decide) ?_
      refine lv_iload S.1 S.2.1 dX9_feed_56 (lv_at hl 0 rfl) ?_
      refine lv_imul S.1 S.2.1 dX9_feed_58 ?_
      refine lv_topi (fun x_102 ex_102 => ?_)
      have tx_102 : x_102.toInt = 8 * i.toInt := mulI (A := 8) (B := i.toInt) ex_102 rfl rfl (by omega) (by omega)
      refine lv_lshr S.1 S.2.1 dX9_feed_59 rfl ?_
      refine lv_topl (fun z_103 ez_103 => ?_)
      refine lv_ldc2 (v := (255)) S.1 S.2.1 S.2.2.2.1 (S.2.2.2.2 (.constantLong RX9 84 (255)) (by decide +kernel)) dX9_feed_60 ?_
      refine lv_land S.1 S.2.1 dX9_feed_63 ?_
      refine lv_topl (fun z_104 ez_104 => ?_)
      refine lv_l2i S.1 S.2.1 dX9_feed_64 rfl ?_
      refine lv_topi (fun x_105 ex_105 => ?_)
      have tx_105 := byM (i := i) (by omega) ex_105 (by assumption) (by assumption) (by omega)
      refine va_iast S.1 S.2.1 hK.1 hP hD hS 1 0 rfl rfl (in_of (n := 400) (by omega) (by omega)) dX9_feed_65 (fun H locs hP hD hS => ?_)
      obtain ⟨f_106, hf_106, rf_106⟩ : ∃ g, (upd tf1 q.toNatClampNeg (x_105)) = g ∧ rng g 400 (0) (255) := ⟨_, rfl, rng_upd (by assumption) (show (0 : Int) ≤ (x_105 : Int32).toInt ∧ (x_105 : Int32).toInt ≤ 255 from by omega)⟩
      have hP : va_P D vwCl [(y, .inr (9, [.int 0, .int m_status, .ref y_lane, .ref y_many, .ref y_item, .ref y_city, .ref y_fresh, .int m_isThere, .ref y_tape, .int q, .int m_latest, .int m_length, .int m_cursor, .int m_token, .int m_start, .int m_till, .int m_fault, .int m_faultAt, .int m_seen, .int m_mirrors, .ref y_cost, .ref y_away, .ref y_fee, .ref y_goesTo, .ref y_priceWas, .ref y_isKept, .ref y_kept, .ref y_trace, .int m_traced])), (y_tape, .inl (cI, 400, .inl (upd tf1 q.toNatClampNeg (x_105))))] H := hP
      have hD : va_D A [(y, .inr (9, [.int 0, .int m_status, .ref y_lane, .ref y_many, .ref y_item, .ref y_city, .ref y_fresh, .int m_isThere, .ref y_tape, .int q, .int m_latest, .int m_length, .int m_cursor, .int m_token, .int m_start, .int m_till, .int m_fault, .int m_faultAt, .int m_seen, .int m_mirrors, .ref y_cost, .ref y_away, .ref y_fee, .ref y_goesTo, .ref y_priceWas, .ref y_isKept, .ref y_kept, .ref y_trace, .int m_traced])), (y_tape, .inl (cI, 400, .inl (upd tf1 q.toNatClampNeg (x_105))))] := hD
      rw [hf_106] at hP hD
      refine lv_aload_n S.1 S.2.1 dX9_feed_66 rfl (lv_at hl 1 rfl) ?_
      refine lv_dup S.1 S.2.1 dX9_feed_67 rfl ?_
      refine b_get (v := .int q) S iX9 hK hP 0 rfl rfl 9 (by decide) (by decide +kernel) rfl dX9_feed_68 ?_
      refine lv_iconst (v := (1)) S.1 S.2.1 dX9_feed_71 (by decide) ?_
      refine lv_iadd S.1 S.2.1 dX9_feed_72 ?_
      refine lv_topi (fun x_107 ex_107 => ?_)
      have tx_107 : x_107.toInt = q.toInt + (1) := addI (A := q.toInt) (B := 1) ex_107 rfl rfl (by omega) (by omega)
      refine b_put (v := .int x_107) S iX9 tyX9 tyX9_ok nmX9 hK hP hD hS 0 rfl rfl 9 (by decide) (by decide +kernel) rfl rfl rfl (Nat.le_of_ble_eq_true rfl) dX9_feed_73 (fun H locs hP hD hS => ?_)
      have hP : va_P D vwCl [(y, .inr (9, [.int 0, .int m_status, .ref y_lane, .ref y_many, .ref y_item, .ref y_city, .ref y_fresh, .int m_isThere, .ref y_tape, .int x_107, .int m_latest, .int m_length, .int m_cursor, .int m_token, .int m_start, .int m_till, .int m_fault, .int m_faultAt, .int m_seen, .int m_mirrors, .ref y_cost, .ref y_away, .ref y_fee, .ref y_goesTo, .ref y_priceWas, .ref y_isKept, .ref y_kept, .ref y_trace, .int m_traced])), (y_tape, .inl (cI, 400, .inl f_106))] H := hP
      have hD : va_D A [(y, .inr (9, [.int 0, .int m_status, .ref y_lane, .ref y_many, .ref y_item, .ref y_city, .ref y_fresh, .int m_isThere, .ref y_tape, .int x_107, .int m_latest, .int m_length, .int m_cursor, .int m_token, .int m_start, .int m_till, .int m_fault, .int m_faultAt, .int m_seen, .int m_mirrors, .ref y_cost, .ref y_away, .ref y_fee, .ref y_goesTo, .ref y_priceWas, .ref y_isKept, .ref y_kept, .ref y_trace, .int m_traced])), (y_tape, .inl (cI, 400, .inl f_106))] := hD
      obtain ⟨x_108, ex_108⟩ : ∃ y : Int32, y = i + Int32.ofInt (-1) := ⟨_, rfl⟩
      refine lv_iinc (v := x_108) (lv' := [(4, .int x_108), (0, .ref y), (1, .long wv), (3, .int nn)]) S.1 S.2.1 dX9_feed_76 hl (k := 0) rfl ex_108.symm (by decide) rfl (fun ls hl => ?_)
      have tx_108 : x_108.toInt = i.toInt + (-1) := addI (A := i.toInt) (B := -1) ex_108 rfl rfl (by omega) (by omega)
      refine lv_goto (tgt := 40) S.1 S.2.1 dX9_feed_79 (by decide) ?_
      exact ih x_108 x_107 f_106 (by first | assumption | omega | decide | (rw [show Int32.toInt 0 = 0 from rfl]; omega)) (by first | assumption | omega | decide | (rw [show Int32.toInt 0 = 0 from rfl]; omega)) (by first | assumption | exact fdB_st hby (by assumption) (by assumption) (by omega) (by omega) (by omega) (by omega) (by omega)) (by omega) H _ ls hP hD hS (lv_sub hl [0, 1, 2, 3] rfl)
set_option maxHeartbeats 4000000 in
set_option maxRecDepth 100000 in
theorem s_X9_feed (l : Launch) (D : va_G) (cI cZ cC cS : ClassId) (sq : Nat → Nat) (sz : Nat) (y : Nat) (y_tape : Nat) (wv : Int64) (nn : Int32) (m_thrown : Int32) (m_status : Int32) (y_lane : Nat) (y_many : Nat) (y_item : Nat) (y_city : Nat) (y_fresh : Nat) (m_isThere : Int32) (m_taped : Int32) (m_latest : Int32) (m_length : Int32) (m_cursor : Int32) (m_token : Int32) (m_start : Int32) (m_till : Int32) (m_fault : Int32) (m_faultAt : Int32) (m_seen : Int32) (m_mirrors : Int32) (y_cost : Nat) (y_away : Nat) (y_fee : Nat) (y_goesTo : Nat) (y_priceWas : Nat) (y_isKept : Nat) (y_kept : Nat) (y_trace : Nat) (m_traced : Int32) (tf : Nat → Int32) (hrg_tf : rng tf 400 (0) (255)) (htp : 0 ≤ m_taped.toInt ∧ m_taped.toInt ≤ 400) : mI l yX9_feed wsX9_feed 50 2000 D (tyW cI cZ cC cS) sq [(y, .inr (9, [.int m_thrown, .int m_status, .ref y_lane, .ref y_many, .ref y_item, .ref y_city, .ref y_fresh, .int m_isThere, .ref y_tape, .int m_taped, .int m_latest, .int m_length, .int m_cursor, .int m_token, .int m_start, .int m_till, .int m_fault, .int m_faultAt, .int m_seen, .int m_mirrors, .ref y_cost, .ref y_away, .ref y_fee, .ref y_goesTo, .ref y_priceWas, .ref y_isKept, .ref y_kept, .ref y_trace, .int m_traced])), (y_tape, .inl (cI, 400, .inl tf))] sz [.ref y, .long wv, .int nn] (fun r w => ((¬ (1 ≤ nn.toInt ∧ nn.toInt ≤ 8)) ∧ r = -1000001 ∧ w = [(y, .inr (9, [.int 0, .int m_status, .ref y_lane, .ref y_many, .ref y_item, .ref y_city, .ref y_fresh, .int m_isThere, .ref y_tape, .int m_taped, .int m_latest, .int m_length, .int m_cursor, .int m_token, .int m_start, .int m_till, .int m_fault, .int m_faultAt, .int m_seen, .int m_mirrors, .ref y_cost, .ref y_away, .ref y_fee, .ref y_goesTo, .ref y_priceWas, .ref y_isKept, .ref y_kept, .ref y_trace, .int m_traced])), (y_tape, .inl (cI, 400, .inl tf))]) ∨ ((1 ≤ nn.toInt ∧ nn.toInt ≤ 8 ∧ 400 < m_taped.toInt + nn.toInt) ∧ r = -1000003 ∧ w = [(y, .inr (9, [.int 0, .int m_status, .ref y_lane, .ref y_many, .ref y_item, .ref y_city, .ref y_fresh, .int m_isThere, .ref y_tape, .int m_taped, .int m_latest, .int m_length, .int m_cursor, .int m_token, .int m_start, .int m_till, .int m_fault, .int m_faultAt, .int m_seen, .int m_mirrors, .ref y_cost, .ref y_away, .ref y_fee, .ref y_goesTo, .ref y_priceWas, .ref y_isKept, .ref y_kept, .ref y_trace, .int m_traced])), (y_tape, .inl (cI, 400, .inl tf))]) ∨ (∃ (m_taped2 : Int32), ∃ (tf2 : Nat → Int32), (rng tf2 400 (0) (255)) ∧ (1 ≤ nn.toInt ∧ nn.toInt ≤ 8 ∧ m_taped.toInt + nn.toInt ≤ 400 ∧ m_taped2.toInt = m_taped.toInt + nn.toInt) ∧ (fdB wv tf m_taped.toInt (m_taped.toInt + nn.toInt) tf2 m_taped2.toInt) ∧ r = m_taped2 ∧ w = [(y, .inr (9, [.int 0, .int m_status, .ref y_lane, .ref y_many, .ref y_item, .ref y_city, .ref y_fresh, .int m_isThere, .ref y_tape, .int m_taped2, .int m_latest, .int m_length, .int m_cursor, .int m_token, .int m_start, .int m_till, .int m_fault, .int m_faultAt, .int m_seen, .int m_mirrors, .ref y_cost, .ref y_away, .ref y_fee, .ref y_goesTo, .ref y_priceWas, .ref y_isKept, .ref y_kept, .ref y_trace, .int m_traced])), (y_tape, .inl (cI, 400, .inl tf2))])) := by
  refine b_metI (cc := cX9_feed) (maxL := 5) (ret := (some .int)) (by decide) rfl (Nat.le_of_ble_eq_true rfl) ?_
  intro p e s m below meth c ls A H X hsz hP hK hT hD hA hS hl
  have S : CallFix p m c cX9_feed 5 s ([.ref y, .long wv, .int nn] : List Value).toArray wsX9_feed RX9 := X.1
  have hl : lv_has ls 5 [(0, .ref y), (1, .long wv), (3, .int nn)] := hl
  have iX9 := jX9_feed_X9
  refine lv_aload_n S.1 S.2.1 dX9_feed_0 rfl (lv_at hl 0 rfl) ?_
  refine lv_iconst (v := (0)) S.1 S.2.1 dX9_feed_1 (by decide) ?_
  refine b_put (v := .int 0) S iX9 tyX9 tyX9_ok nmX9 hK hP hD hS 0 rfl rfl 0 (by decide) (by decide +kernel) rfl rfl rfl (Nat.le_of_ble_eq_true rfl) dX9_feed_2 (fun H locs hP hD hS => ?_)
  have hP : va_P D vwCl [(y, .inr (9, [.int 0, .int m_status, .ref y_lane, .ref y_many, .ref y_item, .ref y_city, .ref y_fresh, .int m_isThere, .ref y_tape, .int m_taped, .int m_latest, .int m_length, .int m_cursor, .int m_token, .int m_start, .int m_till, .int m_fault, .int m_faultAt, .int m_seen, .int m_mirrors, .ref y_cost, .ref y_away, .ref y_fee, .ref y_goesTo, .ref y_priceWas, .ref y_isKept, .ref y_kept, .ref y_trace, .int m_traced])), (y_tape, .inl (cI, 400, .inl tf))] H := hP
  have hD : va_D A [(y, .inr (9, [.int 0, .int m_status, .ref y_lane, .ref y_many, .ref y_item, .ref y_city, .ref y_fresh, .int m_isThere, .ref y_tape, .int m_taped, .int m_latest, .int m_length, .int m_cursor, .int m_token, .int m_start, .int m_till, .int m_fault, .int m_faultAt, .int m_seen, .int m_mirrors, .ref y_cost, .ref y_away, .ref y_fee, .ref y_goesTo, .ref y_priceWas, .ref y_isKept, .ref y_kept, .ref y_trace, .int m_traced])), (y_tape, .inl (cI, 400, .inl tf))] := hD
  refine lv_iload_n S.1 S.2.1 dX9_feed_5 rfl (lv_at hl 2 rfl) ?_
  refine lv_i2l (v := nn.toInt64) S.1 S.2.1 dX9_feed_6 rfl ?_
  refine lv_lconst (v := 1) S.1 S.2.1 dX9_feed_7 (by decide) ?_
  refine lv_ldc2 (v := (8)) S.1 S.2.1 S.2.2.2.1 (S.2.2.2.2 (.constantLong RX9 78 (8)) (by decide +kernel)) dX9_feed_8 ?_
  refine b_ai (wr := [(y, .inr (9, [.int 0, .int m_status, .ref y_lane, .ref y_many, .ref y_item, .ref y_city, .ref y_fresh, .int m_isThere, .ref y_tape, .int m_taped, .int m_latest, .int m_length, .int m_cursor, .int m_token, .int m_start, .int m_till, .int m_fault, .int m_faultAt, .int m_seen, .int m_mirrors, .ref y_cost, .ref y_away, .ref y_fee, .ref y_goesTo, .ref y_priceWas, .ref y_isKept, .ref y_kept, .ref y_trace, .int m_traced])), (y_tape, .inl (cI, 400, .inl tf))]) (b_runS (As := [.long (nn.toInt64), .long 1, .long 8]) (s_X9_in l D cI cZ cC cS sq H.size (nn.toInt64) (1) (8)) S gX9_feed_X9_in rfl hdS_X9_in ⟨Nat.le_of_ble_eq_true rfl, Nat.le_of_ble_eq_true rfl⟩ ⟨Nat.le_of_ble_eq_true rfl, Nat.le_of_ble_eq_true rfl⟩ hK hT hS hA hP hD [] rfl (by decide) rfl hl.1 rfl (Nat.le_of_ble_eq_true rfl) dX9_feed_11) hP hD hS hA [] [0, 1] rfl rfl (by decide) (by decide) (fun r_1 w_2 H locs hw_3 hP hD hS => ?_)
  rcases hw_3 with ⟨hf_4, rfl, rfl⟩ | ⟨hf_5, rfl, rfl⟩
  · have hf_4 : (1) ≤ nn.toInt ∧ nn.toInt ≤ (8) := by simp only [Int32.toInt_toInt64] at hf_4; exact hf_4
    have hP : va_P D vwCl [(y, .inr (9, [.int 0, .int m_status, .ref y_lane, .ref y_many, .ref y_item, .ref y_city, .ref y_fresh, .int m_isThere, .ref y_tape, .int m_taped, .int m_latest, .int m_length, .int m_cursor, .int m_token, .int m_start, .int m_till, .int m_fault, .int m_faultAt, .int m_seen, .int m_mirrors, .ref y_cost, .ref y_away, .ref y_fee, .ref y_goesTo, .ref y_priceWas, .ref y_isKept, .ref y_kept, .ref y_trace, .int m_traced])), (y_tape, .inl (cI, 400, .inl tf))] H := hP
    have hD : va_D A [(y, .inr (9, [.int 0, .int m_status, .ref y_lane, .ref y_many, .ref y_item, .ref y_city, .ref y_fresh, .int m_isThere, .ref y_tape, .int m_taped, .int m_latest, .int m_length, .int m_cursor, .int m_token, .int m_start, .int m_till, .int m_fault, .int m_faultAt, .int m_seen, .int m_mirrors, .ref y_cost, .ref y_away, .ref y_fee, .ref y_goesTo, .ref y_priceWas, .ref y_isKept, .ref y_kept, .ref y_trace, .int m_traced])), (y_tape, .inl (cI, 400, .inl tf))] := hD
    refine lv_if_ne (tgt := 20) S.1 S.2.1 dX9_feed_14 (by decide) (fun c_6 => ?_) (fun c_6 => absurd c_6 (by decide))
    refine lv_aload_n S.1 S.2.1 dX9_feed_20 rfl (lv_at hl 0 rfl) ?_
    refine b_get (v := .int m_taped) S iX9 hK hP 0 rfl rfl 9 (by decide) (by decide +kernel) rfl dX9_feed_21 ?_
    refine lv_iload_n S.1 S.2.1 dX9_feed_24 rfl (lv_at hl 2 rfl) ?_
    refine lv_iadd S.1 S.2.1 dX9_feed_25 ?_
    refine lv_topi (fun x_7 ex_7 => ?_)
    have tx_7 : x_7.toInt = m_taped.toInt + (nn.toInt) := addI (A := m_taped.toInt) (B := nn.toInt) ex_7 rfl rfl (by omega) (by omega)
    refine lv_sipush (v := (400)) S.1 S.2.1 dX9_feed_26 (by decide) ?_
    refine lv_icmp_le (tgt := 35) S.1 S.2.1 dX9_feed_29 (by decide) (fun c_8 => ?_) (fun c_8 => ?_)
    · rw [le2 (a := x_7) (b := 400) (A := x_7.toInt) (B := 400) rfl rfl] at c_8
      refine lv_iload_n S.1 S.2.1 dX9_feed_35 rfl (lv_at hl 2 rfl) ?_
      refine lv_iconst (v := (1)) S.1 S.2.1 dX9_feed_36 (by decide) ?_
      refine lv_isub S.1 S.2.1 dX9_feed_37 ?_
      refine lv_topi (fun x_9 ex_9 => ?_)
      have tx_9 : x_9.toInt = nn.toInt - (1) := subI (A := nn.toInt) (B := 1) ex_9 rfl rfl (by omega) (by omega)
      refine lv_istore (lv' := [(4, .int x_9), (0, .ref y), (1, .long wv), (3, .int nn)]) S.1 S.2.1 dX9_feed_38 hl (by decide) rfl (fun ls hl => ?_)
      refine lp_mfeed l D cI cZ cC cS sq y y_tape wv nn m_thrown m_status y_lane y_many y_item y_city y_fresh m_isThere m_taped m_latest m_length m_cursor m_token m_start m_till m_fault m_faultAt m_seen m_mirrors y_cost y_away y_fee y_goesTo y_priceWas y_isKept y_kept y_trace m_traced tf hrg_tf htp (by first | assumption | omega | decide | (rw [show Int32.toInt 0 = 0 from rfl]; omega)) X hK hT hA (fun i_10 q_11 tf1_12 hi_13 hi_14 hi_15 hi_16 H locs ls hP hD hS hl => ?_) _ x_9 m_taped tf (by first | assumption | omega | decide | (rw [show Int32.toInt 0 = 0 from rfl]; omega)) (by first | assumption | omega | decide | (rw [show Int32.toInt 0 = 0 from rfl]; omega)) (fdB_0 _ _ _ _) (Nat.lt_succ_self _) H _ ls hP hD hS (lv_sub hl [0, 1, 2, 3] rfl)
      refine lv_aload_n S.1 S.2.1 dX9_feed_82 rfl (lv_at hl 1 rfl) ?_
      refine b_get (v := .int q_11) S iX9 hK hP 0 rfl rfl 9 (by decide) (by decide +kernel) rfl dX9_feed_83 ?_
      exact b_iret S.1 S.2.1 X.2.1 X.2.2.1 hP hD hS (Or.inr (Or.inr (⟨q_11, tf1_12, (by first | assumption | omega | decide | (rw [show Int32.toInt 0 = 0 from rfl]; omega)), (by first | assumption | omega | decide | (rw [show Int32.toInt 0 = 0 from rfl]; omega)), (by first | assumption | omega | decide | (rw [show Int32.toInt 0 = 0 from rfl]; omega)), rfl, rfl⟩))) dX9_feed_86
    · rw [le2 (a := x_7) (b := 400) (A := x_7.toInt) (B := 400) rfl rfl] at c_8
      refine lv_ldc (v := (-1000003)) S.1 S.2.1 S.2.2.2.1 (S.2.2.2.2 (.constant RX9 83 (-1000003)) (by decide +kernel)) dX9_feed_32 ?_
      exact b_iret S.1 S.2.1 X.2.1 X.2.2.1 hP hD hS (Or.inr (Or.inl ⟨(by first | assumption | omega | decide | (rw [show Int32.toInt 0 = 0 from rfl]; omega)), rfl, rfl⟩)) dX9_feed_34
  · have hf_5 : nn.toInt < (1) ∨ (8) < nn.toInt := by simp only [Int32.toInt_toInt64] at hf_5; exact hf_5
    have hP : va_P D vwCl [(y, .inr (9, [.int 0, .int m_status, .ref y_lane, .ref y_many, .ref y_item, .ref y_city, .ref y_fresh, .int m_isThere, .ref y_tape, .int m_taped, .int m_latest, .int m_length, .int m_cursor, .int m_token, .int m_start, .int m_till, .int m_fault, .int m_faultAt, .int m_seen, .int m_mirrors, .ref y_cost, .ref y_away, .ref y_fee, .ref y_goesTo, .ref y_priceWas, .ref y_isKept, .ref y_kept, .ref y_trace, .int m_traced])), (y_tape, .inl (cI, 400, .inl tf))] H := hP
    have hD : va_D A [(y, .inr (9, [.int 0, .int m_status, .ref y_lane, .ref y_many, .ref y_item, .ref y_city, .ref y_fresh, .int m_isThere, .ref y_tape, .int m_taped, .int m_latest, .int m_length, .int m_cursor, .int m_token, .int m_start, .int m_till, .int m_fault, .int m_faultAt, .int m_seen, .int m_mirrors, .ref y_cost, .ref y_away, .ref y_fee, .ref y_goesTo, .ref y_priceWas, .ref y_isKept, .ref y_kept, .ref y_trace, .int m_traced])), (y_tape, .inl (cI, 400, .inl tf))] := hD
    refine lv_if_ne (tgt := 20) S.1 S.2.1 dX9_feed_14 (by decide) (fun c_17 => absurd c_17 (by decide)) (fun c_17 => ?_)
    refine lv_ldc (v := (-1000001)) S.1 S.2.1 S.2.2.2.1 (S.2.2.2.2 (.constant RX9 73 (-1000001)) (by decide +kernel)) dX9_feed_17 ?_
    exact b_iret S.1 S.2.1 X.2.1 X.2.2.1 hP hD hS (Or.inl ⟨(by first | assumption | omega | decide | (rw [show Int32.toInt 0 = 0 from rfl]; omega)), rfl, rfl⟩) dX9_feed_19
set_option maxHeartbeats 4000000 in
set_option maxRecDepth 100000 in
theorem s_X9_fault (l : Launch) (D : va_G) (cI cZ cC cS : ClassId) (sq : Nat → Nat) (sz : Nat) (y : Nat) (m_thrown : Int32) (m_status : Int32) (y_lane : Nat) (y_many : Nat) (y_item : Nat) (y_city : Nat) (y_fresh : Nat) (m_isThere : Int32) (y_tape : Nat) (m_taped : Int32) (m_latest : Int32) (m_length : Int32) (m_cursor : Int32) (m_token : Int32) (m_start : Int32) (m_till : Int32) (m_fault : Int32) (m_faultAt : Int32) (m_seen : Int32) (m_mirrors : Int32) (y_cost : Nat) (y_away : Nat) (y_fee : Nat) (y_goesTo : Nat) (y_priceWas : Nat) (y_isKept : Nat) (y_kept : Nat) (y_trace : Nat) (m_traced : Int32) : mI l yX9_fault wsX9_fault 50 2000 D (tyW cI cZ cC cS) sq [(y, .inr (9, [.int m_thrown, .int m_status, .ref y_lane, .ref y_many, .ref y_item, .ref y_city, .ref y_fresh, .int m_isThere, .ref y_tape, .int m_taped, .int m_latest, .int m_length, .int m_cursor, .int m_token, .int m_start, .int m_till, .int m_fault, .int m_faultAt, .int m_seen, .int m_mirrors, .ref y_cost, .ref y_away, .ref y_fee, .ref y_goesTo, .ref y_priceWas, .ref y_isKept, .ref y_kept, .ref y_trace, .int m_traced]))] sz [.ref y] (fun r w => (r = m_latest ∧ w = [(y, .inr (9, [.int 0, .int m_status, .ref y_lane, .ref y_many, .ref y_item, .ref y_city, .ref y_fresh, .int m_isThere, .ref y_tape, .int m_taped, .int m_latest, .int m_length, .int m_cursor, .int m_token, .int m_start, .int m_till, .int m_fault, .int m_faultAt, .int m_seen, .int m_mirrors, .ref y_cost, .ref y_away, .ref y_fee, .ref y_goesTo, .ref y_priceWas, .ref y_isKept, .ref y_kept, .ref y_trace, .int m_traced]))])) := by
  refine b_metI (cc := cX9_fault) (maxL := 1) (ret := (some .int)) (by decide) rfl (Nat.le_of_ble_eq_true rfl) ?_
  intro p e s m below meth c ls A H X hsz hP hK hT hD hA hS hl
  have S : CallFix p m c cX9_fault 1 s ([.ref y] : List Value).toArray wsX9_fault RX9 := X.1
  have hl : lv_has ls 1 [(0, .ref y)] := hl
  have iX9 := jX9_fault_X9
  refine lv_aload_n S.1 S.2.1 dX9_fault_0 rfl (lv_at hl 0 rfl) ?_
  refine lv_iconst (v := (0)) S.1 S.2.1 dX9_fault_1 (by decide) ?_
  refine b_put (v := .int 0) S iX9 tyX9 tyX9_ok nmX9 hK hP hD hS 0 rfl rfl 0 (by decide) (by decide +kernel) rfl rfl rfl (Nat.le_of_ble_eq_true rfl) dX9_fault_2 (fun H locs hP hD hS => ?_)
  have hP : va_P D vwCl [(y, .inr (9, [.int 0, .int m_status, .ref y_lane, .ref y_many, .ref y_item, .ref y_city, .ref y_fresh, .int m_isThere, .ref y_tape, .int m_taped, .int m_latest, .int m_length, .int m_cursor, .int m_token, .int m_start, .int m_till, .int m_fault, .int m_faultAt, .int m_seen, .int m_mirrors, .ref y_cost, .ref y_away, .ref y_fee, .ref y_goesTo, .ref y_priceWas, .ref y_isKept, .ref y_kept, .ref y_trace, .int m_traced]))] H := hP
  have hD : va_D A [(y, .inr (9, [.int 0, .int m_status, .ref y_lane, .ref y_many, .ref y_item, .ref y_city, .ref y_fresh, .int m_isThere, .ref y_tape, .int m_taped, .int m_latest, .int m_length, .int m_cursor, .int m_token, .int m_start, .int m_till, .int m_fault, .int m_faultAt, .int m_seen, .int m_mirrors, .ref y_cost, .ref y_away, .ref y_fee, .ref y_goesTo, .ref y_priceWas, .ref y_isKept, .ref y_kept, .ref y_trace, .int m_traced]))] := hD
  refine lv_aload_n S.1 S.2.1 dX9_fault_5 rfl (lv_at hl 0 rfl) ?_
  refine b_get (v := .int m_latest) S iX9 hK hP 0 rfl rfl 10 (by decide) (by decide +kernel) rfl dX9_fault_6 ?_
  exact b_iret S.1 S.2.1 X.2.1 X.2.2.1 hP hD hS ⟨rfl, rfl⟩ dX9_fault_9
set_option maxHeartbeats 4000000 in
set_option maxRecDepth 100000 in
theorem s_X9_status (l : Launch) (D : va_G) (cI cZ cC cS : ClassId) (sq : Nat → Nat) (sz : Nat) (y : Nat) (m_thrown : Int32) (m_status : Int32) (y_lane : Nat) (y_many : Nat) (y_item : Nat) (y_city : Nat) (y_fresh : Nat) (m_isThere : Int32) (y_tape : Nat) (m_taped : Int32) (m_latest : Int32) (m_length : Int32) (m_cursor : Int32) (m_token : Int32) (m_start : Int32) (m_till : Int32) (m_fault : Int32) (m_faultAt : Int32) (m_seen : Int32) (m_mirrors : Int32) (y_cost : Nat) (y_away : Nat) (y_fee : Nat) (y_goesTo : Nat) (y_priceWas : Nat) (y_isKept : Nat) (y_kept : Nat) (y_trace : Nat) (m_traced : Int32) : mI l yX9_status wsX9_status 50 2000 D (tyW cI cZ cC cS) sq [(y, .inr (9, [.int m_thrown, .int m_status, .ref y_lane, .ref y_many, .ref y_item, .ref y_city, .ref y_fresh, .int m_isThere, .ref y_tape, .int m_taped, .int m_latest, .int m_length, .int m_cursor, .int m_token, .int m_start, .int m_till, .int m_fault, .int m_faultAt, .int m_seen, .int m_mirrors, .ref y_cost, .ref y_away, .ref y_fee, .ref y_goesTo, .ref y_priceWas, .ref y_isKept, .ref y_kept, .ref y_trace, .int m_traced]))] sz [.ref y] (fun r w => (r = m_status ∧ w = [(y, .inr (9, [.int 0, .int m_status, .ref y_lane, .ref y_many, .ref y_item, .ref y_city, .ref y_fresh, .int m_isThere, .ref y_tape, .int m_taped, .int m_latest, .int m_length, .int m_cursor, .int m_token, .int m_start, .int m_till, .int m_fault, .int m_faultAt, .int m_seen, .int m_mirrors, .ref y_cost, .ref y_away, .ref y_fee, .ref y_goesTo, .ref y_priceWas, .ref y_isKept, .ref y_kept, .ref y_trace, .int m_traced]))])) := by
  refine b_metI (cc := cX9_status) (maxL := 1) (ret := (some .int)) (by decide) rfl (Nat.le_of_ble_eq_true rfl) ?_
  intro p e s m below meth c ls A H X hsz hP hK hT hD hA hS hl
  have S : CallFix p m c cX9_status 1 s ([.ref y] : List Value).toArray wsX9_status RX9 := X.1
  have hl : lv_has ls 1 [(0, .ref y)] := hl
  have iX9 := jX9_status_X9
  refine lv_aload_n S.1 S.2.1 dX9_status_0 rfl (lv_at hl 0 rfl) ?_
  refine lv_iconst (v := (0)) S.1 S.2.1 dX9_status_1 (by decide) ?_
  refine b_put (v := .int 0) S iX9 tyX9 tyX9_ok nmX9 hK hP hD hS 0 rfl rfl 0 (by decide) (by decide +kernel) rfl rfl rfl (Nat.le_of_ble_eq_true rfl) dX9_status_2 (fun H locs hP hD hS => ?_)
  have hP : va_P D vwCl [(y, .inr (9, [.int 0, .int m_status, .ref y_lane, .ref y_many, .ref y_item, .ref y_city, .ref y_fresh, .int m_isThere, .ref y_tape, .int m_taped, .int m_latest, .int m_length, .int m_cursor, .int m_token, .int m_start, .int m_till, .int m_fault, .int m_faultAt, .int m_seen, .int m_mirrors, .ref y_cost, .ref y_away, .ref y_fee, .ref y_goesTo, .ref y_priceWas, .ref y_isKept, .ref y_kept, .ref y_trace, .int m_traced]))] H := hP
  have hD : va_D A [(y, .inr (9, [.int 0, .int m_status, .ref y_lane, .ref y_many, .ref y_item, .ref y_city, .ref y_fresh, .int m_isThere, .ref y_tape, .int m_taped, .int m_latest, .int m_length, .int m_cursor, .int m_token, .int m_start, .int m_till, .int m_fault, .int m_faultAt, .int m_seen, .int m_mirrors, .ref y_cost, .ref y_away, .ref y_fee, .ref y_goesTo, .ref y_priceWas, .ref y_isKept, .ref y_kept, .ref y_trace, .int m_traced]))] := hD
  refine lv_aload_n S.1 S.2.1 dX9_status_5 rfl (lv_at hl 0 rfl) ?_
  refine b_get (v := .int m_status) S iX9 hK hP 0 rfl rfl 1 (by decide) (by decide +kernel) rfl dX9_status_6 ?_
  exact b_iret S.1 S.2.1 X.2.1 X.2.2.1 hP hD hS ⟨rfl, rfl⟩ dX9_status_9
set_option maxHeartbeats 4000000 in
set_option maxRecDepth 100000 in
theorem s_X9_look (l : Launch) (D : va_G) (cI cZ cC cS : ClassId) (sq : Nat → Nat) (sz : Nat) (y : Nat) (y_city : Nat) (k : Int32) (wy : Int32) (wa : Int32) (m_thrown : Int32) (m_status : Int32) (y_lane : Nat) (y_many : Nat) (y_item : Nat) (y_fresh : Nat) (m_isThere : Int32) (y_tape : Nat) (m_taped : Int32) (m_latest : Int32) (m_length : Int32) (m_cursor : Int32) (m_token : Int32) (m_start : Int32) (m_till : Int32) (m_fault : Int32) (m_faultAt : Int32) (m_seen : Int32) (m_mirrors : Int32) (y_cost : Nat) (y_away : Nat) (y_fee : Nat) (y_goesTo : Nat) (y_priceWas : Nat) (y_isKept : Nat) (y_kept : Nat) (y_trace : Nat) (m_traced : Int32) (cy : Nat → Int32) (hpd_cy : prd cyK 192 cy) (hsm : -1 ≤ m_seen.toInt ∧ m_seen.toInt < 80 ∧ 0 ≤ m_mirrors.toInt ∧ m_mirrors.toInt ≤ 2) : mI l yX9_look wsX9_look 50 2000 D (tyW cI cZ cC cS) sq [(y, .inr (9, [.int m_thrown, .int m_status, .ref y_lane, .ref y_many, .ref y_item, .ref y_city, .ref y_fresh, .int m_isThere, .ref y_tape, .int m_taped, .int m_latest, .int m_length, .int m_cursor, .int m_token, .int m_start, .int m_till, .int m_fault, .int m_faultAt, .int m_seen, .int m_mirrors, .ref y_cost, .ref y_away, .ref y_fee, .ref y_goesTo, .ref y_priceWas, .ref y_isKept, .ref y_kept, .ref y_trace, .int m_traced])), (y_city, .inl (cI, 192, .inl cy))] sz [.ref y, .int k, .int wy, .int wa] (fun r w => (∃ (m_seen2 : Int32), ∃ (m_mirrors2 : Int32), (-1 ≤ m_seen2.toInt ∧ m_seen2.toInt < 80 ∧ 0 ≤ m_mirrors2.toInt ∧ m_mirrors2.toInt ≤ 2) ∧ w = [(y, .inr (9, [.int 0, .int m_status, .ref y_lane, .ref y_many, .ref y_item, .ref y_city, .ref y_fresh, .int m_isThere, .ref y_tape, .int m_taped, .int m_latest, .int m_length, .int m_cursor, .int m_token, .int m_start, .int m_till, .int m_fault, .int m_faultAt, .int m_seen2, .int m_mirrors2, .ref y_cost, .ref y_away, .ref y_fee, .ref y_goesTo, .ref y_priceWas, .ref y_isKept, .ref y_kept, .ref y_trace, .int m_traced])), (y_city, .inl (cI, 192, .inl cy))])) := by
  refine b_metI (cc := cX9_look) (maxL := 4) (ret := (some .int)) (by decide) rfl (Nat.le_of_ble_eq_true rfl) ?_
  intro p e s m below meth c ls A H X hsz hP hK hT hD hA hS hl
  have S : CallFix p m c cX9_look 4 s ([.ref y, .int k, .int wy, .int wa] : List Value).toArray wsX9_look RX9 := X.1
  have hl : lv_has ls 4 [(0, .ref y), (1, .int k), (2, .int wy), (3, .int wa)] := hl
  have iX9 := jX9_look_X9
  refine lv_aload_n S.1 S.2.1 dX9_look_0 rfl (lv_at hl 0 rfl) ?_
  refine lv_iconst (v := (0)) S.1 S.2.1 dX9_look_1 (by decide) ?_
  refine b_put (v := .int 0) S iX9 tyX9 tyX9_ok nmX9 hK hP hD hS 0 rfl rfl 0 (by decide) (by decide +kernel) rfl rfl rfl (Nat.le_of_ble_eq_true rfl) dX9_look_2 (fun H locs hP hD hS => ?_)
  have hP : va_P D vwCl [(y, .inr (9, [.int 0, .int m_status, .ref y_lane, .ref y_many, .ref y_item, .ref y_city, .ref y_fresh, .int m_isThere, .ref y_tape, .int m_taped, .int m_latest, .int m_length, .int m_cursor, .int m_token, .int m_start, .int m_till, .int m_fault, .int m_faultAt, .int m_seen, .int m_mirrors, .ref y_cost, .ref y_away, .ref y_fee, .ref y_goesTo, .ref y_priceWas, .ref y_isKept, .ref y_kept, .ref y_trace, .int m_traced])), (y_city, .inl (cI, 192, .inl cy))] H := hP
  have hD : va_D A [(y, .inr (9, [.int 0, .int m_status, .ref y_lane, .ref y_many, .ref y_item, .ref y_city, .ref y_fresh, .int m_isThere, .ref y_tape, .int m_taped, .int m_latest, .int m_length, .int m_cursor, .int m_token, .int m_start, .int m_till, .int m_fault, .int m_faultAt, .int m_seen, .int m_mirrors, .ref y_cost, .ref y_away, .ref y_fee, .ref y_goesTo, .ref y_priceWas, .ref y_isKept, .ref y_kept, .ref y_trace, .int m_traced])), (y_city, .inl (cI, 192, .inl cy))] := hD
  refine lv_aload_n S.1 S.2.1 dX9_look_5 rfl (lv_at hl 0 rfl) ?_
  refine lv_iload_n S.1 S.2.1 dX9_look_6 rfl (lv_at hl 1 rfl) ?_
  refine b_ai (wr := []) (b_runV (q0 := 0) (ci := 9) (As := [.int k]) (s_X9_isOpen l D cI cZ cC cS sq H.size y y_city k (0) m_status y_lane y_many y_item y_fresh m_isThere y_tape m_taped m_latest m_length m_cursor m_token m_start m_till m_fault m_faultAt m_seen m_mirrors y_cost y_away y_fee y_goesTo y_priceWas y_isKept y_kept y_trace m_traced cy (by first | assumption | omega | decide | (rw [show Int32.toInt 0 = 0 from rfl]; omega))) S gX9_look_X9_isOpen rfl hdV_X9_isOpen ⟨Nat.le_of_ble_eq_true rfl, Nat.le_of_ble_eq_true rfl⟩ ⟨Nat.le_of_ble_eq_true rfl, Nat.le_of_ble_eq_true rfl⟩ hK hT hS hA hP hD rfl rfl [0, 1] rfl (by decide) rfl hl.1 rfl (Nat.le_of_ble_eq_true rfl) dX9_look_7) hP hD hS hA [0, 1] [] rfl rfl (by decide) (by decide) (fun r_1 w_2 H locs hw_3 hP hD hS => ?_)
  rcases hw_3 with ⟨hf_4, hf_5, rfl, rfl⟩ | ⟨hf_6, rfl, rfl⟩
  · have hP : va_P D vwCl [(y, .inr (9, [.int 0, .int m_status, .ref y_lane, .ref y_many, .ref y_item, .ref y_city, .ref y_fresh, .int m_isThere, .ref y_tape, .int m_taped, .int m_latest, .int m_length, .int m_cursor, .int m_token, .int m_start, .int m_till, .int m_fault, .int m_faultAt, .int m_seen, .int m_mirrors, .ref y_cost, .ref y_away, .ref y_fee, .ref y_goesTo, .ref y_priceWas, .ref y_isKept, .ref y_kept, .ref y_trace, .int m_traced])), (y_city, .inl (cI, 192, .inl cy))] H := hP
    have hD : va_D A [(y, .inr (9, [.int 0, .int m_status, .ref y_lane, .ref y_many, .ref y_item, .ref y_city, .ref y_fresh, .int m_isThere, .ref y_tape, .int m_taped, .int m_latest, .int m_length, .int m_cursor, .int m_token, .int m_start, .int m_till, .int m_fault, .int m_faultAt, .int m_seen, .int m_mirrors, .ref y_cost, .ref y_away, .ref y_fee, .ref y_goesTo, .ref y_priceWas, .ref y_isKept, .ref y_kept, .ref y_trace, .int m_traced])), (y_city, .inl (cI, 192, .inl cy))] := hD
    refine lv_if_eq (tgt := 32) S.1 S.2.1 dX9_look_10 (by decide) (fun c_7 => absurd c_7 (by decide)) (fun c_7 => ?_)
    refine lv_iload_n S.1 S.2.1 dX9_look_13 rfl (lv_at hl 2 rfl) ?_
    refine b_ai (wr := [(y, .inr (9, [.int 0, .int m_status, .ref y_lane, .ref y_many, .ref y_item, .ref y_city, .ref y_fresh, .int m_isThere, .ref y_tape, .int m_taped, .int m_latest, .int m_length, .int m_cursor, .int m_token, .int m_start, .int m_till, .int m_fault, .int m_faultAt, .int m_seen, .int m_mirrors, .ref y_cost, .ref y_away, .ref y_fee, .ref y_goesTo, .ref y_priceWas, .ref y_isKept, .ref y_kept, .ref y_trace, .int m_traced])), (y_city, .inl (cI, 192, .inl cy))]) (b_runS (As := [.int wy]) (s_X9_isWay l D cI cZ cC cS sq H.size wy) S gX9_look_X9_isWay rfl hdS_X9_isWay ⟨Nat.le_of_ble_eq_true rfl, Nat.le_of_ble_eq_true rfl⟩ ⟨Nat.le_of_ble_eq_true rfl, Nat.le_of_ble_eq_true rfl⟩ hK hT hS hA hP hD [] rfl (by decide) rfl hl.1 rfl (Nat.le_of_ble_eq_true rfl) dX9_look_14) hP hD hS hA [] [0, 1] rfl rfl (by decide) (by decide) (fun r_8 w_9 H locs hw_10 hP hD hS => ?_)
    rcases hw_10 with ⟨hf_11, rfl, rfl⟩ | ⟨hf_12, rfl, rfl⟩
    · have hP : va_P D vwCl [(y, .inr (9, [.int 0, .int m_status, .ref y_lane, .ref y_many, .ref y_item, .ref y_city, .ref y_fresh, .int m_isThere, .ref y_tape, .int m_taped, .int m_latest, .int m_length, .int m_cursor, .int m_token, .int m_start, .int m_till, .int m_fault, .int m_faultAt, .int m_seen, .int m_mirrors, .ref y_cost, .ref y_away, .ref y_fee, .ref y_goesTo, .ref y_priceWas, .ref y_isKept, .ref y_kept, .ref y_trace, .int m_traced])), (y_city, .inl (cI, 192, .inl cy))] H := hP
      have hD : va_D A [(y, .inr (9, [.int 0, .int m_status, .ref y_lane, .ref y_many, .ref y_item, .ref y_city, .ref y_fresh, .int m_isThere, .ref y_tape, .int m_taped, .int m_latest, .int m_length, .int m_cursor, .int m_token, .int m_start, .int m_till, .int m_fault, .int m_faultAt, .int m_seen, .int m_mirrors, .ref y_cost, .ref y_away, .ref y_fee, .ref y_goesTo, .ref y_priceWas, .ref y_isKept, .ref y_kept, .ref y_trace, .int m_traced])), (y_city, .inl (cI, 192, .inl cy))] := hD
      refine lv_if_eq (tgt := 32) S.1 S.2.1 dX9_look_17 (by decide) (fun c_13 => absurd c_13 (by decide)) (fun c_13 => ?_)
      refine lv_iload_n S.1 S.2.1 dX9_look_20 rfl (lv_at hl 3 rfl) ?_
      refine lv_i2l (v := wa.toInt64) S.1 S.2.1 dX9_look_21 rfl ?_
      refine lv_lconst (v := 0) S.1 S.2.1 dX9_look_22 (by decide) ?_
      refine lv_ldc2 (v := (2)) S.1 S.2.1 S.2.2.2.1 (S.2.2.2.2 (.constantLong RX9 71 (2)) (by decide +kernel)) dX9_look_23 ?_
      refine b_ai (wr := [(y, .inr (9, [.int 0, .int m_status, .ref y_lane, .ref y_many, .ref y_item, .ref y_city, .ref y_fresh, .int m_isThere, .ref y_tape, .int m_taped, .int m_latest, .int m_length, .int m_cursor, .int m_token, .int m_start, .int m_till, .int m_fault, .int m_faultAt, .int m_seen, .int m_mirrors, .ref y_cost, .ref y_away, .ref y_fee, .ref y_goesTo, .ref y_priceWas, .ref y_isKept, .ref y_kept, .ref y_trace, .int m_traced])), (y_city, .inl (cI, 192, .inl cy))]) (b_runS (As := [.long (wa.toInt64), .long 0, .long 2]) (s_X9_in l D cI cZ cC cS sq H.size (wa.toInt64) (0) (2)) S gX9_look_X9_in rfl hdS_X9_in ⟨Nat.le_of_ble_eq_true rfl, Nat.le_of_ble_eq_true rfl⟩ ⟨Nat.le_of_ble_eq_true rfl, Nat.le_of_ble_eq_true rfl⟩ hK hT hS hA hP hD [] rfl (by decide) rfl hl.1 rfl (Nat.le_of_ble_eq_true rfl) dX9_look_26) hP hD hS hA [] [0, 1] rfl rfl (by decide) (by decide) (fun r_14 w_15 H locs hw_16 hP hD hS => ?_)
      rcases hw_16 with ⟨hf_17, rfl, rfl⟩ | ⟨hf_18, rfl, rfl⟩
      · have hf_17 : (0) ≤ wa.toInt ∧ wa.toInt ≤ (2) := by simp only [Int32.toInt_toInt64] at hf_17; exact hf_17
        have hP : va_P D vwCl [(y, .inr (9, [.int 0, .int m_status, .ref y_lane, .ref y_many, .ref y_item, .ref y_city, .ref y_fresh, .int m_isThere, .ref y_tape, .int m_taped, .int m_latest, .int m_length, .int m_cursor, .int m_token, .int m_start, .int m_till, .int m_fault, .int m_faultAt, .int m_seen, .int m_mirrors, .ref y_cost, .ref y_away, .ref y_fee, .ref y_goesTo, .ref y_priceWas, .ref y_isKept, .ref y_kept, .ref y_trace, .int m_traced])), (y_city, .inl (cI, 192, .inl cy))] H := hP
        have hD : va_D A [(y, .inr (9, [.int 0, .int m_status, .ref y_lane, .ref y_many, .ref y_item, .ref y_city, .ref y_fresh, .int m_isThere, .ref y_tape, .int m_taped, .int m_latest, .int m_length, .int m_cursor, .int m_token, .int m_start, .int m_till, .int m_fault, .int m_faultAt, .int m_seen, .int m_mirrors, .ref y_cost, .ref y_away, .ref y_fee, .ref y_goesTo, .ref y_priceWas, .ref y_isKept, .ref y_kept, .ref y_trace, .int m_traced])), (y_city, .inl (cI, 192, .inl cy))] := hD
        refine lv_if_ne (tgt := 35) S.1 S.2.1 dX9_look_29 (by decide) (fun c_19 => ?_) (fun c_19 => absurd c_19 (by decide))
        refine lv_aload_n S.1 S.2.1 dX9_look_35 rfl (lv_at hl 0 rfl) ?_
        refine lv_iload_n S.1 S.2.1 dX9_look_36 rfl (lv_at hl 1 rfl) ?_
        refine lv_iload_n S.1 S.2.1 dX9_look_37 rfl (lv_at hl 2 rfl) ?_
        refine b_av (wr := []) (b_runV (q0 := 0) (ci := 9) (As := [.int k, .int wy]) (s_X9_lookFrom l D cI cZ cC cS sq H.size y y_city k wy (0) m_status y_lane y_many y_item y_fresh m_isThere y_tape m_taped m_latest m_length m_cursor m_token m_start m_till m_fault m_faultAt m_seen m_mirrors y_cost y_away y_fee y_goesTo y_priceWas y_isKept y_kept y_trace m_traced cy (by first | assumption | omega | decide | (rw [show Int32.toInt 0 = 0 from rfl]; omega)) (by first | assumption | omega | decide | (rw [show Int32.toInt 0 = 0 from rfl]; omega)) (by first | assumption | omega | decide | (rw [show Int32.toInt 0 = 0 from rfl]; omega))) S gX9_look_X9_lookFrom rfl hdV_X9_lookFrom ⟨Nat.le_of_ble_eq_true rfl, Nat.le_of_ble_eq_true rfl⟩ ⟨Nat.le_of_ble_eq_true rfl, Nat.le_of_ble_eq_true rfl⟩ hK hT hS hA hP hD rfl rfl [0, 1] rfl (by decide) rfl hl.1 rfl (Nat.le_of_ble_eq_true rfl) dX9_look_38) hP hD hS hA [0, 1] [] rfl rfl (by decide) (by decide) (fun w_21 H locs hw_22 hP hD hS => ?_)
        obtain ⟨m_seen2_23, m_mirrors2_24, hf_25, rfl⟩ := hw_22
        have hP : va_P D vwCl [(y, .inr (9, [.int 0, .int m_status, .ref y_lane, .ref y_many, .ref y_item, .ref y_city, .ref y_fresh, .int m_isThere, .ref y_tape, .int m_taped, .int m_latest, .int m_length, .int m_cursor, .int m_token, .int m_start, .int m_till, .int m_fault, .int m_faultAt, .int m_seen2_23, .int m_mirrors2_24, .ref y_cost, .ref y_away, .ref y_fee, .ref y_goesTo, .ref y_priceWas, .ref y_isKept, .ref y_kept, .ref y_trace, .int m_traced])), (y_city, .inl (cI, 192, .inl cy))] H := hP
        have hD : va_D A [(y, .inr (9, [.int 0, .int m_status, .ref y_lane, .ref y_many, .ref y_item, .ref y_city, .ref y_fresh, .int m_isThere, .ref y_tape, .int m_taped, .int m_latest, .int m_length, .int m_cursor, .int m_token, .int m_start, .int m_till, .int m_fault, .int m_faultAt, .int m_seen2_23, .int m_mirrors2_24, .ref y_cost, .ref y_away, .ref y_fee, .ref y_goesTo, .ref y_priceWas, .ref y_isKept, .ref y_kept, .ref y_trace, .int m_traced])), (y_city, .inl (cI, 192, .inl cy))] := hD
        refine lv_iload_n S.1 S.2.1 dX9_look_41 rfl (lv_at hl 3 rfl) ?_
        refine lv_if_ne (tgt := 64) S.1 S.2.1 dX9_look_42 (by decide) (fun c_26 => ?_) (fun c_26 => ?_)
        · rw [eq2 (a := wa) (b := 0) (A := wa.toInt) (B := 0) rfl rfl] at c_26
          refine lv_iload_n S.1 S.2.1 dX9_look_64 rfl (lv_at hl 3 rfl) ?_
          refine lv_iconst (v := (1)) S.1 S.2.1 dX9_look_65 (by decide) ?_
          refine lv_icmp_ne (tgt := 76) S.1 S.2.1 dX9_look_66 (by decide) (fun c_27 => ?_) (fun c_27 => ?_)
          · rw [eq2 (a := wa) (b := 1) (A := wa.toInt) (B := 1) rfl rfl] at c_27
            refine lv_aload_n S.1 S.2.1 dX9_look_76 rfl (lv_at hl 0 rfl) ?_
            refine b_get (v := .int m_mirrors2_24) S iX9 hK hP 0 rfl rfl 19 (by decide) (by decide +kernel) rfl dX9_look_77 ?_
            exact b_iret S.1 S.2.1 X.2.1 X.2.2.1 hP hD hS ⟨m_seen2_23, m_mirrors2_24, (by first | assumption | omega | decide | (rw [show Int32.toInt 0 = 0 from rfl]; omega)), rfl⟩ dX9_look_80
          · rw [eq2 (a := wa) (b := 1) (A := wa.toInt) (B := 1) rfl rfl] at c_27
            refine lv_aload_n S.1 S.2.1 dX9_look_69 rfl (lv_at hl 0 rfl) ?_
            refine b_ai (wr := []) (b_runV (q0 := 0) (ci := 9) (As := []) (s_X9_priceSeen l D cI cZ cC cS sq H.size y y_city (0) m_status y_lane y_many y_item y_fresh m_isThere y_tape m_taped m_latest m_length m_cursor m_token m_start m_till m_fault m_faultAt m_seen2_23 m_mirrors2_24 y_cost y_away y_fee y_goesTo y_priceWas y_isKept y_kept y_trace m_traced cy (by first | assumption | omega | decide | (rw [show Int32.toInt 0 = 0 from rfl]; omega)) (by first | assumption | omega | decide | (rw [show Int32.toInt 0 = 0 from rfl]; omega))) S gX9_look_X9_priceSeen rfl hdV_X9_priceSeen ⟨Nat.le_of_ble_eq_true rfl, Nat.le_of_ble_eq_true rfl⟩ ⟨Nat.le_of_ble_eq_true rfl, Nat.le_of_ble_eq_true rfl⟩ hK hT hS hA hP hD rfl rfl [0, 1] rfl (by decide) rfl hl.1 rfl (Nat.le_of_ble_eq_true rfl) dX9_look_70) hP hD hS hA [0, 1] [] rfl rfl (by decide) (by decide) (fun r_28 w_29 H locs hw_30 hP hD hS => ?_)
            obtain ⟨hf_31, rfl⟩ := hw_30
            have hP : va_P D vwCl [(y, .inr (9, [.int 0, .int m_status, .ref y_lane, .ref y_many, .ref y_item, .ref y_city, .ref y_fresh, .int m_isThere, .ref y_tape, .int m_taped, .int m_latest, .int m_length, .int m_cursor, .int m_token, .int m_start, .int m_till, .int m_fault, .int m_faultAt, .int m_seen2_23, .int m_mirrors2_24, .ref y_cost, .ref y_away, .ref y_fee, .ref y_goesTo, .ref y_priceWas, .ref y_isKept, .ref y_kept, .ref y_trace, .int m_traced])), (y_city, .inl (cI, 192, .inl cy))] H := hP
            have hD : va_D A [(y, .inr (9, [.int 0, .int m_status, .ref y_lane, .ref y_many, .ref y_item, .ref y_city, .ref y_fresh, .int m_isThere, .ref y_tape, .int m_taped, .int m_latest, .int m_length, .int m_cursor, .int m_token, .int m_start, .int m_till, .int m_fault, .int m_faultAt, .int m_seen2_23, .int m_mirrors2_24, .ref y_cost, .ref y_away, .ref y_fee, .ref y_goesTo, .ref y_priceWas, .ref y_isKept, .ref y_kept, .ref y_trace, .int m_traced])), (y_city, .inl (cI, 192, .inl cy))] := hD
            refine lv_goto (tgt := 80) S.1 S.2.1 dX9_look_73 (by decide) ?_
            exact b_iret S.1 S.2.1 X.2.1 X.2.2.1 hP hD hS ⟨m_seen2_23, m_mirrors2_24, (by first | assumption | omega | decide | (rw [show Int32.toInt 0 = 0 from rfl]; omega)), rfl⟩ dX9_look_80
        · rw [eq2 (a := wa) (b := 0) (A := wa.toInt) (B := 0) rfl rfl] at c_26
          refine lv_aload_n S.1 S.2.1 dX9_look_45 rfl (lv_at hl 0 rfl) ?_
          refine b_get (v := .int m_seen2_23) S iX9 hK hP 0 rfl rfl 18 (by decide) (by decide +kernel) rfl dX9_look_46 ?_
          refine lv_if_ge (tgt := 57) S.1 S.2.1 dX9_look_49 (by decide) (fun c_32 => ?_) (fun c_32 => ?_)
          · rw [le2 (a := 0) (b := m_seen2_23) (A := 0) (B := m_seen2_23.toInt) rfl rfl] at c_32
            refine lv_aload_n S.1 S.2.1 dX9_look_57 rfl (lv_at hl 0 rfl) ?_
            refine b_get (v := .int m_seen2_23) S iX9 hK hP 0 rfl rfl 18 (by decide) (by decide +kernel) rfl dX9_look_58 ?_
            refine lv_goto (tgt := 80) S.1 S.2.1 dX9_look_61 (by decide) ?_
            exact b_iret S.1 S.2.1 X.2.1 X.2.2.1 hP hD hS ⟨m_seen2_23, m_mirrors2_24, (by first | assumption | omega | decide | (rw [show Int32.toInt 0 = 0 from rfl]; omega)), rfl⟩ dX9_look_80
          · rw [le2 (a := 0) (b := m_seen2_23) (A := 0) (B := m_seen2_23.toInt) rfl rfl] at c_32
            refine lv_ldc (v := (-1000000)) S.1 S.2.1 S.2.2.2.1 (S.2.2.2.2 (.constant RX9 89 (-1000000)) (by decide +kernel)) dX9_look_52 ?_
            refine lv_goto (tgt := 80) S.1 S.2.1 dX9_look_54 (by decide) ?_
            have lqm1000000 : Int32.toInt (-1000000) = -1000000 := by decide
            exact b_iret S.1 S.2.1 X.2.1 X.2.2.1 hP hD hS ⟨m_seen2_23, m_mirrors2_24, (by first | assumption | omega | decide | (rw [show Int32.toInt 0 = 0 from rfl]; omega)), rfl⟩ dX9_look_80
      · have hf_18 : wa.toInt < (0) ∨ (2) < wa.toInt := by simp only [Int32.toInt_toInt64] at hf_18; exact hf_18
        have hP : va_P D vwCl [(y, .inr (9, [.int 0, .int m_status, .ref y_lane, .ref y_many, .ref y_item, .ref y_city, .ref y_fresh, .int m_isThere, .ref y_tape, .int m_taped, .int m_latest, .int m_length, .int m_cursor, .int m_token, .int m_start, .int m_till, .int m_fault, .int m_faultAt, .int m_seen, .int m_mirrors, .ref y_cost, .ref y_away, .ref y_fee, .ref y_goesTo, .ref y_priceWas, .ref y_isKept, .ref y_kept, .ref y_trace, .int m_traced])), (y_city, .inl (cI, 192, .inl cy))] H := hP
        have hD : va_D A [(y, .inr (9, [.int 0, .int m_status, .ref y_lane, .ref y_many, .ref y_item, .ref y_city, .ref y_fresh, .int m_isThere, .ref y_tape, .int m_taped, .int m_latest, .int m_length, .int m_cursor, .int m_token, .int m_start, .int m_till, .int m_fault, .int m_faultAt, .int m_seen, .int m_mirrors, .ref y_cost, .ref y_away, .ref y_fee, .ref y_goesTo, .ref y_priceWas, .ref y_isKept, .ref y_kept, .ref y_trace, .int m_traced])), (y_city, .inl (cI, 192, .inl cy))] := hD
        refine lv_if_ne (tgt := 35) S.1 S.2.1 dX9_look_29 (by decide) (fun c_33 => absurd c_33 (by decide)) (fun c_33 => ?_)
        refine lv_ldc (v := (-1000001)) S.1 S.2.1 S.2.2.2.1 (S.2.2.2.2 (.constant RX9 73 (-1000001)) (by decide +kernel)) dX9_look_32 ?_
        have lqm1000001 : Int32.toInt (-1000001) = -1000001 := by decide
        exact b_iret S.1 S.2.1 X.2.1 X.2.2.1 hP hD hS ⟨m_seen, m_mirrors, (by first | assumption | omega | decide | (rw [show Int32.toInt 0 = 0 from rfl]; omega)), rfl⟩ dX9_look_34
    · have hP : va_P D vwCl [(y, .inr (9, [.int 0, .int m_status, .ref y_lane, .ref y_many, .ref y_item, .ref y_city, .ref y_fresh, .int m_isThere, .ref y_tape, .int m_taped, .int m_latest, .int m_length, .int m_cursor, .int m_token, .int m_start, .int m_till, .int m_fault, .int m_faultAt, .int m_seen, .int m_mirrors, .ref y_cost, .ref y_away, .ref y_fee, .ref y_goesTo, .ref y_priceWas, .ref y_isKept, .ref y_kept, .ref y_trace, .int m_traced])), (y_city, .inl (cI, 192, .inl cy))] H := hP
      have hD : va_D A [(y, .inr (9, [.int 0, .int m_status, .ref y_lane, .ref y_many, .ref y_item, .ref y_city, .ref y_fresh, .int m_isThere, .ref y_tape, .int m_taped, .int m_latest, .int m_length, .int m_cursor, .int m_token, .int m_start, .int m_till, .int m_fault, .int m_faultAt, .int m_seen, .int m_mirrors, .ref y_cost, .ref y_away, .ref y_fee, .ref y_goesTo, .ref y_priceWas, .ref y_isKept, .ref y_kept, .ref y_trace, .int m_traced])), (y_city, .inl (cI, 192, .inl cy))] := hD
      refine lv_if_eq (tgt := 32) S.1 S.2.1 dX9_look_17 (by decide) (fun c_34 => ?_) (fun c_34 => absurd c_34 (by decide))
      refine lv_ldc (v := (-1000001)) S.1 S.2.1 S.2.2.2.1 (S.2.2.2.2 (.constant RX9 73 (-1000001)) (by decide +kernel)) dX9_look_32 ?_
      have lqm1000001 : Int32.toInt (-1000001) = -1000001 := by decide
      exact b_iret S.1 S.2.1 X.2.1 X.2.2.1 hP hD hS ⟨m_seen, m_mirrors, (by first | assumption | omega | decide | (rw [show Int32.toInt 0 = 0 from rfl]; omega)), rfl⟩ dX9_look_34
  · have hP : va_P D vwCl [(y, .inr (9, [.int 0, .int m_status, .ref y_lane, .ref y_many, .ref y_item, .ref y_city, .ref y_fresh, .int m_isThere, .ref y_tape, .int m_taped, .int m_latest, .int m_length, .int m_cursor, .int m_token, .int m_start, .int m_till, .int m_fault, .int m_faultAt, .int m_seen, .int m_mirrors, .ref y_cost, .ref y_away, .ref y_fee, .ref y_goesTo, .ref y_priceWas, .ref y_isKept, .ref y_kept, .ref y_trace, .int m_traced])), (y_city, .inl (cI, 192, .inl cy))] H := hP
    have hD : va_D A [(y, .inr (9, [.int 0, .int m_status, .ref y_lane, .ref y_many, .ref y_item, .ref y_city, .ref y_fresh, .int m_isThere, .ref y_tape, .int m_taped, .int m_latest, .int m_length, .int m_cursor, .int m_token, .int m_start, .int m_till, .int m_fault, .int m_faultAt, .int m_seen, .int m_mirrors, .ref y_cost, .ref y_away, .ref y_fee, .ref y_goesTo, .ref y_priceWas, .ref y_isKept, .ref y_kept, .ref y_trace, .int m_traced])), (y_city, .inl (cI, 192, .inl cy))] := hD
    refine lv_if_eq (tgt := 32) S.1 S.2.1 dX9_look_10 (by decide) (fun c_35 => ?_) (fun c_35 => absurd c_35 (by decide))
    refine lv_ldc (v := (-1000001)) S.1 S.2.1 S.2.2.2.1 (S.2.2.2.2 (.constant RX9 73 (-1000001)) (by decide +kernel)) dX9_look_32 ?_
    have lqm1000001 : Int32.toInt (-1000001) = -1000001 := by decide
    exact b_iret S.1 S.2.1 X.2.1 X.2.2.1 hP hD hS ⟨m_seen, m_mirrors, (by first | assumption | omega | decide | (rw [show Int32.toInt 0 = 0 from rfl]; omega)), rfl⟩ dX9_look_34
set_option maxHeartbeats 4000000 in
set_option maxRecDepth 100000 in
theorem s_X9_price (l : Launch) (D : va_G) (cI cZ cC cS : ClassId) (sq : Nat → Nat) (sz : Nat) (y : Nat) (y_city : Nat) (a : Int32) (v : Int32) (m_thrown : Int32) (m_status : Int32) (y_lane : Nat) (y_many : Nat) (y_item : Nat) (y_fresh : Nat) (m_isThere : Int32) (y_tape : Nat) (m_taped : Int32) (m_latest : Int32) (m_length : Int32) (m_cursor : Int32) (m_token : Int32) (m_start : Int32) (m_till : Int32) (m_fault : Int32) (m_faultAt : Int32) (m_seen : Int32) (m_mirrors : Int32) (y_cost : Nat) (y_away : Nat) (y_fee : Nat) (y_goesTo : Nat) (y_priceWas : Nat) (y_isKept : Nat) (y_kept : Nat) (y_trace : Nat) (m_traced : Int32) (cy : Nat → Int32) (hpd_cy : prd cyK 192 cy) : mI l yX9_price wsX9_price 50 2000 D (tyW cI cZ cC cS) sq [(y, .inr (9, [.int m_thrown, .int m_status, .ref y_lane, .ref y_many, .ref y_item, .ref y_city, .ref y_fresh, .int m_isThere, .ref y_tape, .int m_taped, .int m_latest, .int m_length, .int m_cursor, .int m_token, .int m_start, .int m_till, .int m_fault, .int m_faultAt, .int m_seen, .int m_mirrors, .ref y_cost, .ref y_away, .ref y_fee, .ref y_goesTo, .ref y_priceWas, .ref y_isKept, .ref y_kept, .ref y_trace, .int m_traced])), (y_city, .inl (cI, 192, .inl cy))] sz [.ref y, .int a, .int v] (fun r w => (∃ (cy2 : Nat → Int32), (prd cyK 192 cy2) ∧ w = [(y, .inr (9, [.int 0, .int m_status, .ref y_lane, .ref y_many, .ref y_item, .ref y_city, .ref y_fresh, .int m_isThere, .ref y_tape, .int m_taped, .int m_latest, .int m_length, .int m_cursor, .int m_token, .int m_start, .int m_till, .int m_fault, .int m_faultAt, .int m_seen, .int m_mirrors, .ref y_cost, .ref y_away, .ref y_fee, .ref y_goesTo, .ref y_priceWas, .ref y_isKept, .ref y_kept, .ref y_trace, .int m_traced])), (y_city, .inl (cI, 192, .inl cy2))])) := by
  refine b_metI (cc := cX9_price) (maxL := 4) (ret := (some .int)) (by decide) rfl (Nat.le_of_ble_eq_true rfl) ?_
  intro p e s m below meth c ls A H X hsz hP hK hT hD hA hS hl
  have S : CallFix p m c cX9_price 4 s ([.ref y, .int a, .int v] : List Value).toArray wsX9_price RX9 := X.1
  have hl : lv_has ls 4 [(0, .ref y), (1, .int a), (2, .int v)] := hl
  have iX9 := jX9_price_X9
  refine lv_aload_n S.1 S.2.1 dX9_price_0 rfl (lv_at hl 0 rfl) ?_
  refine lv_iconst (v := (0)) S.1 S.2.1 dX9_price_1 (by decide) ?_
  refine b_put (v := .int 0) S iX9 tyX9 tyX9_ok nmX9 hK hP hD hS 0 rfl rfl 0 (by decide) (by decide +kernel) rfl rfl rfl (Nat.le_of_ble_eq_true rfl) dX9_price_2 (fun H locs hP hD hS => ?_)
  have hP : va_P D vwCl [(y, .inr (9, [.int 0, .int m_status, .ref y_lane, .ref y_many, .ref y_item, .ref y_city, .ref y_fresh, .int m_isThere, .ref y_tape, .int m_taped, .int m_latest, .int m_length, .int m_cursor, .int m_token, .int m_start, .int m_till, .int m_fault, .int m_faultAt, .int m_seen, .int m_mirrors, .ref y_cost, .ref y_away, .ref y_fee, .ref y_goesTo, .ref y_priceWas, .ref y_isKept, .ref y_kept, .ref y_trace, .int m_traced])), (y_city, .inl (cI, 192, .inl cy))] H := hP
  have hD : va_D A [(y, .inr (9, [.int 0, .int m_status, .ref y_lane, .ref y_many, .ref y_item, .ref y_city, .ref y_fresh, .int m_isThere, .ref y_tape, .int m_taped, .int m_latest, .int m_length, .int m_cursor, .int m_token, .int m_start, .int m_till, .int m_fault, .int m_faultAt, .int m_seen, .int m_mirrors, .ref y_cost, .ref y_away, .ref y_fee, .ref y_goesTo, .ref y_priceWas, .ref y_isKept, .ref y_kept, .ref y_trace, .int m_traced])), (y_city, .inl (cI, 192, .inl cy))] := hD
  refine lv_aload_n S.1 S.2.1 dX9_price_5 rfl (lv_at hl 0 rfl) ?_
  refine b_get (v := .int m_isThere) S iX9 hK hP 0 rfl rfl 7 (by decide) (by decide +kernel) rfl dX9_price_6 ?_
  refine lv_if_ne (tgt := 15) S.1 S.2.1 dX9_price_9 (by decide) (fun c_1 => ?_) (fun c_1 => ?_)
  · rw [eq2 (a := m_isThere) (b := 0) (A := m_isThere.toInt) (B := 0) rfl rfl] at c_1
    refine lv_iload_n S.1 S.2.1 dX9_price_15 rfl (lv_at hl 1 rfl) ?_
    refine b_ai (wr := [(y, .inr (9, [.int 0, .int m_status, .ref y_lane, .ref y_many, .ref y_item, .ref y_city, .ref y_fresh, .int m_isThere, .ref y_tape, .int m_taped, .int m_latest, .int m_length, .int m_cursor, .int m_token, .int m_start, .int m_till, .int m_fault, .int m_faultAt, .int m_seen, .int m_mirrors, .ref y_cost, .ref y_away, .ref y_fee, .ref y_goesTo, .ref y_priceWas, .ref y_isKept, .ref y_kept, .ref y_trace, .int m_traced])), (y_city, .inl (cI, 192, .inl cy))]) (b_runS (As := [.int a]) (s_X9_isOwner l D cI cZ cC cS sq H.size a) S gX9_price_X9_isOwner rfl hdS_X9_isOwner ⟨Nat.le_of_ble_eq_true rfl, Nat.le_of_ble_eq_true rfl⟩ ⟨Nat.le_of_ble_eq_true rfl, Nat.le_of_ble_eq_true rfl⟩ hK hT hS hA hP hD [] rfl (by decide) rfl hl.1 rfl (Nat.le_of_ble_eq_true rfl) dX9_price_16) hP hD hS hA [] [0, 1] rfl rfl (by decide) (by decide) (fun r_2 w_3 H locs hw_4 hP hD hS => ?_)
    rcases hw_4 with ⟨hf_5, rfl, rfl⟩ | ⟨hf_6, rfl, rfl⟩
    · have hP : va_P D vwCl [(y, .inr (9, [.int 0, .int m_status, .ref y_lane, .ref y_many, .ref y_item, .ref y_city, .ref y_fresh, .int m_isThere, .ref y_tape, .int m_taped, .int m_latest, .int m_length, .int m_cursor, .int m_token, .int m_start, .int m_till, .int m_fault, .int m_faultAt, .int m_seen, .int m_mirrors, .ref y_cost, .ref y_away, .ref y_fee, .ref y_goesTo, .ref y_priceWas, .ref y_isKept, .ref y_kept, .ref y_trace, .int m_traced])), (y_city, .inl (cI, 192, .inl cy))] H := hP
      have hD : va_D A [(y, .inr (9, [.int 0, .int m_status, .ref y_lane, .ref y_many, .ref y_item, .ref y_city, .ref y_fresh, .int m_isThere, .ref y_tape, .int m_taped, .int m_latest, .int m_length, .int m_cursor, .int m_token, .int m_start, .int m_till, .int m_fault, .int m_faultAt, .int m_seen, .int m_mirrors, .ref y_cost, .ref y_away, .ref y_fee, .ref y_goesTo, .ref y_priceWas, .ref y_isKept, .ref y_kept, .ref y_trace, .int m_traced])), (y_city, .inl (cI, 192, .inl cy))] := hD
      refine lv_if_eq (tgt := 34) S.1 S.2.1 dX9_price_19 (by decide) (fun c_7 => absurd c_7 (by decide)) (fun c_7 => ?_)
      refine lv_iload_n S.1 S.2.1 dX9_price_22 rfl (lv_at hl 2 rfl) ?_
      refine lv_i2l (v := v.toInt64) S.1 S.2.1 dX9_price_23 rfl ?_
      refine lv_lconst (v := 0) S.1 S.2.1 dX9_price_24 (by decide) ?_
      refine lv_ldc2 (v := (99)) S.1 S.2.1 S.2.2.2.1 (S.2.2.2.2 (.constantLong RX9 237 (99)) (by decide +kernel)) dX9_price_25 ?_
      refine b_ai (wr := [(y, .inr (9, [.int 0, .int m_status, .ref y_lane, .ref y_many, .ref y_item, .ref y_city, .ref y_fresh, .int m_isThere, .ref y_tape, .int m_taped, .int m_latest, .int m_length, .int m_cursor, .int m_token, .int m_start, .int m_till, .int m_fault, .int m_faultAt, .int m_seen, .int m_mirrors, .ref y_cost, .ref y_away, .ref y_fee, .ref y_goesTo, .ref y_priceWas, .ref y_isKept, .ref y_kept, .ref y_trace, .int m_traced])), (y_city, .inl (cI, 192, .inl cy))]) (b_runS (As := [.long (v.toInt64), .long 0, .long 99]) (s_X9_in l D cI cZ cC cS sq H.size (v.toInt64) (0) (99)) S gX9_price_X9_in rfl hdS_X9_in ⟨Nat.le_of_ble_eq_true rfl, Nat.le_of_ble_eq_true rfl⟩ ⟨Nat.le_of_ble_eq_true rfl, Nat.le_of_ble_eq_true rfl⟩ hK hT hS hA hP hD [] rfl (by decide) rfl hl.1 rfl (Nat.le_of_ble_eq_true rfl) dX9_price_28) hP hD hS hA [] [0, 1] rfl rfl (by decide) (by decide) (fun r_8 w_9 H locs hw_10 hP hD hS => ?_)
      rcases hw_10 with ⟨hf_11, rfl, rfl⟩ | ⟨hf_12, rfl, rfl⟩
      · have hf_11 : (0) ≤ v.toInt ∧ v.toInt ≤ (99) := by simp only [Int32.toInt_toInt64] at hf_11; exact hf_11
        have hP : va_P D vwCl [(y, .inr (9, [.int 0, .int m_status, .ref y_lane, .ref y_many, .ref y_item, .ref y_city, .ref y_fresh, .int m_isThere, .ref y_tape, .int m_taped, .int m_latest, .int m_length, .int m_cursor, .int m_token, .int m_start, .int m_till, .int m_fault, .int m_faultAt, .int m_seen, .int m_mirrors, .ref y_cost, .ref y_away, .ref y_fee, .ref y_goesTo, .ref y_priceWas, .ref y_isKept, .ref y_kept, .ref y_trace, .int m_traced])), (y_city, .inl (cI, 192, .inl cy))] H := hP
        have hD : va_D A [(y, .inr (9, [.int 0, .int m_status, .ref y_lane, .ref y_many, .ref y_item, .ref y_city, .ref y_fresh, .int m_isThere, .ref y_tape, .int m_taped, .int m_latest, .int m_length, .int m_cursor, .int m_token, .int m_start, .int m_till, .int m_fault, .int m_faultAt, .int m_seen, .int m_mirrors, .ref y_cost, .ref y_away, .ref y_fee, .ref y_goesTo, .ref y_priceWas, .ref y_isKept, .ref y_kept, .ref y_trace, .int m_traced])), (y_city, .inl (cI, 192, .inl cy))] := hD
        refine lv_if_ne (tgt := 37) S.1 S.2.1 dX9_price_31 (by decide) (fun c_13 => ?_) (fun c_13 => absurd c_13 (by decide))
        refine lv_aload_n S.1 S.2.1 dX9_price_37 rfl (lv_at hl 0 rfl) ?_
        refine b_get (v := .ref y_city) S iX9 hK hP 0 rfl rfl 5 (by decide) (by decide +kernel) rfl dX9_price_38 ?_
        refine lv_bipush (v := (84)) S.1 S.2.1 dX9_price_41 (by decide) ?_
        refine lv_iload_n S.1 S.2.1 dX9_price_43 rfl (lv_at hl 1 rfl) ?_
        refine lv_iadd S.1 S.2.1 dX9_price_44 ?_
        refine lv_topi (fun x_14 ex_14 => ?_)
        have tx_14 : x_14.toInt = 84 + (a.toInt) := addI (A := 84) (B := a.toInt) ex_14 rfl rfl (by omega) (by omega)
        have hin_15 : vp_in x_14 192 := (in_of (n := 192) (by omega) (by omega))
        refine va_iald S.1 S.2.1 hK.1 hP 1 0 rfl rfl hin_15 dX9_price_45 ?_
        refine lv_topi (fun x_16 ex_16 => ?_)
        have tx_16 := cyg_P (x := x_16) (show prd cyK 192 cy by assumption) (by omega) ex_16
        refine lv_istore_n (lv' := [(3, .int x_16), (0, .ref y), (1, .int a), (2, .int v)]) S.1 S.2.1 dX9_price_46 rfl hl (by decide) rfl (fun ls hl => ?_)
        refine lv_aload_n S.1 S.2.1 dX9_price_47 rfl (lv_at hl 1 rfl) ?_
        refine b_get (v := .ref y_city) S iX9 hK hP 0 rfl rfl 5 (by decide) (by decide +kernel) rfl dX9_price_48 ?_
        refine lv_bipush (v := (84)) S.1 S.2.1 dX9_price_51 (by decide) ?_
        refine lv_iload_n S.1 S.2.1 dX9_price_53 rfl (lv_at hl 2 rfl) ?_
        refine lv_iadd S.1 S.2.1 dX9_price_54 ?_
        refine lv_topi (fun x_17 ex_17 => ?_)
        have tx_17 : x_17.toInt = 84 + (a.toInt) := addI (A := 84) (B := a.toInt) ex_17 rfl rfl (by omega) (by omega)
        refine lv_iload_n S.1 S.2.1 dX9_price_55 rfl (lv_at hl 3 rfl) ?_
        refine va_iast S.1 S.2.1 hK.1 hP hD hS 1 0 rfl rfl (in_of (n := 192) (by omega) (by omega)) dX9_price_56 (fun H locs hP hD hS => ?_)
        obtain ⟨f_18, hf_18, rf_18⟩ : ∃ g, (upd cy x_17.toNatClampNeg (v)) = g ∧ prd cyK 192 g := ⟨_, rfl, cys_P (i := x_17) (v := v) (by assumption) (by omega) (show _ from by first | omega | decide)⟩
        have hP : va_P D vwCl [(y, .inr (9, [.int 0, .int m_status, .ref y_lane, .ref y_many, .ref y_item, .ref y_city, .ref y_fresh, .int m_isThere, .ref y_tape, .int m_taped, .int m_latest, .int m_length, .int m_cursor, .int m_token, .int m_start, .int m_till, .int m_fault, .int m_faultAt, .int m_seen, .int m_mirrors, .ref y_cost, .ref y_away, .ref y_fee, .ref y_goesTo, .ref y_priceWas, .ref y_isKept, .ref y_kept, .ref y_trace, .int m_traced])), (y_city, .inl (cI, 192, .inl (upd cy x_17.toNatClampNeg (v))))] H := hP
        have hD : va_D A [(y, .inr (9, [.int 0, .int m_status, .ref y_lane, .ref y_many, .ref y_item, .ref y_city, .ref y_fresh, .int m_isThere, .ref y_tape, .int m_taped, .int m_latest, .int m_length, .int m_cursor, .int m_token, .int m_start, .int m_till, .int m_fault, .int m_faultAt, .int m_seen, .int m_mirrors, .ref y_cost, .ref y_away, .ref y_fee, .ref y_goesTo, .ref y_priceWas, .ref y_isKept, .ref y_kept, .ref y_trace, .int m_traced])), (y_city, .inl (cI, 192, .inl (upd cy x_17.toNatClampNeg (v))))] := hD
        rw [hf_18] at hP hD
        refine lv_iload_n S.1 S.2.1 dX9_price_57 rfl (lv_at hl 0 rfl) ?_
        exact b_iret S.1 S.2.1 X.2.1 X.2.2.1 hP hD hS ⟨f_18, (by first | assumption | omega | decide | (rw [show Int32.toInt 0 = 0 from rfl]; omega)), rfl⟩ dX9_price_58
      · have hf_12 : v.toInt < (0) ∨ (99) < v.toInt := by simp only [Int32.toInt_toInt64] at hf_12; exact hf_12
        have hP : va_P D vwCl [(y, .inr (9, [.int 0, .int m_status, .ref y_lane, .ref y_many, .ref y_item, .ref y_city, .ref y_fresh, .int m_isThere, .ref y_tape, .int m_taped, .int m_latest, .int m_length, .int m_cursor, .int m_token, .int m_start, .int m_till, .int m_fault, .int m_faultAt, .int m_seen, .int m_mirrors, .ref y_cost, .ref y_away, .ref y_fee, .ref y_goesTo, .ref y_priceWas, .ref y_isKept, .ref y_kept, .ref y_trace, .int m_traced])), (y_city, .inl (cI, 192, .inl cy))] H := hP
        have hD : va_D A [(y, .inr (9, [.int 0, .int m_status, .ref y_lane, .ref y_many, .ref y_item, .ref y_city, .ref y_fresh, .int m_isThere, .ref y_tape, .int m_taped, .int m_latest, .int m_length, .int m_cursor, .int m_token, .int m_start, .int m_till, .int m_fault, .int m_faultAt, .int m_seen, .int m_mirrors, .ref y_cost, .ref y_away, .ref y_fee, .ref y_goesTo, .ref y_priceWas, .ref y_isKept, .ref y_kept, .ref y_trace, .int m_traced])), (y_city, .inl (cI, 192, .inl cy))] := hD
        refine lv_if_ne (tgt := 37) S.1 S.2.1 dX9_price_31 (by decide) (fun c_19 => absurd c_19 (by decide)) (fun c_19 => ?_)
        refine lv_ldc (v := (-1000001)) S.1 S.2.1 S.2.2.2.1 (S.2.2.2.2 (.constant RX9 73 (-1000001)) (by decide +kernel)) dX9_price_34 ?_
        have lqm1000001 : Int32.toInt (-1000001) = -1000001 := by decide
        exact b_iret S.1 S.2.1 X.2.1 X.2.2.1 hP hD hS ⟨cy, (by first | assumption | omega | decide | (rw [show Int32.toInt 0 = 0 from rfl]; omega)), rfl⟩ dX9_price_36
    · have hP : va_P D vwCl [(y, .inr (9, [.int 0, .int m_status, .ref y_lane, .ref y_many, .ref y_item, .ref y_city, .ref y_fresh, .int m_isThere, .ref y_tape, .int m_taped, .int m_latest, .int m_length, .int m_cursor, .int m_token, .int m_start, .int m_till, .int m_fault, .int m_faultAt, .int m_seen, .int m_mirrors, .ref y_cost, .ref y_away, .ref y_fee, .ref y_goesTo, .ref y_priceWas, .ref y_isKept, .ref y_kept, .ref y_trace, .int m_traced])), (y_city, .inl (cI, 192, .inl cy))] H := hP
      have hD : va_D A [(y, .inr (9, [.int 0, .int m_status, .ref y_lane, .ref y_many, .ref y_item, .ref y_city, .ref y_fresh, .int m_isThere, .ref y_tape, .int m_taped, .int m_latest, .int m_length, .int m_cursor, .int m_token, .int m_start, .int m_till, .int m_fault, .int m_faultAt, .int m_seen, .int m_mirrors, .ref y_cost, .ref y_away, .ref y_fee, .ref y_goesTo, .ref y_priceWas, .ref y_isKept, .ref y_kept, .ref y_trace, .int m_traced])), (y_city, .inl (cI, 192, .inl cy))] := hD
      refine lv_if_eq (tgt := 34) S.1 S.2.1 dX9_price_19 (by decide) (fun c_20 => ?_) (fun c_20 => absurd c_20 (by decide))
      refine lv_ldc (v := (-1000001)) S.1 S.2.1 S.2.2.2.1 (S.2.2.2.2 (.constant RX9 73 (-1000001)) (by decide +kernel)) dX9_price_34 ?_
      have lqm1000001 : Int32.toInt (-1000001) = -1000001 := by decide
      exact b_iret S.1 S.2.1 X.2.1 X.2.2.1 hP hD hS ⟨cy, (by first | assumption | omega | decide | (rw [show Int32.toInt 0 = 0 from rfl]; omega)), rfl⟩ dX9_price_36
  · rw [eq2 (a := m_isThere) (b := 0) (A := m_isThere.toInt) (B := 0) rfl rfl] at c_1
    refine lv_ldc (v := (-1000002)) S.1 S.2.1 S.2.2.2.1 (S.2.2.2.2 (.constant RX9 233 (-1000002)) (by decide +kernel)) dX9_price_12 ?_
    have lqm1000002 : Int32.toInt (-1000002) = -1000002 := by decide
    exact b_iret S.1 S.2.1 X.2.1 X.2.2.1 hP hD hS ⟨cy, (by first | assumption | omega | decide | (rw [show Int32.toInt 0 = 0 from rfl]; omega)), rfl⟩ dX9_price_14
set_option maxHeartbeats 4000000 in
set_option maxRecDepth 100000 in
theorem s_X9_step (l : Launch) (D : va_G) (cI cZ cC cS : ClassId) (sq : Nat → Nat) (sz : Nat) (y : Nat) (y_city : Nat) (a : Int32) (co : Int32) (m_thrown : Int32) (m_status : Int32) (y_lane : Nat) (y_many : Nat) (y_item : Nat) (y_fresh : Nat) (m_isThere : Int32) (y_tape : Nat) (m_taped : Int32) (m_latest : Int32) (m_length : Int32) (m_cursor : Int32) (m_token : Int32) (m_start : Int32) (m_till : Int32) (m_fault : Int32) (m_faultAt : Int32) (m_seen : Int32) (m_mirrors : Int32) (y_cost : Nat) (y_away : Nat) (y_fee : Nat) (y_goesTo : Nat) (y_priceWas : Nat) (y_isKept : Nat) (y_kept : Nat) (y_trace : Nat) (m_traced : Int32) (cy : Nat → Int32) (hpd_cy : prd cyK 192 cy) (hsm : -1 ≤ m_seen.toInt ∧ m_seen.toInt < 80 ∧ 0 ≤ m_mirrors.toInt ∧ m_mirrors.toInt ≤ 2) : mI l yX9_step wsX9_step 50 2000 D (tyW cI cZ cC cS) sq [(y, .inr (9, [.int m_thrown, .int m_status, .ref y_lane, .ref y_many, .ref y_item, .ref y_city, .ref y_fresh, .int m_isThere, .ref y_tape, .int m_taped, .int m_latest, .int m_length, .int m_cursor, .int m_token, .int m_start, .int m_till, .int m_fault, .int m_faultAt, .int m_seen, .int m_mirrors, .ref y_cost, .ref y_away, .ref y_fee, .ref y_goesTo, .ref y_priceWas, .ref y_isKept, .ref y_kept, .ref y_trace, .int m_traced])), (y_city, .inl (cI, 192, .inl cy))] sz [.ref y, .int a, .int co] (fun r w => (∃ (m_seen2 : Int32), ∃ (m_mirrors2 : Int32), ∃ (cy2 : Nat → Int32), (prd cyK 192 cy2) ∧ (-1 ≤ m_seen2.toInt ∧ m_seen2.toInt < 80 ∧ 0 ≤ m_mirrors2.toInt ∧ m_mirrors2.toInt ≤ 2) ∧ w = [(y, .inr (9, [.int 0, .int m_status, .ref y_lane, .ref y_many, .ref y_item, .ref y_city, .ref y_fresh, .int m_isThere, .ref y_tape, .int m_taped, .int m_latest, .int m_length, .int m_cursor, .int m_token, .int m_start, .int m_till, .int m_fault, .int m_faultAt, .int m_seen2, .int m_mirrors2, .ref y_cost, .ref y_away, .ref y_fee, .ref y_goesTo, .ref y_priceWas, .ref y_isKept, .ref y_kept, .ref y_trace, .int m_traced])), (y_city, .inl (cI, 192, .inl cy2))])) := by
  refine b_metI (cc := cX9_step) (maxL := 3) (ret := (some .int)) (by decide) rfl (Nat.le_of_ble_eq_true rfl) ?_
  intro p e s m below meth c ls A H X hsz hP hK hT hD hA hS hl
  have S : CallFix p m c cX9_step 3 s ([.ref y, .int a, .int co] : List Value).toArray wsX9_step RX9 := X.1
  have hl : lv_has ls 3 [(0, .ref y), (1, .int a), (2, .int co)] := hl
  have iX9 := jX9_step_X9
  refine lv_aload_n S.1 S.2.1 dX9_step_0 rfl (lv_at hl 0 rfl) ?_
  refine lv_iconst (v := (0)) S.1 S.2.1 dX9_step_1 (by decide) ?_
  refine b_put (v := .int 0) S iX9 tyX9 tyX9_ok nmX9 hK hP hD hS 0 rfl rfl 0 (by decide) (by decide +kernel) rfl rfl rfl (Nat.le_of_ble_eq_true rfl) dX9_step_2 (fun H locs hP hD hS => ?_)
  have hP : va_P D vwCl [(y, .inr (9, [.int 0, .int m_status, .ref y_lane, .ref y_many, .ref y_item, .ref y_city, .ref y_fresh, .int m_isThere, .ref y_tape, .int m_taped, .int m_latest, .int m_length, .int m_cursor, .int m_token, .int m_start, .int m_till, .int m_fault, .int m_faultAt, .int m_seen, .int m_mirrors, .ref y_cost, .ref y_away, .ref y_fee, .ref y_goesTo, .ref y_priceWas, .ref y_isKept, .ref y_kept, .ref y_trace, .int m_traced])), (y_city, .inl (cI, 192, .inl cy))] H := hP
  have hD : va_D A [(y, .inr (9, [.int 0, .int m_status, .ref y_lane, .ref y_many, .ref y_item, .ref y_city, .ref y_fresh, .int m_isThere, .ref y_tape, .int m_taped, .int m_latest, .int m_length, .int m_cursor, .int m_token, .int m_start, .int m_till, .int m_fault, .int m_faultAt, .int m_seen, .int m_mirrors, .ref y_cost, .ref y_away, .ref y_fee, .ref y_goesTo, .ref y_priceWas, .ref y_isKept, .ref y_kept, .ref y_trace, .int m_traced])), (y_city, .inl (cI, 192, .inl cy))] := hD
  refine lv_aload_n S.1 S.2.1 dX9_step_5 rfl (lv_at hl 0 rfl) ?_
  refine lv_iload_n S.1 S.2.1 dX9_step_6 rfl (lv_at hl 1 rfl) ?_
  refine b_ai (wr := []) (b_runV (q0 := 0) (ci := 9) (As := [.int a]) (s_X9_isOne l D cI cZ cC cS sq H.size y y_city a (0) m_status y_lane y_many y_item y_fresh m_isThere y_tape m_taped m_latest m_length m_cursor m_token m_start m_till m_fault m_faultAt m_seen m_mirrors y_cost y_away y_fee y_goesTo y_priceWas y_isKept y_kept y_trace m_traced cy (by first | assumption | omega | decide | (rw [show Int32.toInt 0 = 0 from rfl]; omega))) S gX9_step_X9_isOne rfl hdV_X9_isOne ⟨Nat.le_of_ble_eq_true rfl, Nat.le_of_ble_eq_true rfl⟩ ⟨Nat.le_of_ble_eq_true rfl, Nat.le_of_ble_eq_true rfl⟩ hK hT hS hA hP hD rfl rfl [0, 1] rfl (by decide) rfl hl.1 rfl (Nat.le_of_ble_eq_true rfl) dX9_step_7) hP hD hS hA [0, 1] [] rfl rfl (by decide) (by decide) (fun r_1 w_2 H locs hw_3 hP hD hS => ?_)
  rcases hw_3 with ⟨hf_4, rfl, rfl⟩ | ⟨hf_5, rfl, rfl⟩
  · have hP : va_P D vwCl [(y, .inr (9, [.int 0, .int m_status, .ref y_lane, .ref y_many, .ref y_item, .ref y_city, .ref y_fresh, .int m_isThere, .ref y_tape, .int m_taped, .int m_latest, .int m_length, .int m_cursor, .int m_token, .int m_start, .int m_till, .int m_fault, .int m_faultAt, .int m_seen, .int m_mirrors, .ref y_cost, .ref y_away, .ref y_fee, .ref y_goesTo, .ref y_priceWas, .ref y_isKept, .ref y_kept, .ref y_trace, .int m_traced])), (y_city, .inl (cI, 192, .inl cy))] H := hP
    have hD : va_D A [(y, .inr (9, [.int 0, .int m_status, .ref y_lane, .ref y_many, .ref y_item, .ref y_city, .ref y_fresh, .int m_isThere, .ref y_tape, .int m_taped, .int m_latest, .int m_length, .int m_cursor, .int m_token, .int m_start, .int m_till, .int m_fault, .int m_faultAt, .int m_seen, .int m_mirrors, .ref y_cost, .ref y_away, .ref y_fee, .ref y_goesTo, .ref y_priceWas, .ref y_isKept, .ref y_kept, .ref y_trace, .int m_traced])), (y_city, .inl (cI, 192, .inl cy))] := hD
    refine lv_if_eq (tgt := 31) S.1 S.2.1 dX9_step_10 (by decide) (fun c_6 => absurd c_6 (by decide)) (fun c_6 => ?_)
    refine lv_aload_n S.1 S.2.1 dX9_step_13 rfl (lv_at hl 0 rfl) ?_
    refine lv_iload_n S.1 S.2.1 dX9_step_14 rfl (lv_at hl 1 rfl) ?_
    refine lv_iload_n S.1 S.2.1 dX9_step_15 rfl (lv_at hl 2 rfl) ?_
    refine b_ai (wr := []) (b_runV (q0 := 0) (ci := 9) (As := [.int a, .int co]) (s_X9_mayGo l D cI cZ cC cS sq H.size y y_city a co (0) m_status y_lane y_many y_item y_fresh m_isThere y_tape m_taped m_latest m_length m_cursor m_token m_start m_till m_fault m_faultAt m_seen m_mirrors y_cost y_away y_fee y_goesTo y_priceWas y_isKept y_kept y_trace m_traced cy (by first | assumption | omega | decide | (rw [show Int32.toInt 0 = 0 from rfl]; omega)) (by first | assumption | omega | decide | (rw [show Int32.toInt 0 = 0 from rfl]; omega))) S gX9_step_X9_mayGo rfl hdV_X9_mayGo ⟨Nat.le_of_ble_eq_true rfl, Nat.le_of_ble_eq_true rfl⟩ ⟨Nat.le_of_ble_eq_true rfl, Nat.le_of_ble_eq_true rfl⟩ hK hT hS hA hP hD rfl rfl [0, 1] rfl (by decide) rfl hl.1 rfl (Nat.le_of_ble_eq_true rfl) dX9_step_16) hP hD hS hA [0, 1] [] rfl rfl (by decide) (by decide) (fun r_7 w_8 H locs hw_9 hP hD hS => ?_)
    rcases hw_9 with ⟨hf_10, rfl, rfl⟩ | ⟨rfl, rfl⟩
    · have hP : va_P D vwCl [(y, .inr (9, [.int 0, .int m_status, .ref y_lane, .ref y_many, .ref y_item, .ref y_city, .ref y_fresh, .int m_isThere, .ref y_tape, .int m_taped, .int m_latest, .int m_length, .int m_cursor, .int m_token, .int m_start, .int m_till, .int m_fault, .int m_faultAt, .int m_seen, .int m_mirrors, .ref y_cost, .ref y_away, .ref y_fee, .ref y_goesTo, .ref y_priceWas, .ref y_isKept, .ref y_kept, .ref y_trace, .int m_traced])), (y_city, .inl (cI, 192, .inl cy))] H := hP
      have hD : va_D A [(y, .inr (9, [.int 0, .int m_status, .ref y_lane, .ref y_many, .ref y_item, .ref y_city, .ref y_fresh, .int m_isThere, .ref y_tape, .int m_taped, .int m_latest, .int m_length, .int m_cursor, .int m_token, .int m_start, .int m_till, .int m_fault, .int m_faultAt, .int m_seen, .int m_mirrors, .ref y_cost, .ref y_away, .ref y_fee, .ref y_goesTo, .ref y_priceWas, .ref y_isKept, .ref y_kept, .ref y_trace, .int m_traced])), (y_city, .inl (cI, 192, .inl cy))] := hD
      refine lv_if_eq (tgt := 31) S.1 S.2.1 dX9_step_19 (by decide) (fun c_11 => absurd c_11 (by decide)) (fun c_11 => ?_)
      refine lv_aload_n S.1 S.2.1 dX9_step_22 rfl (lv_at hl 0 rfl) ?_
      refine lv_iload_n S.1 S.2.1 dX9_step_23 rfl (lv_at hl 1 rfl) ?_
      refine lv_iload_n S.1 S.2.1 dX9_step_24 rfl (lv_at hl 2 rfl) ?_
      refine b_ai (wr := []) (b_runV (q0 := 0) (ci := 9) (As := [.int a, .int co]) (s_X9_steps l D cI cZ cC cS sq H.size y y_city a co (0) m_status y_lane y_many y_item y_fresh m_isThere y_tape m_taped m_latest m_length m_cursor m_token m_start m_till m_fault m_faultAt m_seen m_mirrors y_cost y_away y_fee y_goesTo y_priceWas y_isKept y_kept y_trace m_traced cy (by first | assumption | omega | decide | (rw [show Int32.toInt 0 = 0 from rfl]; omega)) (by first | assumption | omega | decide | (rw [show Int32.toInt 0 = 0 from rfl]; omega)) (by first | assumption | omega | decide | (rw [show Int32.toInt 0 = 0 from rfl]; omega)) (by first | assumption | omega | decide | (rw [show Int32.toInt 0 = 0 from rfl]; omega))) S gX9_step_X9_steps rfl hdV_X9_steps ⟨Nat.le_of_ble_eq_true rfl, Nat.le_of_ble_eq_true rfl⟩ ⟨Nat.le_of_ble_eq_true rfl, Nat.le_of_ble_eq_true rfl⟩ hK hT hS hA hP hD rfl rfl [0, 1] rfl (by decide) rfl hl.1 rfl (Nat.le_of_ble_eq_true rfl) dX9_step_25) hP hD hS hA [0, 1] [] rfl rfl (by decide) (by decide) (fun r_12 w_13 H locs hw_14 hP hD hS => ?_)
      obtain ⟨m_seen2_15, m_mirrors2_16, cy2_17, hf_18, hf_19, rfl⟩ := hw_14
      have hP : va_P D vwCl [(y, .inr (9, [.int 0, .int m_status, .ref y_lane, .ref y_many, .ref y_item, .ref y_city, .ref y_fresh, .int m_isThere, .ref y_tape, .int m_taped, .int m_latest, .int m_length, .int m_cursor, .int m_token, .int m_start, .int m_till, .int m_fault, .int m_faultAt, .int m_seen2_15, .int m_mirrors2_16, .ref y_cost, .ref y_away, .ref y_fee, .ref y_goesTo, .ref y_priceWas, .ref y_isKept, .ref y_kept, .ref y_trace, .int m_traced])), (y_city, .inl (cI, 192, .inl cy2_17))] H := hP
      have hD : va_D A [(y, .inr (9, [.int 0, .int m_status, .ref y_lane, .ref y_many, .ref y_item, .ref y_city, .ref y_fresh, .int m_isThere, .ref y_tape, .int m_taped, .int m_latest, .int m_length, .int m_cursor, .int m_token, .int m_start, .int m_till, .int m_fault, .int m_faultAt, .int m_seen2_15, .int m_mirrors2_16, .ref y_cost, .ref y_away, .ref y_fee, .ref y_goesTo, .ref y_priceWas, .ref y_isKept, .ref y_kept, .ref y_trace, .int m_traced])), (y_city, .inl (cI, 192, .inl cy2_17))] := hD
      refine lv_goto (tgt := 33) S.1 S.2.1 dX9_step_28 (by decide) ?_
      exact b_iret S.1 S.2.1 X.2.1 X.2.2.1 hP hD hS ⟨m_seen2_15, m_mirrors2_16, cy2_17, (by first | assumption | omega | decide | (rw [show Int32.toInt 0 = 0 from rfl]; omega)), (by first | assumption | omega | decide | (rw [show Int32.toInt 0 = 0 from rfl]; omega)), rfl⟩ dX9_step_33
    · have hP : va_P D vwCl [(y, .inr (9, [.int 0, .int m_status, .ref y_lane, .ref y_many, .ref y_item, .ref y_city, .ref y_fresh, .int m_isThere, .ref y_tape, .int m_taped, .int m_latest, .int m_length, .int m_cursor, .int m_token, .int m_start, .int m_till, .int m_fault, .int m_faultAt, .int m_seen, .int m_mirrors, .ref y_cost, .ref y_away, .ref y_fee, .ref y_goesTo, .ref y_priceWas, .ref y_isKept, .ref y_kept, .ref y_trace, .int m_traced])), (y_city, .inl (cI, 192, .inl cy))] H := hP
      have hD : va_D A [(y, .inr (9, [.int 0, .int m_status, .ref y_lane, .ref y_many, .ref y_item, .ref y_city, .ref y_fresh, .int m_isThere, .ref y_tape, .int m_taped, .int m_latest, .int m_length, .int m_cursor, .int m_token, .int m_start, .int m_till, .int m_fault, .int m_faultAt, .int m_seen, .int m_mirrors, .ref y_cost, .ref y_away, .ref y_fee, .ref y_goesTo, .ref y_priceWas, .ref y_isKept, .ref y_kept, .ref y_trace, .int m_traced])), (y_city, .inl (cI, 192, .inl cy))] := hD
      refine lv_if_eq (tgt := 31) S.1 S.2.1 dX9_step_19 (by decide) (fun c_20 => ?_) (fun c_20 => absurd c_20 (by decide))
      refine lv_ldc (v := (-1000001)) S.1 S.2.1 S.2.2.2.1 (S.2.2.2.2 (.constant RX9 73 (-1000001)) (by decide +kernel)) dX9_step_31 ?_
      have lqm1000001 : Int32.toInt (-1000001) = -1000001 := by decide
      exact b_iret S.1 S.2.1 X.2.1 X.2.2.1 hP hD hS ⟨m_seen, m_mirrors, cy, (by first | assumption | omega | decide | (rw [show Int32.toInt 0 = 0 from rfl]; omega)), (by first | assumption | omega | decide | (rw [show Int32.toInt 0 = 0 from rfl]; omega)), rfl⟩ dX9_step_33
  · have hP : va_P D vwCl [(y, .inr (9, [.int 0, .int m_status, .ref y_lane, .ref y_many, .ref y_item, .ref y_city, .ref y_fresh, .int m_isThere, .ref y_tape, .int m_taped, .int m_latest, .int m_length, .int m_cursor, .int m_token, .int m_start, .int m_till, .int m_fault, .int m_faultAt, .int m_seen, .int m_mirrors, .ref y_cost, .ref y_away, .ref y_fee, .ref y_goesTo, .ref y_priceWas, .ref y_isKept, .ref y_kept, .ref y_trace, .int m_traced])), (y_city, .inl (cI, 192, .inl cy))] H := hP
    have hD : va_D A [(y, .inr (9, [.int 0, .int m_status, .ref y_lane, .ref y_many, .ref y_item, .ref y_city, .ref y_fresh, .int m_isThere, .ref y_tape, .int m_taped, .int m_latest, .int m_length, .int m_cursor, .int m_token, .int m_start, .int m_till, .int m_fault, .int m_faultAt, .int m_seen, .int m_mirrors, .ref y_cost, .ref y_away, .ref y_fee, .ref y_goesTo, .ref y_priceWas, .ref y_isKept, .ref y_kept, .ref y_trace, .int m_traced])), (y_city, .inl (cI, 192, .inl cy))] := hD
    refine lv_if_eq (tgt := 31) S.1 S.2.1 dX9_step_10 (by decide) (fun c_21 => ?_) (fun c_21 => absurd c_21 (by decide))
    refine lv_ldc (v := (-1000001)) S.1 S.2.1 S.2.2.2.1 (S.2.2.2.2 (.constant RX9 73 (-1000001)) (by decide +kernel)) dX9_step_31 ?_
    have lqm1000001 : Int32.toInt (-1000001) = -1000001 := by decide
    exact b_iret S.1 S.2.1 X.2.1 X.2.2.1 hP hD hS ⟨m_seen, m_mirrors, cy, (by first | assumption | omega | decide | (rw [show Int32.toInt 0 = 0 from rfl]; omega)), (by first | assumption | omega | decide | (rw [show Int32.toInt 0 = 0 from rfl]; omega)), rfl⟩ dX9_step_33
set_option maxHeartbeats 4000000 in
set_option maxRecDepth 100000 in
theorem lp_mwalk1 {p : Program} (l : Launch) {e : Env} {s : State} {m : MethodId} {below : List Frame} {meth : Method} {c : Code} (D : va_G) (cI cZ cC cS : ClassId) (sq : Nat → Nat) (y : Nat) (y_lane : Nat) (y_many : Nat) (y_item : Nat) (y_city : Nat) (a : Int32) (b : Int32) (i : Int32) (nn : Int32) (m_thrown : Int32) (m_status : Int32) (y_fresh : Nat) (m_isThere : Int32) (y_tape : Nat) (m_taped : Int32) (m_latest : Int32) (m_length : Int32) (m_cursor : Int32) (m_token : Int32) (m_start : Int32) (m_till : Int32) (m_fault : Int32) (m_faultAt : Int32) (m_seen : Int32) (m_mirrors : Int32) (y_cost : Nat) (y_away : Nat) (y_fee : Nat) (y_goesTo : Nat) (y_priceWas : Nat) (y_isKept : Nat) (y_kept : Nat) (y_trace : Nat) (m_traced : Int32) (la_ : Nat → Int32) (ma_ : Nat → Int32) (it_ : Nat → Int32) (cy : Nat → Int32) (hpd_cy : prd cyK 192 cy) (hrg_ma_ : rng ma_ 8 (0) (40)) (hsm : -1 ≤ m_seen.toInt ∧ m_seen.toInt < 80 ∧ 0 ≤ m_mirrors.toInt ∧ m_mirrors.toInt ≤ 2) (hin : 0 ≤ i.toInt ∧ 1 ≤ nn.toInt ∧ i.toInt + nn.toInt ≤ 40) (hab : 0 ≤ a.toInt ∧ a.toInt < 6 ∧ 0 ≤ b.toInt ∧ b.toInt < 8) {A : Nat → Prop} (X : bX p s m meth c cX9_walk 7 wsX9_walk yX9_walk (some .int) [.ref y, .int a, .int b, .int i, .int nn]) (hK : kW D (tyW cI cZ cC cS) sq s) (hT : sT sq A s s.heap) (hA : ∀ q, s.heap.size ≤ q → A q) (K : ∀ (k : Int32), (prd cyK 192 cy) → (rng ma_ 8 (0) (40)) → (0 ≤ k.toInt ∧ k.toInt ≤ nn.toInt) → (sgm it_ (40 * b.toInt + i.toInt) (40 * b.toInt + i.toInt + k.toInt) 0 15) → (nn.toInt ≤ k.toInt) → ∀ (H : Heap) (locs : List Loc) (ls : Array Slot), va_P D vwCl [(y, .inr (9, [.int 0, .int m_status, .ref y_lane, .ref y_many, .ref y_item, .ref y_city, .ref y_fresh, .int m_isThere, .ref y_tape, .int m_taped, .int m_latest, .int m_length, .int m_cursor, .int m_token, .int m_start, .int m_till, .int m_fault, .int m_faultAt, .int m_seen, .int m_mirrors, .ref y_cost, .ref y_away, .ref y_fee, .ref y_goesTo, .ref y_priceWas, .ref y_isKept, .ref y_kept, .ref y_trace, .int m_traced])), (y_lane, .inl (cI, 8, .inl la_)), (y_many, .inl (cI, 8, .inl ma_)), (y_item, .inl (cI, 320, .inl it_)), (y_city, .inl (cI, 192, .inl cy))] H → va_D A [(y, .inr (9, [.int 0, .int m_status, .ref y_lane, .ref y_many, .ref y_item, .ref y_city, .ref y_fresh, .int m_isThere, .ref y_tape, .int m_taped, .int m_latest, .int m_length, .int m_cursor, .int m_token, .int m_start, .int m_till, .int m_fault, .int m_faultAt, .int m_seen, .int m_mirrors, .ref y_cost, .ref y_away, .ref y_fee, .ref y_goesTo, .ref y_priceWas, .ref y_isKept, .ref y_kept, .ref y_trace, .int m_traced])), (y_lane, .inl (cI, 8, .inl la_)), (y_many, .inl (cI, 8, .inl ma_)), (y_item, .inl (cI, 320, .inl it_)), (y_city, .inl (cI, 192, .inl cy))] → va_S A s.heap H locs → lv_has ls 7 [(5, .int k), (0, .ref y), (1, .int a), (2, .int b), (3, .int i), (4, .int nn)] → W p l e (rmW 50 2000 0 0) s m ([.ref y, .int a, .int b, .int i, .int nn] : List Value).toArray below meth c H locs 0 0 (MQ below (va_Qi (fun r w => (∃ (m_status2 : Int32), ∃ (m_seen2 : Int32), ∃ (m_mirrors2 : Int32), ∃ (cy2 : Nat → Int32), (prd cyK 192 cy2) ∧ (-1 ≤ m_seen2.toInt ∧ m_seen2.toInt < 80 ∧ 0 ≤ m_mirrors2.toInt ∧ m_mirrors2.toInt ≤ 2) ∧ w = [(y, .inr (9, [.int 0, .int m_status2, .ref y_lane, .ref y_many, .ref y_item, .ref y_city, .ref y_fresh, .int m_isThere, .ref y_tape, .int m_taped, .int m_latest, .int m_length, .int m_cursor, .int m_token, .int m_start, .int m_till, .int m_fault, .int m_faultAt, .int m_seen2, .int m_mirrors2, .ref y_cost, .ref y_away, .ref y_fee, .ref y_goesTo, .ref y_priceWas, .ref y_isKept, .ref y_kept, .ref y_trace, .int m_traced])), (y_lane, .inl (cI, 8, .inl la_)), (y_many, .inl (cI, 8, .inl ma_)), (y_item, .inl (cI, 320, .inl it_)), (y_city, .inl (cI, 192, .inl cy2))])) (wD D A) A) ([.ref y, .int a, .int b, .int i, .int nn] : List Value).toArray s 0 0 A) (F0 m 119 ls [])) : ∀ (mN : Nat) (k : Int32), (prd cyK 192 cy) → (rng ma_ 8 (0) (40)) → (0 ≤ k.toInt ∧ k.toInt ≤ nn.toInt) → (sgm it_ (40 * b.toInt + i.toInt) (40 * b.toInt + i.toInt + k.toInt) 0 15) → ((nn.toInt - k.toInt).toNat < mN) → ∀ (H : Heap) (locs : List Loc) (ls : Array Slot), va_P D vwCl [(y, .inr (9, [.int 0, .int m_status, .ref y_lane, .ref y_many, .ref y_item, .ref y_city, .ref y_fresh, .int m_isThere, .ref y_tape, .int m_taped, .int m_latest, .int m_length, .int m_cursor, .int m_token, .int m_start, .int m_till, .int m_fault, .int m_faultAt, .int m_seen, .int m_mirrors, .ref y_cost, .ref y_away, .ref y_fee, .ref y_goesTo, .ref y_priceWas, .ref y_isKept, .ref y_kept, .ref y_trace, .int m_traced])), (y_lane, .inl (cI, 8, .inl la_)), (y_many, .inl (cI, 8, .inl ma_)), (y_item, .inl (cI, 320, .inl it_)), (y_city, .inl (cI, 192, .inl cy))] H → va_D A [(y, .inr (9, [.int 0, .int m_status, .ref y_lane, .ref y_many, .ref y_item, .ref y_city, .ref y_fresh, .int m_isThere, .ref y_tape, .int m_taped, .int m_latest, .int m_length, .int m_cursor, .int m_token, .int m_start, .int m_till, .int m_fault, .int m_faultAt, .int m_seen, .int m_mirrors, .ref y_cost, .ref y_away, .ref y_fee, .ref y_goesTo, .ref y_priceWas, .ref y_isKept, .ref y_kept, .ref y_trace, .int m_traced])), (y_lane, .inl (cI, 8, .inl la_)), (y_many, .inl (cI, 8, .inl ma_)), (y_item, .inl (cI, 320, .inl it_)), (y_city, .inl (cI, 192, .inl cy))] → va_S A s.heap H locs → lv_has ls 7 [(5, .int k), (0, .ref y), (1, .int a), (2, .int b), (3, .int i), (4, .int nn)] → W p l e (rmW 50 2000 0 0) s m ([.ref y, .int a, .int b, .int i, .int nn] : List Value).toArray below meth c H locs 0 0 (MQ below (va_Qi (fun r w => (∃ (m_status2 : Int32), ∃ (m_seen2 : Int32), ∃ (m_mirrors2 : Int32), ∃ (cy2 : Nat → Int32), (prd cyK 192 cy2) ∧ (-1 ≤ m_seen2.toInt ∧ m_seen2.toInt < 80 ∧ 0 ≤ m_mirrors2.toInt ∧ m_mirrors2.toInt ≤ 2) ∧ w = [(y, .inr (9, [.int 0, .int m_status2, .ref y_lane, .ref y_many, .ref y_item, .ref y_city, .ref y_fresh, .int m_isThere, .ref y_tape, .int m_taped, .int m_latest, .int m_length, .int m_cursor, .int m_token, .int m_start, .int m_till, .int m_fault, .int m_faultAt, .int m_seen2, .int m_mirrors2, .ref y_cost, .ref y_away, .ref y_fee, .ref y_goesTo, .ref y_priceWas, .ref y_isKept, .ref y_kept, .ref y_trace, .int m_traced])), (y_lane, .inl (cI, 8, .inl la_)), (y_many, .inl (cI, 8, .inl ma_)), (y_item, .inl (cI, 320, .inl it_)), (y_city, .inl (cI, 192, .inl cy2))])) (wD D A) A) ([.ref y, .int a, .int b, .int i, .int nn] : List Value).toArray s 0 0 A) (F0 m 81 ls []) := by
  have S : CallFix p m c cX9_walk 7 s ([.ref y, .int a, .int b, .int i, .int nn] : List Value).toArray wsX9_walk RX9 := X.1
  have iX9 := jX9_walk_X9
  intro mN
  induction mN with
  | zero => intro k hpd_cy hrg_ma_ hk hd hm; exact absurd hm (Nat.not_lt_zero _)
  | succ mN ih =>
    intro k hpd_cy hrg_ma_ hk hd hm H locs ls hP hD hS hl
    refine lv_iload S.1 S.2.1 dX9_walk_81 (lv_at hl 0 rfl) ?_
    refine lv_iload S.1 S.2.1 dX9_walk_83 (lv_at hl 5 rfl) ?_
    refine lv_icmp_ge (tgt := 119) S.1 S.2.1 dX9_walk_85 (by decide) (fun c_101 => ?_) (fun c_101 => ?_)
    · rw [le2 (a := nn) (b := k) (A := nn.toInt) (B := k.toInt) rfl rfl] at c_101
      exact K k (by first | assumption | omega | decide | (rw [show Int32.toInt 0 = 0 from rfl]; omega)) (by first | assumption | omega | decide | (rw [show Int32.toInt 0 = 0 from rfl]; omega)) (by first | assumption | omega | decide | (rw [show Int32.toInt 0 = 0 from rfl]; omega)) (by first | assumption | exact sgm_sub (sk (by omega)) (by omega)) (by first | assumption | omega | decide | (rw [show Int32.toInt 0 = 0 from rfl]; omega)) H _ ls hP hD hS (lv_sub hl [0, 1, 2, 3, 4, 5] rfl)
    · rw [le2 (a := nn) (b := k) (A := nn.toInt) (B := k.toInt) rfl rfl] at c_101
      refine lv_aload_n S.1 S.2.1 dX9_walk_88 rfl (lv_at hl 1 rfl) ?_
      refine lv_iload_n S.1 S.2.1 dX9_walk_89 rfl (lv_at hl 2 rfl) ?_
      refine lv_aload_n S.1 S.2.1 dX9_walk_90 rfl (lv_at hl 1 rfl) ?_
      refine b_get (v := .ref y_item) S iX9 hK hP 0 rfl rfl 4 (by decide) (by decide +kernel) rfl dX9_walk_91 ?_
      refine lv_bipush (v := (40)) S.1 S.2.1 dX9_walk_94 (by decide) ?_
      refine lv_iload_n S.1 S.2.1 dX9_walk_96 rfl (lv_at hl 3 rfl) ?_
      refine lv_imul S.1 S.2.1 dX9_walk_97 ?_
      refine lv_topi (fun x_102 ex_102 => ?_)
      have tx_102 : x_102.toInt = 40 * b.toInt := mulI (A := 40) (B := b.toInt) ex_102 rfl rfl (by omega) (by omega)
      refine lv_iload_n S.1 S.2.1 dX9_walk_98 rfl (lv_at hl 4 rfl) ?_
      refine lv_iadd S.1 S.2.1 dX9_walk_99 ?_
      refine lv_topi (fun x_103 ex_103 => ?_)
      have tx_103 : x_103.toInt = x_102.toInt + (i.toInt) := addI (A := x_102.toInt) (B := i.toInt) ex_103 rfl rfl (by omega) (by omega)
      refine lv_iload S.1 S.2.1 dX9_walk_100 (lv_at hl 0 rfl) ?_
      refine lv_iadd S.1 S.2.1 dX9_walk_102 ?_
      refine lv_topi (fun x_104 ex_104 => ?_)
      have tx_104 : x_104.toInt = x_103.toInt + (k.toInt) := addI (A := x_103.toInt) (B := k.toInt) ex_104 rfl rfl (by omega) (by omega)
      have hin_105 : vp_in x_104 320 := (in_of (n := 320) (by omega) (by omega))
      refine va_iald S.1 S.2.1 hK.1 hP 3 0 rfl rfl hin_105 dX9_walk_103 ?_
      refine lv_topi (fun x_106 ex_106 => ?_)
      have sk : ∀ h : 0 ≤ x_106.toInt ∧ x_106.toInt ≤ 15, sgm it_ (40 * b.toInt + i.toInt) (40 * b.toInt + i.toInt + k.toInt + 1) 0 15 := fun h => sgm_ext (i := x_104) hd (by omega) (by omega) (by omega) ex_106 h
      refine b_ai (wr := [(y_lane, .inl (cI, 8, .inl la_)), (y_many, .inl (cI, 8, .inl ma_)), (y_item, .inl (cI, 320, .inl it_))]) (b_runV (q0 := 0) (ci := 9) (As := [.int a, .int x_106]) (s_X9_mayGo l D cI cZ cC cS sq H.size y y_city a x_106 (0) m_status y_lane y_many y_item y_fresh m_isThere y_tape m_taped m_latest m_length m_cursor m_token m_start m_till m_fault m_faultAt m_seen m_mirrors y_cost y_away y_fee y_goesTo y_priceWas y_isKept y_kept y_trace m_traced cy (by first | assumption | omega | decide | (rw [show Int32.toInt 0 = 0 from rfl]; omega)) (by first | assumption | omega | decide | (rw [show Int32.toInt 0 = 0 from rfl]; omega))) S gX9_walk_X9_mayGo rfl hdV_X9_mayGo ⟨Nat.le_of_ble_eq_true rfl, Nat.le_of_ble_eq_true rfl⟩ ⟨Nat.le_of_ble_eq_true rfl, Nat.le_of_ble_eq_true rfl⟩ hK hT hS hA hP hD rfl rfl [0, 4] rfl (by decide) rfl hl.1 rfl (Nat.le_of_ble_eq_true rfl) dX9_walk_104) hP hD hS hA [0, 4] [1, 2, 3] rfl rfl (by decide) (by decide) (fun r_107 w_108 H locs hw_109 hP hD hS => ?_)
      rcases hw_109 with ⟨hf_110, rfl, rfl⟩ | ⟨rfl, rfl⟩
      · have hP : va_P D vwCl [(y_lane, .inl (cI, 8, .inl la_)), (y_many, .inl (cI, 8, .inl ma_)), (y_item, .inl (cI, 320, .inl it_)), (y, .inr (9, [.int 0, .int m_status, .ref y_lane, .ref y_many, .ref y_item, .ref y_city, .ref y_fresh, .int m_isThere, .ref y_tape, .int m_taped, .int m_latest, .int m_length, .int m_cursor, .int m_token, .int m_start, .int m_till, .int m_fault, .int m_faultAt, .int m_seen, .int m_mirrors, .ref y_cost, .ref y_away, .ref y_fee, .ref y_goesTo, .ref y_priceWas, .ref y_isKept, .ref y_kept, .ref y_trace, .int m_traced])), (y_city, .inl (cI, 192, .inl cy))] H := hP
        have hD : va_D A [(y_lane, .inl (cI, 8, .inl la_)), (y_many, .inl (cI, 8, .inl ma_)), (y_item, .inl (cI, 320, .inl it_)), (y, .inr (9, [.int 0, .int m_status, .ref y_lane, .ref y_many, .ref y_item, .ref y_city, .ref y_fresh, .int m_isThere, .ref y_tape, .int m_taped, .int m_latest, .int m_length, .int m_cursor, .int m_token, .int m_start, .int m_till, .int m_fault, .int m_faultAt, .int m_seen, .int m_mirrors, .ref y_cost, .ref y_away, .ref y_fee, .ref y_goesTo, .ref y_priceWas, .ref y_isKept, .ref y_kept, .ref y_trace, .int m_traced])), (y_city, .inl (cI, 192, .inl cy))] := hD
        refine lv_if_ne (tgt := 113) S.1 S.2.1 dX9_walk_107 (by decide) (fun c_111 => ?_) (fun c_111 => absurd c_111 (by decide))
        obtain ⟨x_112, ex_112⟩ : ∃ y : Int32, y = k + Int32.ofInt (1) := ⟨_, rfl⟩
        refine lv_iinc (v := x_112) (lv' := [(5, .int x_112), (0, .ref y), (1, .int a), (2, .int b), (3, .int i), (4, .int nn)]) S.1 S.2.1 dX9_walk_113 hl (k := 0) rfl ex_112.symm (by decide) rfl (fun ls hl => ?_)
        have tx_112 : x_112.toInt = k.toInt + (1) := addI (A := k.toInt) (B := 1) ex_112 rfl rfl (by omega) (by omega)
        refine lv_goto (tgt := 81) S.1 S.2.1 dX9_walk_116 (by decide) ?_
        have hP := hP.sub (ws' := [(y, .inr (9, [.int 0, .int m_status, .ref y_lane, .ref y_many, .ref y_item, .ref y_city, .ref y_fresh, .int m_isThere, .ref y_tape, .int m_taped, .int m_latest, .int m_length, .int m_cursor, .int m_token, .int m_start, .int m_till, .int m_fault, .int m_faultAt, .int m_seen, .int m_mirrors, .ref y_cost, .ref y_away, .ref y_fee, .ref y_goesTo, .ref y_priceWas, .ref y_isKept, .ref y_kept, .ref y_trace, .int m_traced])), (y_lane, .inl (cI, 8, .inl la_)), (y_many, .inl (cI, 8, .inl ma_)), (y_item, .inl (cI, 320, .inl it_)), (y_city, .inl (cI, 192, .inl cy))]) [3, 0, 1, 2, 4] rfl
        have hD := hD.sub (ws' := [(y, .inr (9, [.int 0, .int m_status, .ref y_lane, .ref y_many, .ref y_item, .ref y_city, .ref y_fresh, .int m_isThere, .ref y_tape, .int m_taped, .int m_latest, .int m_length, .int m_cursor, .int m_token, .int m_start, .int m_till, .int m_fault, .int m_faultAt, .int m_seen, .int m_mirrors, .ref y_cost, .ref y_away, .ref y_fee, .ref y_goesTo, .ref y_priceWas, .ref y_isKept, .ref y_kept, .ref y_trace, .int m_traced])), (y_lane, .inl (cI, 8, .inl la_)), (y_many, .inl (cI, 8, .inl ma_)), (y_item, .inl (cI, 320, .inl it_)), (y_city, .inl (cI, 192, .inl cy))]) [3, 0, 1, 2, 4] (by decide) rfl
        exact ih x_112 (by first | assumption | omega | decide | (rw [show Int32.toInt 0 = 0 from rfl]; omega)) (by first | assumption | omega | decide | (rw [show Int32.toInt 0 = 0 from rfl]; omega)) (by first | assumption | omega | decide | (rw [show Int32.toInt 0 = 0 from rfl]; omega)) (by first | assumption | exact sgm_sub (sk (by omega)) (by omega)) (by omega) H _ ls hP hD hS (lv_sub hl [0, 1, 2, 3, 4, 5] rfl)
      · have hP : va_P D vwCl [(y_lane, .inl (cI, 8, .inl la_)), (y_many, .inl (cI, 8, .inl ma_)), (y_item, .inl (cI, 320, .inl it_)), (y, .inr (9, [.int 0, .int m_status, .ref y_lane, .ref y_many, .ref y_item, .ref y_city, .ref y_fresh, .int m_isThere, .ref y_tape, .int m_taped, .int m_latest, .int m_length, .int m_cursor, .int m_token, .int m_start, .int m_till, .int m_fault, .int m_faultAt, .int m_seen, .int m_mirrors, .ref y_cost, .ref y_away, .ref y_fee, .ref y_goesTo, .ref y_priceWas, .ref y_isKept, .ref y_kept, .ref y_trace, .int m_traced])), (y_city, .inl (cI, 192, .inl cy))] H := hP
        have hD : va_D A [(y_lane, .inl (cI, 8, .inl la_)), (y_many, .inl (cI, 8, .inl ma_)), (y_item, .inl (cI, 320, .inl it_)), (y, .inr (9, [.int 0, .int m_status, .ref y_lane, .ref y_many, .ref y_item, .ref y_city, .ref y_fresh, .int m_isThere, .ref y_tape, .int m_taped, .int m_latest, .int m_length, .int m_cursor, .int m_token, .int m_start, .int m_till, .int m_fault, .int m_faultAt, .int m_seen, .int m_mirrors, .ref y_cost, .ref y_away, .ref y_fee, .ref y_goesTo, .ref y_priceWas, .ref y_isKept, .ref y_kept, .ref y_trace, .int m_traced])), (y_city, .inl (cI, 192, .inl cy))] := hD
        refine lv_if_ne (tgt := 113) S.1 S.2.1 dX9_walk_107 (by decide) (fun c_113 => absurd c_113 (by decide)) (fun c_113 => ?_)
        refine lv_ldc (v := (-1000001)) S.1 S.2.1 S.2.2.2.1 (S.2.2.2.2 (.constant RX9 73 (-1000001)) (by decide +kernel)) dX9_walk_110 ?_
        have hP := hP.sub (ws' := [(y, .inr (9, [.int 0, .int m_status, .ref y_lane, .ref y_many, .ref y_item, .ref y_city, .ref y_fresh, .int m_isThere, .ref y_tape, .int m_taped, .int m_latest, .int m_length, .int m_cursor, .int m_token, .int m_start, .int m_till, .int m_fault, .int m_faultAt, .int m_seen, .int m_mirrors, .ref y_cost, .ref y_away, .ref y_fee, .ref y_goesTo, .ref y_priceWas, .ref y_isKept, .ref y_kept, .ref y_trace, .int m_traced])), (y_lane, .inl (cI, 8, .inl la_)), (y_many, .inl (cI, 8, .inl ma_)), (y_item, .inl (cI, 320, .inl it_)), (y_city, .inl (cI, 192, .inl cy))]) [3, 0, 1, 2, 4] rfl
        have hD := hD.sub (ws' := [(y, .inr (9, [.int 0, .int m_status, .ref y_lane, .ref y_many, .ref y_item, .ref y_city, .ref y_fresh, .int m_isThere, .ref y_tape, .int m_taped, .int m_latest, .int m_length, .int m_cursor, .int m_token, .int m_start, .int m_till, .int m_fault, .int m_faultAt, .int m_seen, .int m_mirrors, .ref y_cost, .ref y_away, .ref y_fee, .ref y_goesTo, .ref y_priceWas, .ref y_isKept, .ref y_kept, .ref y_trace, .int m_traced])), (y_lane, .inl (cI, 8, .inl la_)), (y_many, .inl (cI, 8, .inl ma_)), (y_item, .inl (cI, 320, .inl it_)), (y_city, .inl (cI, 192, .inl cy))]) [3, 0, 1, 2, 4] (by decide) rfl
        have lqm1000001 : Int32.toInt (-1000001) = -1000001 := by decide
        exact b_iret S.1 S.2.1 X.2.1 X.2.2.1 hP hD hS ⟨m_status, m_seen, m_mirrors, cy, (by first | assumption | omega | decide | (rw [show Int32.toInt 0 = 0 from rfl]; omega)), (by first | assumption | omega | decide | (rw [show Int32.toInt 0 = 0 from rfl]; omega)), rfl⟩ dX9_walk_112
set_option maxHeartbeats 4000000 in
set_option maxRecDepth 100000 in
theorem lp_mwalk2 {p : Program} (l : Launch) {e : Env} {s : State} {m : MethodId} {below : List Frame} {meth : Method} {c : Code} (D : va_G) (cI cZ cC cS : ClassId) (sq : Nat → Nat) (y : Nat) (y_lane : Nat) (y_many : Nat) (y_item : Nat) (y_city : Nat) (a : Int32) (b : Int32) (i : Int32) (nn : Int32) (m_thrown : Int32) (m_status : Int32) (y_fresh : Nat) (m_isThere : Int32) (y_tape : Nat) (m_taped : Int32) (m_latest : Int32) (m_length : Int32) (m_cursor : Int32) (m_token : Int32) (m_start : Int32) (m_till : Int32) (m_fault : Int32) (m_faultAt : Int32) (m_seen : Int32) (m_mirrors : Int32) (y_cost : Nat) (y_away : Nat) (y_fee : Nat) (y_goesTo : Nat) (y_priceWas : Nat) (y_isKept : Nat) (y_kept : Nat) (y_trace : Nat) (m_traced : Int32) (la_ : Nat → Int32) (ma_ : Nat → Int32) (it_ : Nat → Int32) (cy : Nat → Int32) (hpd_cy : prd cyK 192 cy) (hrg_ma_ : rng ma_ 8 (0) (40)) (hsm : -1 ≤ m_seen.toInt ∧ m_seen.toInt < 80 ∧ 0 ≤ m_mirrors.toInt ∧ m_mirrors.toInt ≤ 2) (hin : 0 ≤ i.toInt ∧ 1 ≤ nn.toInt ∧ i.toInt + nn.toInt ≤ 40) (hab : 0 ≤ a.toInt ∧ a.toInt < 6 ∧ 0 ≤ b.toInt ∧ b.toInt < 8) (hdd : sgm it_ (40 * b.toInt + i.toInt) (40 * b.toInt + i.toInt + nn.toInt) 0 15) {A : Nat → Prop} (X : bX p s m meth c cX9_walk 7 wsX9_walk yX9_walk (some .int) [.ref y, .int a, .int b, .int i, .int nn]) (hK : kW D (tyW cI cZ cC cS) sq s) (hT : sT sq A s s.heap) (hA : ∀ q, s.heap.size ≤ q → A q) (K : ∀ (k : Int32) (q : Int32) (m_seen : Int32) (m_mirrors : Int32) (cy : Nat → Int32), (prd cyK 192 cy) → (rng ma_ 8 (0) (40)) → (0 ≤ k.toInt ∧ k.toInt ≤ nn.toInt) → (-1 ≤ m_seen.toInt ∧ m_seen.toInt < 80 ∧ 0 ≤ m_mirrors.toInt ∧ m_mirrors.toInt ≤ 2) → ∀ (H : Heap) (locs : List Loc) (ls : Array Slot), va_P D vwCl [(y, .inr (9, [.int 0, .int 0, .ref y_lane, .ref y_many, .ref y_item, .ref y_city, .ref y_fresh, .int m_isThere, .ref y_tape, .int m_taped, .int m_latest, .int m_length, .int m_cursor, .int m_token, .int m_start, .int m_till, .int m_fault, .int m_faultAt, .int m_seen, .int m_mirrors, .ref y_cost, .ref y_away, .ref y_fee, .ref y_goesTo, .ref y_priceWas, .ref y_isKept, .ref y_kept, .ref y_trace, .int m_traced])), (y_lane, .inl (cI, 8, .inl la_)), (y_many, .inl (cI, 8, .inl ma_)), (y_item, .inl (cI, 320, .inl it_)), (y_city, .inl (cI, 192, .inl cy))] H → va_D A [(y, .inr (9, [.int 0, .int 0, .ref y_lane, .ref y_many, .ref y_item, .ref y_city, .ref y_fresh, .int m_isThere, .ref y_tape, .int m_taped, .int m_latest, .int m_length, .int m_cursor, .int m_token, .int m_start, .int m_till, .int m_fault, .int m_faultAt, .int m_seen, .int m_mirrors, .ref y_cost, .ref y_away, .ref y_fee, .ref y_goesTo, .ref y_priceWas, .ref y_isKept, .ref y_kept, .ref y_trace, .int m_traced])), (y_lane, .inl (cI, 8, .inl la_)), (y_many, .inl (cI, 8, .inl ma_)), (y_item, .inl (cI, 320, .inl it_)), (y_city, .inl (cI, 192, .inl cy))] → va_S A s.heap H locs → lv_has ls 7 [(6, .int k), (5, .int q), (0, .ref y), (1, .int a), (2, .int b), (3, .int i), (4, .int nn)] → W p l e (rmW 50 2000 0 0) s m ([.ref y, .int a, .int b, .int i, .int nn] : List Value).toArray below meth c H locs 0 0 (MQ below (va_Qi (fun r w => (∃ (m_status2 : Int32), ∃ (m_seen2 : Int32), ∃ (m_mirrors2 : Int32), ∃ (cy2 : Nat → Int32), (prd cyK 192 cy2) ∧ (-1 ≤ m_seen2.toInt ∧ m_seen2.toInt < 80 ∧ 0 ≤ m_mirrors2.toInt ∧ m_mirrors2.toInt ≤ 2) ∧ w = [(y, .inr (9, [.int 0, .int m_status2, .ref y_lane, .ref y_many, .ref y_item, .ref y_city, .ref y_fresh, .int m_isThere, .ref y_tape, .int m_taped, .int m_latest, .int m_length, .int m_cursor, .int m_token, .int m_start, .int m_till, .int m_fault, .int m_faultAt, .int m_seen2, .int m_mirrors2, .ref y_cost, .ref y_away, .ref y_fee, .ref y_goesTo, .ref y_priceWas, .ref y_isKept, .ref y_kept, .ref y_trace, .int m_traced])), (y_lane, .inl (cI, 8, .inl la_)), (y_many, .inl (cI, 8, .inl ma_)), (y_item, .inl (cI, 320, .inl it_)), (y_city, .inl (cI, 192, .inl cy2))])) (wD D A) A) ([.ref y, .int a, .int b, .int i, .int nn] : List Value).toArray s 0 0 A) (F0 m 167 ls [])) : ∀ (mN : Nat) (k : Int32) (q : Int32) (m_seen : Int32) (m_mirrors : Int32) (cy : Nat → Int32), (prd cyK 192 cy) → (rng ma_ 8 (0) (40)) → (0 ≤ k.toInt ∧ k.toInt ≤ nn.toInt) → (-1 ≤ m_seen.toInt ∧ m_seen.toInt < 80 ∧ 0 ≤ m_mirrors.toInt ∧ m_mirrors.toInt ≤ 2) → ((nn.toInt - k.toInt).toNat < mN) → ∀ (H : Heap) (locs : List Loc) (ls : Array Slot), va_P D vwCl [(y, .inr (9, [.int 0, .int 0, .ref y_lane, .ref y_many, .ref y_item, .ref y_city, .ref y_fresh, .int m_isThere, .ref y_tape, .int m_taped, .int m_latest, .int m_length, .int m_cursor, .int m_token, .int m_start, .int m_till, .int m_fault, .int m_faultAt, .int m_seen, .int m_mirrors, .ref y_cost, .ref y_away, .ref y_fee, .ref y_goesTo, .ref y_priceWas, .ref y_isKept, .ref y_kept, .ref y_trace, .int m_traced])), (y_lane, .inl (cI, 8, .inl la_)), (y_many, .inl (cI, 8, .inl ma_)), (y_item, .inl (cI, 320, .inl it_)), (y_city, .inl (cI, 192, .inl cy))] H → va_D A [(y, .inr (9, [.int 0, .int 0, .ref y_lane, .ref y_many, .ref y_item, .ref y_city, .ref y_fresh, .int m_isThere, .ref y_tape, .int m_taped, .int m_latest, .int m_length, .int m_cursor, .int m_token, .int m_start, .int m_till, .int m_fault, .int m_faultAt, .int m_seen, .int m_mirrors, .ref y_cost, .ref y_away, .ref y_fee, .ref y_goesTo, .ref y_priceWas, .ref y_isKept, .ref y_kept, .ref y_trace, .int m_traced])), (y_lane, .inl (cI, 8, .inl la_)), (y_many, .inl (cI, 8, .inl ma_)), (y_item, .inl (cI, 320, .inl it_)), (y_city, .inl (cI, 192, .inl cy))] → va_S A s.heap H locs → lv_has ls 7 [(6, .int k), (5, .int q), (0, .ref y), (1, .int a), (2, .int b), (3, .int i), (4, .int nn)] → W p l e (rmW 50 2000 0 0) s m ([.ref y, .int a, .int b, .int i, .int nn] : List Value).toArray below meth c H locs 0 0 (MQ below (va_Qi (fun r w => (∃ (m_status2 : Int32), ∃ (m_seen2 : Int32), ∃ (m_mirrors2 : Int32), ∃ (cy2 : Nat → Int32), (prd cyK 192 cy2) ∧ (-1 ≤ m_seen2.toInt ∧ m_seen2.toInt < 80 ∧ 0 ≤ m_mirrors2.toInt ∧ m_mirrors2.toInt ≤ 2) ∧ w = [(y, .inr (9, [.int 0, .int m_status2, .ref y_lane, .ref y_many, .ref y_item, .ref y_city, .ref y_fresh, .int m_isThere, .ref y_tape, .int m_taped, .int m_latest, .int m_length, .int m_cursor, .int m_token, .int m_start, .int m_till, .int m_fault, .int m_faultAt, .int m_seen2, .int m_mirrors2, .ref y_cost, .ref y_away, .ref y_fee, .ref y_goesTo, .ref y_priceWas, .ref y_isKept, .ref y_kept, .ref y_trace, .int m_traced])), (y_lane, .inl (cI, 8, .inl la_)), (y_many, .inl (cI, 8, .inl ma_)), (y_item, .inl (cI, 320, .inl it_)), (y_city, .inl (cI, 192, .inl cy2))])) (wD D A) A) ([.ref y, .int a, .int b, .int i, .int nn] : List Value).toArray s 0 0 A) (F0 m 130 ls []) := by
  have S : CallFix p m c cX9_walk 7 s ([.ref y, .int a, .int b, .int i, .int nn] : List Value).toArray wsX9_walk RX9 := X.1
  have iX9 := jX9_walk_X9
  intro mN
  induction mN with
  | zero => intro k q m_seen m_mirrors cy hpd_cy hrg_ma_ hk hsm hm; exact absurd hm (Nat.not_lt_zero _)
  | succ mN ih =>
    intro k q m_seen m_mirrors cy hpd_cy hrg_ma_ hk hsm hm H locs ls hP hD hS hl
    refine lv_iload S.1 S.2.1 dX9_walk_130 (lv_at hl 0 rfl) ?_
    refine lv_iload S.1 S.2.1 dX9_walk_132 (lv_at hl 6 rfl) ?_
    refine lv_icmp_ge (tgt := 167) S.1 S.2.1 dX9_walk_134 (by decide) (fun c_201 => ?_) (fun c_201 => ?_)
    · rw [le2 (a := nn) (b := k) (A := nn.toInt) (B := k.toInt) rfl rfl] at c_201
      exact K k q m_seen m_mirrors cy (by first | assumption | omega | decide | (rw [show Int32.toInt 0 = 0 from rfl]; omega)) (by first | assumption | omega | decide | (rw [show Int32.toInt 0 = 0 from rfl]; omega)) (by first | assumption | omega | decide | (rw [show Int32.toInt 0 = 0 from rfl]; omega)) (by first | assumption | omega | decide | (rw [show Int32.toInt 0 = 0 from rfl]; omega)) H _ ls hP hD hS (lv_sub hl [0, 1, 2, 3, 4, 5, 6] rfl)
    · rw [le2 (a := nn) (b := k) (A := nn.toInt) (B := k.toInt) rfl rfl] at c_201
      refine lv_iload S.1 S.2.1 dX9_walk_137 (lv_at hl 1 rfl) ?_
      refine lv_aload_n S.1 S.2.1 dX9_walk_139 rfl (lv_at hl 2 rfl) ?_
      refine lv_iload_n S.1 S.2.1 dX9_walk_140 rfl (lv_at hl 3 rfl) ?_
      refine lv_aload_n S.1 S.2.1 dX9_walk_141 rfl (lv_at hl 2 rfl) ?_
      refine b_get (v := .ref y_item) S iX9 hK hP 0 rfl rfl 4 (by decide) (by decide +kernel) rfl dX9_walk_142 ?_
      refine lv_bipush (v := (40)) S.1 S.2.1 dX9_walk_145 (by decide) ?_
      refine lv_iload_n S.1 S.2.1 dX9_walk_147 rfl (lv_at hl 4 rfl) ?_
      refine lv_imul S.1 S.2.1 dX9_walk_148 ?_
      refine lv_topi (fun x_202 ex_202 => ?_)
      have tx_202 : x_202.toInt = 40 * b.toInt := mulI (A := 40) (B := b.toInt) ex_202 rfl rfl (by omega) (by omega)
      refine lv_iload_n S.1 S.2.1 dX9_walk_149 rfl (lv_at hl 5 rfl) ?_
      refine lv_iadd S.1 S.2.1 dX9_walk_150 ?_
      refine lv_topi (fun x_203 ex_203 => ?_)
      have tx_203 : x_203.toInt = x_202.toInt + (i.toInt) := addI (A := x_202.toInt) (B := i.toInt) ex_203 rfl rfl (by omega) (by omega)
      refine lv_iload S.1 S.2.1 dX9_walk_151 (lv_at hl 0 rfl) ?_
      refine lv_iadd S.1 S.2.1 dX9_walk_153 ?_
      refine lv_topi (fun x_204 ex_204 => ?_)
      have tx_204 : x_204.toInt = x_203.toInt + (k.toInt) := addI (A := x_203.toInt) (B := k.toInt) ex_204 rfl rfl (by omega) (by omega)
      have hin_205 : vp_in x_204 320 := (in_of (n := 320) (by omega) (by omega))
      refine va_iald S.1 S.2.1 hK.1 hP 3 0 rfl rfl hin_205 dX9_walk_154 ?_
      refine lv_topi (fun x_206 ex_206 => ?_)
      have gx_206 := sgm_get (i := x_204) hdd (by omega) (by omega) (by omega) ex_206
      refine b_ai (wr := [(y_lane, .inl (cI, 8, .inl la_)), (y_many, .inl (cI, 8, .inl ma_)), (y_item, .inl (cI, 320, .inl it_))]) (b_runV (q0 := 0) (ci := 9) (As := [.int a, .int x_206]) (s_X9_steps l D cI cZ cC cS sq H.size y y_city a x_206 (0) (0) y_lane y_many y_item y_fresh m_isThere y_tape m_taped m_latest m_length m_cursor m_token m_start m_till m_fault m_faultAt m_seen m_mirrors y_cost y_away y_fee y_goesTo y_priceWas y_isKept y_kept y_trace m_traced cy (by first | assumption | omega | decide | (rw [show Int32.toInt 0 = 0 from rfl]; omega)) (by first | assumption | omega | decide | (rw [show Int32.toInt 0 = 0 from rfl]; omega)) (by first | assumption | omega | decide | (rw [show Int32.toInt 0 = 0 from rfl]; omega)) (by first | assumption | omega | decide | (rw [show Int32.toInt 0 = 0 from rfl]; omega))) S gX9_walk_X9_steps rfl hdV_X9_steps ⟨Nat.le_of_ble_eq_true rfl, Nat.le_of_ble_eq_true rfl⟩ ⟨Nat.le_of_ble_eq_true rfl, Nat.le_of_ble_eq_true rfl⟩ hK hT hS hA hP hD rfl rfl [0, 4] rfl (by decide) rfl hl.1 rfl (Nat.le_of_ble_eq_true rfl) dX9_walk_155) hP hD hS hA [0, 4] [1, 2, 3] rfl rfl (by decide) (by decide) (fun r_207 w_208 H locs hw_209 hP hD hS => ?_)
      obtain ⟨m_seen2_210, m_mirrors2_211, cy2_212, hf_213, hf_214, rfl⟩ := hw_209
      have hP : va_P D vwCl [(y_lane, .inl (cI, 8, .inl la_)), (y_many, .inl (cI, 8, .inl ma_)), (y_item, .inl (cI, 320, .inl it_)), (y, .inr (9, [.int 0, .int 0, .ref y_lane, .ref y_many, .ref y_item, .ref y_city, .ref y_fresh, .int m_isThere, .ref y_tape, .int m_taped, .int m_latest, .int m_length, .int m_cursor, .int m_token, .int m_start, .int m_till, .int m_fault, .int m_faultAt, .int m_seen2_210, .int m_mirrors2_211, .ref y_cost, .ref y_away, .ref y_fee, .ref y_goesTo, .ref y_priceWas, .ref y_isKept, .ref y_kept, .ref y_trace, .int m_traced])), (y_city, .inl (cI, 192, .inl cy2_212))] H := hP
      have hD : va_D A [(y_lane, .inl (cI, 8, .inl la_)), (y_many, .inl (cI, 8, .inl ma_)), (y_item, .inl (cI, 320, .inl it_)), (y, .inr (9, [.int 0, .int 0, .ref y_lane, .ref y_many, .ref y_item, .ref y_city, .ref y_fresh, .int m_isThere, .ref y_tape, .int m_taped, .int m_latest, .int m_length, .int m_cursor, .int m_token, .int m_start, .int m_till, .int m_fault, .int m_faultAt, .int m_seen2_210, .int m_mirrors2_211, .ref y_cost, .ref y_away, .ref y_fee, .ref y_goesTo, .ref y_priceWas, .ref y_isKept, .ref y_kept, .ref y_trace, .int m_traced])), (y_city, .inl (cI, 192, .inl cy2_212))] := hD
      refine lv_iadd S.1 S.2.1 dX9_walk_158 ?_
      refine lv_topi (fun x_215 ex_215 => ?_)
      refine lv_istore (lv' := [(5, .int x_215), (6, .int k), (0, .ref y), (1, .int a), (2, .int b), (3, .int i), (4, .int nn)]) S.1 S.2.1 dX9_walk_159 hl (by decide) rfl (fun ls hl => ?_)
      obtain ⟨x_216, ex_216⟩ : ∃ y : Int32, y = k + Int32.ofInt (1) := ⟨_, rfl⟩
      refine lv_iinc (v := x_216) (lv' := [(6, .int x_216), (5, .int x_215), (0, .ref y), (1, .int a), (2, .int b), (3, .int i), (4, .int nn)]) S.1 S.2.1 dX9_walk_161 hl (k := 1) rfl ex_216.symm (by decide) rfl (fun ls hl => ?_)
      have tx_216 : x_216.toInt = k.toInt + (1) := addI (A := k.toInt) (B := 1) ex_216 rfl rfl (by omega) (by omega)
      refine lv_goto (tgt := 130) S.1 S.2.1 dX9_walk_164 (by decide) ?_
      have hP := hP.sub (ws' := [(y, .inr (9, [.int 0, .int 0, .ref y_lane, .ref y_many, .ref y_item, .ref y_city, .ref y_fresh, .int m_isThere, .ref y_tape, .int m_taped, .int m_latest, .int m_length, .int m_cursor, .int m_token, .int m_start, .int m_till, .int m_fault, .int m_faultAt, .int m_seen2_210, .int m_mirrors2_211, .ref y_cost, .ref y_away, .ref y_fee, .ref y_goesTo, .ref y_priceWas, .ref y_isKept, .ref y_kept, .ref y_trace, .int m_traced])), (y_lane, .inl (cI, 8, .inl la_)), (y_many, .inl (cI, 8, .inl ma_)), (y_item, .inl (cI, 320, .inl it_)), (y_city, .inl (cI, 192, .inl cy2_212))]) [3, 0, 1, 2, 4] rfl
      have hD := hD.sub (ws' := [(y, .inr (9, [.int 0, .int 0, .ref y_lane, .ref y_many, .ref y_item, .ref y_city, .ref y_fresh, .int m_isThere, .ref y_tape, .int m_taped, .int m_latest, .int m_length, .int m_cursor, .int m_token, .int m_start, .int m_till, .int m_fault, .int m_faultAt, .int m_seen2_210, .int m_mirrors2_211, .ref y_cost, .ref y_away, .ref y_fee, .ref y_goesTo, .ref y_priceWas, .ref y_isKept, .ref y_kept, .ref y_trace, .int m_traced])), (y_lane, .inl (cI, 8, .inl la_)), (y_many, .inl (cI, 8, .inl ma_)), (y_item, .inl (cI, 320, .inl it_)), (y_city, .inl (cI, 192, .inl cy2_212))]) [3, 0, 1, 2, 4] (by decide) rfl
      exact ih x_216 x_215 m_seen2_210 m_mirrors2_211 cy2_212 (by first | assumption | omega | decide | (rw [show Int32.toInt 0 = 0 from rfl]; omega)) (by first | assumption | omega | decide | (rw [show Int32.toInt 0 = 0 from rfl]; omega)) (by first | assumption | omega | decide | (rw [show Int32.toInt 0 = 0 from rfl]; omega)) (by first | assumption | omega | decide | (rw [show Int32.toInt 0 = 0 from rfl]; omega)) (by omega) H _ ls hP hD hS (lv_sub hl [0, 1, 2, 3, 4, 5, 6] rfl)
set_option maxHeartbeats 4000000 in
set_option maxRecDepth 100000 in
theorem s_X9_walk (l : Launch) (D : va_G) (cI cZ cC cS : ClassId) (sq : Nat → Nat) (sz : Nat) (y : Nat) (y_lane : Nat) (y_many : Nat) (y_item : Nat) (y_city : Nat) (a : Int32) (b : Int32) (i : Int32) (nn : Int32) (m_thrown : Int32) (m_status : Int32) (y_fresh : Nat) (m_isThere : Int32) (y_tape : Nat) (m_taped : Int32) (m_latest : Int32) (m_length : Int32) (m_cursor : Int32) (m_token : Int32) (m_start : Int32) (m_till : Int32) (m_fault : Int32) (m_faultAt : Int32) (m_seen : Int32) (m_mirrors : Int32) (y_cost : Nat) (y_away : Nat) (y_fee : Nat) (y_goesTo : Nat) (y_priceWas : Nat) (y_isKept : Nat) (y_kept : Nat) (y_trace : Nat) (m_traced : Int32) (la_ : Nat → Int32) (ma_ : Nat → Int32) (it_ : Nat → Int32) (cy : Nat → Int32) (hpd_cy : prd cyK 192 cy) (hrg_ma_ : rng ma_ 8 (0) (40)) (hsm : -1 ≤ m_seen.toInt ∧ m_seen.toInt < 80 ∧ 0 ≤ m_mirrors.toInt ∧ m_mirrors.toInt ≤ 2) : mI l yX9_walk wsX9_walk 50 2000 D (tyW cI cZ cC cS) sq [(y, .inr (9, [.int m_thrown, .int m_status, .ref y_lane, .ref y_many, .ref y_item, .ref y_city, .ref y_fresh, .int m_isThere, .ref y_tape, .int m_taped, .int m_latest, .int m_length, .int m_cursor, .int m_token, .int m_start, .int m_till, .int m_fault, .int m_faultAt, .int m_seen, .int m_mirrors, .ref y_cost, .ref y_away, .ref y_fee, .ref y_goesTo, .ref y_priceWas, .ref y_isKept, .ref y_kept, .ref y_trace, .int m_traced])), (y_lane, .inl (cI, 8, .inl la_)), (y_many, .inl (cI, 8, .inl ma_)), (y_item, .inl (cI, 320, .inl it_)), (y_city, .inl (cI, 192, .inl cy))] sz [.ref y, .int a, .int b, .int i, .int nn] (fun r w => (∃ (m_status2 : Int32), ∃ (m_seen2 : Int32), ∃ (m_mirrors2 : Int32), ∃ (cy2 : Nat → Int32), (prd cyK 192 cy2) ∧ (-1 ≤ m_seen2.toInt ∧ m_seen2.toInt < 80 ∧ 0 ≤ m_mirrors2.toInt ∧ m_mirrors2.toInt ≤ 2) ∧ w = [(y, .inr (9, [.int 0, .int m_status2, .ref y_lane, .ref y_many, .ref y_item, .ref y_city, .ref y_fresh, .int m_isThere, .ref y_tape, .int m_taped, .int m_latest, .int m_length, .int m_cursor, .int m_token, .int m_start, .int m_till, .int m_fault, .int m_faultAt, .int m_seen2, .int m_mirrors2, .ref y_cost, .ref y_away, .ref y_fee, .ref y_goesTo, .ref y_priceWas, .ref y_isKept, .ref y_kept, .ref y_trace, .int m_traced])), (y_lane, .inl (cI, 8, .inl la_)), (y_many, .inl (cI, 8, .inl ma_)), (y_item, .inl (cI, 320, .inl it_)), (y_city, .inl (cI, 192, .inl cy2))])) := by
  refine b_metI (cc := cX9_walk) (maxL := 7) (ret := (some .int)) (by decide) rfl (Nat.le_of_ble_eq_true rfl) ?_
  intro p e s m below meth c ls A H X hsz hP hK hT hD hA hS hl
  have S : CallFix p m c cX9_walk 7 s ([.ref y, .int a, .int b, .int i, .int nn] : List Value).toArray wsX9_walk RX9 := X.1
  have hl : lv_has ls 7 [(0, .ref y), (1, .int a), (2, .int b), (3, .int i), (4, .int nn)] := hl
  have iX9 := jX9_walk_X9
  refine lv_aload_n S.1 S.2.1 dX9_walk_0 rfl (lv_at hl 0 rfl) ?_
  refine lv_iconst (v := (0)) S.1 S.2.1 dX9_walk_1 (by decide) ?_
  refine b_put (v := .int 0) S iX9 tyX9 tyX9_ok nmX9 hK hP hD hS 0 rfl rfl 0 (by decide) (by decide +kernel) rfl rfl rfl (Nat.le_of_ble_eq_true rfl) dX9_walk_2 (fun H locs hP hD hS => ?_)
  have hP : va_P D vwCl [(y, .inr (9, [.int 0, .int m_status, .ref y_lane, .ref y_many, .ref y_item, .ref y_city, .ref y_fresh, .int m_isThere, .ref y_tape, .int m_taped, .int m_latest, .int m_length, .int m_cursor, .int m_token, .int m_start, .int m_till, .int m_fault, .int m_faultAt, .int m_seen, .int m_mirrors, .ref y_cost, .ref y_away, .ref y_fee, .ref y_goesTo, .ref y_priceWas, .ref y_isKept, .ref y_kept, .ref y_trace, .int m_traced])), (y_lane, .inl (cI, 8, .inl la_)), (y_many, .inl (cI, 8, .inl ma_)), (y_item, .inl (cI, 320, .inl it_)), (y_city, .inl (cI, 192, .inl cy))] H := hP
  have hD : va_D A [(y, .inr (9, [.int 0, .int m_status, .ref y_lane, .ref y_many, .ref y_item, .ref y_city, .ref y_fresh, .int m_isThere, .ref y_tape, .int m_taped, .int m_latest, .int m_length, .int m_cursor, .int m_token, .int m_start, .int m_till, .int m_fault, .int m_faultAt, .int m_seen, .int m_mirrors, .ref y_cost, .ref y_away, .ref y_fee, .ref y_goesTo, .ref y_priceWas, .ref y_isKept, .ref y_kept, .ref y_trace, .int m_traced])), (y_lane, .inl (cI, 8, .inl la_)), (y_many, .inl (cI, 8, .inl ma_)), (y_item, .inl (cI, 320, .inl it_)), (y_city, .inl (cI, 192, .inl cy))] := hD
  refine lv_aload_n S.1 S.2.1 dX9_walk_5 rfl (lv_at hl 0 rfl) ?_
  refine lv_iload_n S.1 S.2.1 dX9_walk_6 rfl (lv_at hl 1 rfl) ?_
  refine b_ai (wr := [(y_lane, .inl (cI, 8, .inl la_)), (y_many, .inl (cI, 8, .inl ma_)), (y_item, .inl (cI, 320, .inl it_))]) (b_runV (q0 := 0) (ci := 9) (As := [.int a]) (s_X9_isOne l D cI cZ cC cS sq H.size y y_city a (0) m_status y_lane y_many y_item y_fresh m_isThere y_tape m_taped m_latest m_length m_cursor m_token m_start m_till m_fault m_faultAt m_seen m_mirrors y_cost y_away y_fee y_goesTo y_priceWas y_isKept y_kept y_trace m_traced cy (by first | assumption | omega | decide | (rw [show Int32.toInt 0 = 0 from rfl]; omega))) S gX9_walk_X9_isOne rfl hdV_X9_isOne ⟨Nat.le_of_ble_eq_true rfl, Nat.le_of_ble_eq_true rfl⟩ ⟨Nat.le_of_ble_eq_true rfl, Nat.le_of_ble_eq_true rfl⟩ hK hT hS hA hP hD rfl rfl [0, 4] rfl (by decide) rfl hl.1 rfl (Nat.le_of_ble_eq_true rfl) dX9_walk_7) hP hD hS hA [0, 4] [1, 2, 3] rfl rfl (by decide) (by decide) (fun r_1 w_2 H locs hw_3 hP hD hS => ?_)
  rcases hw_3 with ⟨hf_4, rfl, rfl⟩ | ⟨hf_5, rfl, rfl⟩
  · have hP : va_P D vwCl [(y_lane, .inl (cI, 8, .inl la_)), (y_many, .inl (cI, 8, .inl ma_)), (y_item, .inl (cI, 320, .inl it_)), (y, .inr (9, [.int 0, .int m_status, .ref y_lane, .ref y_many, .ref y_item, .ref y_city, .ref y_fresh, .int m_isThere, .ref y_tape, .int m_taped, .int m_latest, .int m_length, .int m_cursor, .int m_token, .int m_start, .int m_till, .int m_fault, .int m_faultAt, .int m_seen, .int m_mirrors, .ref y_cost, .ref y_away, .ref y_fee, .ref y_goesTo, .ref y_priceWas, .ref y_isKept, .ref y_kept, .ref y_trace, .int m_traced])), (y_city, .inl (cI, 192, .inl cy))] H := hP
    have hD : va_D A [(y_lane, .inl (cI, 8, .inl la_)), (y_many, .inl (cI, 8, .inl ma_)), (y_item, .inl (cI, 320, .inl it_)), (y, .inr (9, [.int 0, .int m_status, .ref y_lane, .ref y_many, .ref y_item, .ref y_city, .ref y_fresh, .int m_isThere, .ref y_tape, .int m_taped, .int m_latest, .int m_length, .int m_cursor, .int m_token, .int m_start, .int m_till, .int m_fault, .int m_faultAt, .int m_seen, .int m_mirrors, .ref y_cost, .ref y_away, .ref y_fee, .ref y_goesTo, .ref y_priceWas, .ref y_isKept, .ref y_kept, .ref y_trace, .int m_traced])), (y_city, .inl (cI, 192, .inl cy))] := hD
    refine lv_if_eq (tgt := 33) S.1 S.2.1 dX9_walk_10 (by decide) (fun c_6 => absurd c_6 (by decide)) (fun c_6 => ?_)
    refine lv_iload_n S.1 S.2.1 dX9_walk_13 rfl (lv_at hl 2 rfl) ?_
    refine b_ai (wr := [(y_lane, .inl (cI, 8, .inl la_)), (y_many, .inl (cI, 8, .inl ma_)), (y_item, .inl (cI, 320, .inl it_)), (y, .inr (9, [.int 0, .int m_status, .ref y_lane, .ref y_many, .ref y_item, .ref y_city, .ref y_fresh, .int m_isThere, .ref y_tape, .int m_taped, .int m_latest, .int m_length, .int m_cursor, .int m_token, .int m_start, .int m_till, .int m_fault, .int m_faultAt, .int m_seen, .int m_mirrors, .ref y_cost, .ref y_away, .ref y_fee, .ref y_goesTo, .ref y_priceWas, .ref y_isKept, .ref y_kept, .ref y_trace, .int m_traced])), (y_city, .inl (cI, 192, .inl cy))]) (b_runS (As := [.int b]) (s_X9_isSheet l D cI cZ cC cS sq H.size b) S gX9_walk_X9_isSheet rfl hdS_X9_isSheet ⟨Nat.le_of_ble_eq_true rfl, Nat.le_of_ble_eq_true rfl⟩ ⟨Nat.le_of_ble_eq_true rfl, Nat.le_of_ble_eq_true rfl⟩ hK hT hS hA hP hD [] rfl (by decide) rfl hl.1 rfl (Nat.le_of_ble_eq_true rfl) dX9_walk_14) hP hD hS hA [] [0, 1, 2, 3, 4] rfl rfl (by decide) (by decide) (fun r_7 w_8 H locs hw_9 hP hD hS => ?_)
    rcases hw_9 with ⟨hf_10, rfl, rfl⟩ | ⟨hf_11, rfl, rfl⟩
    · have hP : va_P D vwCl [(y_lane, .inl (cI, 8, .inl la_)), (y_many, .inl (cI, 8, .inl ma_)), (y_item, .inl (cI, 320, .inl it_)), (y, .inr (9, [.int 0, .int m_status, .ref y_lane, .ref y_many, .ref y_item, .ref y_city, .ref y_fresh, .int m_isThere, .ref y_tape, .int m_taped, .int m_latest, .int m_length, .int m_cursor, .int m_token, .int m_start, .int m_till, .int m_fault, .int m_faultAt, .int m_seen, .int m_mirrors, .ref y_cost, .ref y_away, .ref y_fee, .ref y_goesTo, .ref y_priceWas, .ref y_isKept, .ref y_kept, .ref y_trace, .int m_traced])), (y_city, .inl (cI, 192, .inl cy))] H := hP
      have hD : va_D A [(y_lane, .inl (cI, 8, .inl la_)), (y_many, .inl (cI, 8, .inl ma_)), (y_item, .inl (cI, 320, .inl it_)), (y, .inr (9, [.int 0, .int m_status, .ref y_lane, .ref y_many, .ref y_item, .ref y_city, .ref y_fresh, .int m_isThere, .ref y_tape, .int m_taped, .int m_latest, .int m_length, .int m_cursor, .int m_token, .int m_start, .int m_till, .int m_fault, .int m_faultAt, .int m_seen, .int m_mirrors, .ref y_cost, .ref y_away, .ref y_fee, .ref y_goesTo, .ref y_priceWas, .ref y_isKept, .ref y_kept, .ref y_trace, .int m_traced])), (y_city, .inl (cI, 192, .inl cy))] := hD
      refine lv_if_eq (tgt := 33) S.1 S.2.1 dX9_walk_17 (by decide) (fun c_12 => absurd c_12 (by decide)) (fun c_12 => ?_)
      refine lv_iload S.1 S.2.1 dX9_walk_20 (lv_at hl 4 rfl) ?_
      refine lv_i2l (v := nn.toInt64) S.1 S.2.1 dX9_walk_22 rfl ?_
      refine lv_lconst (v := 1) S.1 S.2.1 dX9_walk_23 (by decide) ?_
      refine lv_ldc2 (v := (40)) S.1 S.2.1 S.2.2.2.1 (S.2.2.2.2 (.constantLong RX9 256 (40)) (by decide +kernel)) dX9_walk_24 ?_
      refine b_ai (wr := [(y_lane, .inl (cI, 8, .inl la_)), (y_many, .inl (cI, 8, .inl ma_)), (y_item, .inl (cI, 320, .inl it_)), (y, .inr (9, [.int 0, .int m_status, .ref y_lane, .ref y_many, .ref y_item, .ref y_city, .ref y_fresh, .int m_isThere, .ref y_tape, .int m_taped, .int m_latest, .int m_length, .int m_cursor, .int m_token, .int m_start, .int m_till, .int m_fault, .int m_faultAt, .int m_seen, .int m_mirrors, .ref y_cost, .ref y_away, .ref y_fee, .ref y_goesTo, .ref y_priceWas, .ref y_isKept, .ref y_kept, .ref y_trace, .int m_traced])), (y_city, .inl (cI, 192, .inl cy))]) (b_runS (As := [.long (nn.toInt64), .long 1, .long 40]) (s_X9_in l D cI cZ cC cS sq H.size (nn.toInt64) (1) (40)) S gX9_walk_X9_in rfl hdS_X9_in ⟨Nat.le_of_ble_eq_true rfl, Nat.le_of_ble_eq_true rfl⟩ ⟨Nat.le_of_ble_eq_true rfl, Nat.le_of_ble_eq_true rfl⟩ hK hT hS hA hP hD [] rfl (by decide) rfl hl.1 rfl (Nat.le_of_ble_eq_true rfl) dX9_walk_27) hP hD hS hA [] [0, 1, 2, 3, 4] rfl rfl (by decide) (by decide) (fun r_13 w_14 H locs hw_15 hP hD hS => ?_)
      rcases hw_15 with ⟨hf_16, rfl, rfl⟩ | ⟨hf_17, rfl, rfl⟩
      · have hf_16 : (1) ≤ nn.toInt ∧ nn.toInt ≤ (40) := by simp only [Int32.toInt_toInt64] at hf_16; exact hf_16
        have hP : va_P D vwCl [(y_lane, .inl (cI, 8, .inl la_)), (y_many, .inl (cI, 8, .inl ma_)), (y_item, .inl (cI, 320, .inl it_)), (y, .inr (9, [.int 0, .int m_status, .ref y_lane, .ref y_many, .ref y_item, .ref y_city, .ref y_fresh, .int m_isThere, .ref y_tape, .int m_taped, .int m_latest, .int m_length, .int m_cursor, .int m_token, .int m_start, .int m_till, .int m_fault, .int m_faultAt, .int m_seen, .int m_mirrors, .ref y_cost, .ref y_away, .ref y_fee, .ref y_goesTo, .ref y_priceWas, .ref y_isKept, .ref y_kept, .ref y_trace, .int m_traced])), (y_city, .inl (cI, 192, .inl cy))] H := hP
        have hD : va_D A [(y_lane, .inl (cI, 8, .inl la_)), (y_many, .inl (cI, 8, .inl ma_)), (y_item, .inl (cI, 320, .inl it_)), (y, .inr (9, [.int 0, .int m_status, .ref y_lane, .ref y_many, .ref y_item, .ref y_city, .ref y_fresh, .int m_isThere, .ref y_tape, .int m_taped, .int m_latest, .int m_length, .int m_cursor, .int m_token, .int m_start, .int m_till, .int m_fault, .int m_faultAt, .int m_seen, .int m_mirrors, .ref y_cost, .ref y_away, .ref y_fee, .ref y_goesTo, .ref y_priceWas, .ref y_isKept, .ref y_kept, .ref y_trace, .int m_traced])), (y_city, .inl (cI, 192, .inl cy))] := hD
        refine lv_if_ne (tgt := 36) S.1 S.2.1 dX9_walk_30 (by decide) (fun c_18 => ?_) (fun c_18 => absurd c_18 (by decide))
        refine lv_aload_n S.1 S.2.1 dX9_walk_36 rfl (lv_at hl 0 rfl) ?_
        refine b_get (v := .ref y_lane) S iX9 hK hP 3 rfl rfl 2 (by decide) (by decide +kernel) rfl dX9_walk_37 ?_
        refine lv_iload_n S.1 S.2.1 dX9_walk_40 rfl (lv_at hl 2 rfl) ?_
        have hin_19 : vp_in b 8 := (in_of (n := 8) (by omega) (by omega))
        refine va_iald S.1 S.2.1 hK.1 hP 0 0 rfl rfl hin_19 dX9_walk_41 ?_
        refine lv_topi (fun x_20 ex_20 => ?_)
        refine lv_if_ge (tgt := 51) S.1 S.2.1 dX9_walk_42 (by decide) (fun c_21 => ?_) (fun c_21 => ?_)
        · rw [le2 (a := 0) (b := x_20) (A := 0) (B := x_20.toInt) rfl rfl] at c_21
          refine lv_iload_n S.1 S.2.1 dX9_walk_51 rfl (lv_at hl 3 rfl) ?_
          refine lv_if_lt (tgt := 72) S.1 S.2.1 dX9_walk_52 (by decide) (fun c_22 => ?_) (fun c_22 => ?_)
          · rw [lt2 (a := i) (b := 0) (A := i.toInt) (B := 0) rfl rfl] at c_22
            refine lv_aload_n S.1 S.2.1 dX9_walk_72 rfl (lv_at hl 0 rfl) ?_
            refine lv_iconst (v := (2)) S.1 S.2.1 dX9_walk_73 (by decide) ?_
            refine b_ai (wr := [(y_lane, .inl (cI, 8, .inl la_)), (y_many, .inl (cI, 8, .inl ma_)), (y_item, .inl (cI, 320, .inl it_)), (y_city, .inl (cI, 192, .inl cy))]) (b_runV (q0 := 3) (ci := 9) (As := [.int 2]) (s_X9_finding_2 l D cI cZ cC cS sq H.size y (0) m_status y_lane y_many y_item y_city y_fresh m_isThere y_tape m_taped m_latest m_length m_cursor m_token m_start m_till m_fault m_faultAt m_seen m_mirrors y_cost y_away y_fee y_goesTo y_priceWas y_isKept y_kept y_trace m_traced) S gX9_walk_X9_finding rfl hdV_X9_finding ⟨Nat.le_of_ble_eq_true rfl, Nat.le_of_ble_eq_true rfl⟩ ⟨Nat.le_of_ble_eq_true rfl, Nat.le_of_ble_eq_true rfl⟩ hK hT hS hA hP hD rfl rfl [3] rfl (by decide) rfl hl.1 rfl (Nat.le_of_ble_eq_true rfl) dX9_walk_74) hP hD hS hA [3] [0, 1, 2, 4] rfl rfl (by decide) (by decide) (fun r_23 w_24 H locs hw_25 hP hD hS => ?_)
            obtain ⟨rfl, rfl⟩ := hw_25
            have hP : va_P D vwCl [(y_lane, .inl (cI, 8, .inl la_)), (y_many, .inl (cI, 8, .inl ma_)), (y_item, .inl (cI, 320, .inl it_)), (y_city, .inl (cI, 192, .inl cy)), (y, .inr (9, [.int 0, .int 2, .ref y_lane, .ref y_many, .ref y_item, .ref y_city, .ref y_fresh, .int m_isThere, .ref y_tape, .int m_taped, .int m_latest, .int m_length, .int m_cursor, .int m_token, .int m_start, .int m_till, .int m_fault, .int m_faultAt, .int m_seen, .int m_mirrors, .ref y_cost, .ref y_away, .ref y_fee, .ref y_goesTo, .ref y_priceWas, .ref y_isKept, .ref y_kept, .ref y_trace, .int m_traced]))] H := hP
            have hD : va_D A [(y_lane, .inl (cI, 8, .inl la_)), (y_many, .inl (cI, 8, .inl ma_)), (y_item, .inl (cI, 320, .inl it_)), (y_city, .inl (cI, 192, .inl cy)), (y, .inr (9, [.int 0, .int 2, .ref y_lane, .ref y_many, .ref y_item, .ref y_city, .ref y_fresh, .int m_isThere, .ref y_tape, .int m_taped, .int m_latest, .int m_length, .int m_cursor, .int m_token, .int m_start, .int m_till, .int m_fault, .int m_faultAt, .int m_seen, .int m_mirrors, .ref y_cost, .ref y_away, .ref y_fee, .ref y_goesTo, .ref y_priceWas, .ref y_isKept, .ref y_kept, .ref y_trace, .int m_traced]))] := hD
            have hP := hP.sub (ws' := [(y, .inr (9, [.int 0, .int 2, .ref y_lane, .ref y_many, .ref y_item, .ref y_city, .ref y_fresh, .int m_isThere, .ref y_tape, .int m_taped, .int m_latest, .int m_length, .int m_cursor, .int m_token, .int m_start, .int m_till, .int m_fault, .int m_faultAt, .int m_seen, .int m_mirrors, .ref y_cost, .ref y_away, .ref y_fee, .ref y_goesTo, .ref y_priceWas, .ref y_isKept, .ref y_kept, .ref y_trace, .int m_traced])), (y_lane, .inl (cI, 8, .inl la_)), (y_many, .inl (cI, 8, .inl ma_)), (y_item, .inl (cI, 320, .inl it_)), (y_city, .inl (cI, 192, .inl cy))]) [4, 0, 1, 2, 3] rfl
            have hD := hD.sub (ws' := [(y, .inr (9, [.int 0, .int 2, .ref y_lane, .ref y_many, .ref y_item, .ref y_city, .ref y_fresh, .int m_isThere, .ref y_tape, .int m_taped, .int m_latest, .int m_length, .int m_cursor, .int m_token, .int m_start, .int m_till, .int m_fault, .int m_faultAt, .int m_seen, .int m_mirrors, .ref y_cost, .ref y_away, .ref y_fee, .ref y_goesTo, .ref y_priceWas, .ref y_isKept, .ref y_kept, .ref y_trace, .int m_traced])), (y_lane, .inl (cI, 8, .inl la_)), (y_many, .inl (cI, 8, .inl ma_)), (y_item, .inl (cI, 320, .inl it_)), (y_city, .inl (cI, 192, .inl cy))]) [4, 0, 1, 2, 3] (by decide) rfl
            have lqm1000012 : Int32.toInt (-1000012) = -1000012 := by decide
            have lq2 : Int32.toInt (2) = 2 := by decide
            exact b_iret S.1 S.2.1 X.2.1 X.2.2.1 hP hD hS ⟨(2), m_seen, m_mirrors, cy, (by first | assumption | omega | decide | (rw [show Int32.toInt 0 = 0 from rfl]; omega)), (by first | assumption | omega | decide | (rw [show Int32.toInt 0 = 0 from rfl]; omega)), rfl⟩ dX9_walk_77
          · rw [lt2 (a := i) (b := 0) (A := i.toInt) (B := 0) rfl rfl] at c_22
            refine lv_iload_n S.1 S.2.1 dX9_walk_55 rfl (lv_at hl 3 rfl) ?_
            refine lv_i2l (v := i.toInt64) S.1 S.2.1 dX9_walk_56 rfl ?_
            refine lv_iload S.1 S.2.1 dX9_walk_57 (lv_at hl 4 rfl) ?_
            refine lv_i2l (v := nn.toInt64) S.1 S.2.1 dX9_walk_59 rfl ?_
            refine lv_ladd S.1 S.2.1 dX9_walk_60 ?_
            refine lv_aload_n S.1 S.2.1 dX9_walk_61 rfl (lv_at hl 0 rfl) ?_
            refine b_get (v := .ref y_many) S iX9 hK hP 3 rfl rfl 3 (by decide) (by decide +kernel) rfl dX9_walk_62 ?_
            refine lv_iload_n S.1 S.2.1 dX9_walk_65 rfl (lv_at hl 2 rfl) ?_
            have hin_26 : vp_in b 8 := (in_of (n := 8) (by omega) (by omega))
            refine va_iald S.1 S.2.1 hK.1 hP 1 0 rfl rfl hin_26 dX9_walk_66 ?_
            refine lv_topi (fun x_27 ex_27 => ?_)
            have tx_27 := rng_get (x := x_27) (show rng ma_ 8 (0) (40) by assumption) hin_26 ex_27
            refine lv_i2l (v := x_27.toInt64) S.1 S.2.1 dX9_walk_67 rfl ?_
            refine W.lcmp S.1 S.2.1 dX9_walk_68 ?_
            refine lv_if_le (tgt := 78) S.1 S.2.1 dX9_walk_69 (by decide) (fun c_28 => ?_) (fun c_28 => ?_)
            · rw [lg_cmp_le] at c_28; simp only [Int64.lt_iff_toInt_lt, Int64.le_iff_toInt_le, l_add2, Int32.toInt_toInt64] at c_28
              refine lv_iconst (v := (0)) S.1 S.2.1 dX9_walk_78 (by decide) ?_
              refine lv_istore (lv' := [(5, .int 0), (0, .ref y), (1, .int a), (2, .int b), (3, .int i), (4, .int nn)]) S.1 S.2.1 dX9_walk_79 hl (by decide) rfl (fun ls hl => ?_)
              have hP := hP.sub (ws' := [(y, .inr (9, [.int 0, .int m_status, .ref y_lane, .ref y_many, .ref y_item, .ref y_city, .ref y_fresh, .int m_isThere, .ref y_tape, .int m_taped, .int m_latest, .int m_length, .int m_cursor, .int m_token, .int m_start, .int m_till, .int m_fault, .int m_faultAt, .int m_seen, .int m_mirrors, .ref y_cost, .ref y_away, .ref y_fee, .ref y_goesTo, .ref y_priceWas, .ref y_isKept, .ref y_kept, .ref y_trace, .int m_traced])), (y_lane, .inl (cI, 8, .inl la_)), (y_many, .inl (cI, 8, .inl ma_)), (y_item, .inl (cI, 320, .inl it_)), (y_city, .inl (cI, 192, .inl cy))]) [3, 0, 1, 2, 4] rfl
              have hD := hD.sub (ws' := [(y, .inr (9, [.int 0, .int m_status, .ref y_lane, .ref y_many, .ref y_item, .ref y_city, .ref y_fresh, .int m_isThere, .ref y_tape, .int m_taped, .int m_latest, .int m_length, .int m_cursor, .int m_token, .int m_start, .int m_till, .int m_fault, .int m_faultAt, .int m_seen, .int m_mirrors, .ref y_cost, .ref y_away, .ref y_fee, .ref y_goesTo, .ref y_priceWas, .ref y_isKept, .ref y_kept, .ref y_trace, .int m_traced])), (y_lane, .inl (cI, 8, .inl la_)), (y_many, .inl (cI, 8, .inl ma_)), (y_item, .inl (cI, 320, .inl it_)), (y_city, .inl (cI, 192, .inl cy))]) [3, 0, 1, 2, 4] (by decide) rfl
              refine lp_mwalk1 l D cI cZ cC cS sq y y_lane y_many y_item y_city a b i nn m_thrown m_status y_fresh m_isThere y_tape m_taped m_latest m_length m_cursor m_token m_start m_till m_fault m_faultAt m_seen m_mirrors y_cost y_away y_fee y_goesTo y_priceWas y_isKept y_kept y_trace m_traced la_ ma_ it_ cy hpd_cy hrg_ma_ hsm (by first | assumption | omega | decide | (rw [show Int32.toInt 0 = 0 from rfl]; omega)) (by first | assumption | omega | decide | (rw [show Int32.toInt 0 = 0 from rfl]; omega)) X hK hT hA (fun k_29 hi_30 hi_31 hi_32 hi_33 hi_34 H locs ls hP hD hS hl => ?_) _ (0) (by first | assumption | omega | decide | (rw [show Int32.toInt 0 = 0 from rfl]; omega)) (by first | assumption | omega | decide | (rw [show Int32.toInt 0 = 0 from rfl]; omega)) (by first | assumption | omega | decide | (rw [show Int32.toInt 0 = 0 from rfl]; omega)) (fun j h1 h2 => absurd h2 (by first | omega | (rw [show Int32.toInt 0 = 0 from rfl]; omega))) (Nat.lt_succ_self _) H _ ls hP hD hS (lv_sub hl [0, 1, 2, 3, 4, 5] rfl)
              refine lv_aload_n S.1 S.2.1 dX9_walk_119 rfl (lv_at hl 1 rfl) ?_
              refine lv_iconst (v := (0)) S.1 S.2.1 dX9_walk_120 (by decide) ?_
              refine b_put (v := .int 0) S iX9 tyX9 tyX9_ok nmX9 hK hP hD hS 0 rfl rfl 1 (by decide) (by decide +kernel) rfl rfl rfl (Nat.le_of_ble_eq_true rfl) dX9_walk_121 (fun H locs hP hD hS => ?_)
              have hP : va_P D vwCl [(y, .inr (9, [.int 0, .int 0, .ref y_lane, .ref y_many, .ref y_item, .ref y_city, .ref y_fresh, .int m_isThere, .ref y_tape, .int m_taped, .int m_latest, .int m_length, .int m_cursor, .int m_token, .int m_start, .int m_till, .int m_fault, .int m_faultAt, .int m_seen, .int m_mirrors, .ref y_cost, .ref y_away, .ref y_fee, .ref y_goesTo, .ref y_priceWas, .ref y_isKept, .ref y_kept, .ref y_trace, .int m_traced])), (y_lane, .inl (cI, 8, .inl la_)), (y_many, .inl (cI, 8, .inl ma_)), (y_item, .inl (cI, 320, .inl it_)), (y_city, .inl (cI, 192, .inl cy))] H := hP
              have hD : va_D A [(y, .inr (9, [.int 0, .int 0, .ref y_lane, .ref y_many, .ref y_item, .ref y_city, .ref y_fresh, .int m_isThere, .ref y_tape, .int m_taped, .int m_latest, .int m_length, .int m_cursor, .int m_token, .int m_start, .int m_till, .int m_fault, .int m_faultAt, .int m_seen, .int m_mirrors, .ref y_cost, .ref y_away, .ref y_fee, .ref y_goesTo, .ref y_priceWas, .ref y_isKept, .ref y_kept, .ref y_trace, .int m_traced])), (y_lane, .inl (cI, 8, .inl la_)), (y_many, .inl (cI, 8, .inl ma_)), (y_item, .inl (cI, 320, .inl it_)), (y_city, .inl (cI, 192, .inl cy))] := hD
              refine lv_iconst (v := (0)) S.1 S.2.1 dX9_walk_124 (by decide) ?_
              refine lv_istore (lv' := [(5, .int 0), (0, .ref y), (1, .int a), (2, .int b), (3, .int i), (4, .int nn)]) S.1 S.2.1 dX9_walk_125 hl (by decide) rfl (fun ls hl => ?_)
              refine lv_iconst (v := (0)) S.1 S.2.1 dX9_walk_127 (by decide) ?_
              refine lv_istore (lv' := [(6, .int 0), (5, .int 0), (0, .ref y), (1, .int a), (2, .int b), (3, .int i), (4, .int nn)]) S.1 S.2.1 dX9_walk_128 hl (by decide) rfl (fun ls hl => ?_)
              refine lp_mwalk2 l D cI cZ cC cS sq y y_lane y_many y_item y_city a b i nn m_thrown m_status y_fresh m_isThere y_tape m_taped m_latest m_length m_cursor m_token m_start m_till m_fault m_faultAt m_seen m_mirrors y_cost y_away y_fee y_goesTo y_priceWas y_isKept y_kept y_trace m_traced la_ ma_ it_ cy hpd_cy hrg_ma_ hsm (by first | assumption | omega | decide | (rw [show Int32.toInt 0 = 0 from rfl]; omega)) (by first | assumption | omega | decide | (rw [show Int32.toInt 0 = 0 from rfl]; omega)) (sgm_sub (by assumption) (by omega)) X hK hT hA (fun k_35 q_36 m_seen_37 m_mirrors_38 cy_39 hi_40 hi_41 hi_42 hi_43 H locs ls hP hD hS hl => ?_) _ (0) (0) m_seen m_mirrors cy (by first | assumption | omega | decide | (rw [show Int32.toInt 0 = 0 from rfl]; omega)) (by first | assumption | omega | decide | (rw [show Int32.toInt 0 = 0 from rfl]; omega)) (by first | assumption | omega | decide | (rw [show Int32.toInt 0 = 0 from rfl]; omega)) (by first | assumption | omega | decide | (rw [show Int32.toInt 0 = 0 from rfl]; omega)) (Nat.lt_succ_self _) H _ ls hP hD hS (lv_sub hl [0, 1, 2, 3, 4, 5, 6] rfl)
              refine lv_iload S.1 S.2.1 dX9_walk_167 (lv_at hl 1 rfl) ?_
              have lq0 : Int32.toInt (0) = 0 := by decide
              exact b_iret S.1 S.2.1 X.2.1 X.2.2.1 hP hD hS ⟨(0), m_seen_37, m_mirrors_38, cy_39, (by first | assumption | omega | decide | (rw [show Int32.toInt 0 = 0 from rfl]; omega)), (by first | assumption | omega | decide | (rw [show Int32.toInt 0 = 0 from rfl]; omega)), rfl⟩ dX9_walk_169
            · rw [lg_cmp_le] at c_28; simp only [Int64.lt_iff_toInt_lt, Int64.le_iff_toInt_le, l_add2, Int32.toInt_toInt64] at c_28
              refine lv_aload_n S.1 S.2.1 dX9_walk_72 rfl (lv_at hl 0 rfl) ?_
              refine lv_iconst (v := (2)) S.1 S.2.1 dX9_walk_73 (by decide) ?_
              refine b_ai (wr := [(y_lane, .inl (cI, 8, .inl la_)), (y_many, .inl (cI, 8, .inl ma_)), (y_item, .inl (cI, 320, .inl it_)), (y_city, .inl (cI, 192, .inl cy))]) (b_runV (q0 := 3) (ci := 9) (As := [.int 2]) (s_X9_finding_2 l D cI cZ cC cS sq H.size y (0) m_status y_lane y_many y_item y_city y_fresh m_isThere y_tape m_taped m_latest m_length m_cursor m_token m_start m_till m_fault m_faultAt m_seen m_mirrors y_cost y_away y_fee y_goesTo y_priceWas y_isKept y_kept y_trace m_traced) S gX9_walk_X9_finding rfl hdV_X9_finding ⟨Nat.le_of_ble_eq_true rfl, Nat.le_of_ble_eq_true rfl⟩ ⟨Nat.le_of_ble_eq_true rfl, Nat.le_of_ble_eq_true rfl⟩ hK hT hS hA hP hD rfl rfl [3] rfl (by decide) rfl hl.1 rfl (Nat.le_of_ble_eq_true rfl) dX9_walk_74) hP hD hS hA [3] [0, 1, 2, 4] rfl rfl (by decide) (by decide) (fun r_44 w_45 H locs hw_46 hP hD hS => ?_)
              obtain ⟨rfl, rfl⟩ := hw_46
              have hP : va_P D vwCl [(y_lane, .inl (cI, 8, .inl la_)), (y_many, .inl (cI, 8, .inl ma_)), (y_item, .inl (cI, 320, .inl it_)), (y_city, .inl (cI, 192, .inl cy)), (y, .inr (9, [.int 0, .int 2, .ref y_lane, .ref y_many, .ref y_item, .ref y_city, .ref y_fresh, .int m_isThere, .ref y_tape, .int m_taped, .int m_latest, .int m_length, .int m_cursor, .int m_token, .int m_start, .int m_till, .int m_fault, .int m_faultAt, .int m_seen, .int m_mirrors, .ref y_cost, .ref y_away, .ref y_fee, .ref y_goesTo, .ref y_priceWas, .ref y_isKept, .ref y_kept, .ref y_trace, .int m_traced]))] H := hP
              have hD : va_D A [(y_lane, .inl (cI, 8, .inl la_)), (y_many, .inl (cI, 8, .inl ma_)), (y_item, .inl (cI, 320, .inl it_)), (y_city, .inl (cI, 192, .inl cy)), (y, .inr (9, [.int 0, .int 2, .ref y_lane, .ref y_many, .ref y_item, .ref y_city, .ref y_fresh, .int m_isThere, .ref y_tape, .int m_taped, .int m_latest, .int m_length, .int m_cursor, .int m_token, .int m_start, .int m_till, .int m_fault, .int m_faultAt, .int m_seen, .int m_mirrors, .ref y_cost, .ref y_away, .ref y_fee, .ref y_goesTo, .ref y_priceWas, .ref y_isKept, .ref y_kept, .ref y_trace, .int m_traced]))] := hD
              have hP := hP.sub (ws' := [(y, .inr (9, [.int 0, .int 2, .ref y_lane, .ref y_many, .ref y_item, .ref y_city, .ref y_fresh, .int m_isThere, .ref y_tape, .int m_taped, .int m_latest, .int m_length, .int m_cursor, .int m_token, .int m_start, .int m_till, .int m_fault, .int m_faultAt, .int m_seen, .int m_mirrors, .ref y_cost, .ref y_away, .ref y_fee, .ref y_goesTo, .ref y_priceWas, .ref y_isKept, .ref y_kept, .ref y_trace, .int m_traced])), (y_lane, .inl (cI, 8, .inl la_)), (y_many, .inl (cI, 8, .inl ma_)), (y_item, .inl (cI, 320, .inl it_)), (y_city, .inl (cI, 192, .inl cy))]) [4, 0, 1, 2, 3] rfl
              have hD := hD.sub (ws' := [(y, .inr (9, [.int 0, .int 2, .ref y_lane, .ref y_many, .ref y_item, .ref y_city, .ref y_fresh, .int m_isThere, .ref y_tape, .int m_taped, .int m_latest, .int m_length, .int m_cursor, .int m_token, .int m_start, .int m_till, .int m_fault, .int m_faultAt, .int m_seen, .int m_mirrors, .ref y_cost, .ref y_away, .ref y_fee, .ref y_goesTo, .ref y_priceWas, .ref y_isKept, .ref y_kept, .ref y_trace, .int m_traced])), (y_lane, .inl (cI, 8, .inl la_)), (y_many, .inl (cI, 8, .inl ma_)), (y_item, .inl (cI, 320, .inl it_)), (y_city, .inl (cI, 192, .inl cy))]) [4, 0, 1, 2, 3] (by decide) rfl
              have lqm1000012 : Int32.toInt (-1000012) = -1000012 := by decide
              have lq2 : Int32.toInt (2) = 2 := by decide
              exact b_iret S.1 S.2.1 X.2.1 X.2.2.1 hP hD hS ⟨(2), m_seen, m_mirrors, cy, (by first | assumption | omega | decide | (rw [show Int32.toInt 0 = 0 from rfl]; omega)), (by first | assumption | omega | decide | (rw [show Int32.toInt 0 = 0 from rfl]; omega)), rfl⟩ dX9_walk_77
        · rw [le2 (a := 0) (b := x_20) (A := 0) (B := x_20.toInt) rfl rfl] at c_21
          refine lv_aload_n S.1 S.2.1 dX9_walk_45 rfl (lv_at hl 0 rfl) ?_
          refine lv_iconst (v := (1)) S.1 S.2.1 dX9_walk_46 (by decide) ?_
          refine b_ai (wr := [(y_lane, .inl (cI, 8, .inl la_)), (y_many, .inl (cI, 8, .inl ma_)), (y_item, .inl (cI, 320, .inl it_)), (y_city, .inl (cI, 192, .inl cy))]) (b_runV (q0 := 3) (ci := 9) (As := [.int 1]) (s_X9_finding_1 l D cI cZ cC cS sq H.size y (0) m_status y_lane y_many y_item y_city y_fresh m_isThere y_tape m_taped m_latest m_length m_cursor m_token m_start m_till m_fault m_faultAt m_seen m_mirrors y_cost y_away y_fee y_goesTo y_priceWas y_isKept y_kept y_trace m_traced) S gX9_walk_X9_finding rfl hdV_X9_finding ⟨Nat.le_of_ble_eq_true rfl, Nat.le_of_ble_eq_true rfl⟩ ⟨Nat.le_of_ble_eq_true rfl, Nat.le_of_ble_eq_true rfl⟩ hK hT hS hA hP hD rfl rfl [3] rfl (by decide) rfl hl.1 rfl (Nat.le_of_ble_eq_true rfl) dX9_walk_47) hP hD hS hA [3] [0, 1, 2, 4] rfl rfl (by decide) (by decide) (fun r_47 w_48 H locs hw_49 hP hD hS => ?_)
          obtain ⟨rfl, rfl⟩ := hw_49
          have hP : va_P D vwCl [(y_lane, .inl (cI, 8, .inl la_)), (y_many, .inl (cI, 8, .inl ma_)), (y_item, .inl (cI, 320, .inl it_)), (y_city, .inl (cI, 192, .inl cy)), (y, .inr (9, [.int 0, .int 1, .ref y_lane, .ref y_many, .ref y_item, .ref y_city, .ref y_fresh, .int m_isThere, .ref y_tape, .int m_taped, .int m_latest, .int m_length, .int m_cursor, .int m_token, .int m_start, .int m_till, .int m_fault, .int m_faultAt, .int m_seen, .int m_mirrors, .ref y_cost, .ref y_away, .ref y_fee, .ref y_goesTo, .ref y_priceWas, .ref y_isKept, .ref y_kept, .ref y_trace, .int m_traced]))] H := hP
          have hD : va_D A [(y_lane, .inl (cI, 8, .inl la_)), (y_many, .inl (cI, 8, .inl ma_)), (y_item, .inl (cI, 320, .inl it_)), (y_city, .inl (cI, 192, .inl cy)), (y, .inr (9, [.int 0, .int 1, .ref y_lane, .ref y_many, .ref y_item, .ref y_city, .ref y_fresh, .int m_isThere, .ref y_tape, .int m_taped, .int m_latest, .int m_length, .int m_cursor, .int m_token, .int m_start, .int m_till, .int m_fault, .int m_faultAt, .int m_seen, .int m_mirrors, .ref y_cost, .ref y_away, .ref y_fee, .ref y_goesTo, .ref y_priceWas, .ref y_isKept, .ref y_kept, .ref y_trace, .int m_traced]))] := hD
          have hP := hP.sub (ws' := [(y, .inr (9, [.int 0, .int 1, .ref y_lane, .ref y_many, .ref y_item, .ref y_city, .ref y_fresh, .int m_isThere, .ref y_tape, .int m_taped, .int m_latest, .int m_length, .int m_cursor, .int m_token, .int m_start, .int m_till, .int m_fault, .int m_faultAt, .int m_seen, .int m_mirrors, .ref y_cost, .ref y_away, .ref y_fee, .ref y_goesTo, .ref y_priceWas, .ref y_isKept, .ref y_kept, .ref y_trace, .int m_traced])), (y_lane, .inl (cI, 8, .inl la_)), (y_many, .inl (cI, 8, .inl ma_)), (y_item, .inl (cI, 320, .inl it_)), (y_city, .inl (cI, 192, .inl cy))]) [4, 0, 1, 2, 3] rfl
          have hD := hD.sub (ws' := [(y, .inr (9, [.int 0, .int 1, .ref y_lane, .ref y_many, .ref y_item, .ref y_city, .ref y_fresh, .int m_isThere, .ref y_tape, .int m_taped, .int m_latest, .int m_length, .int m_cursor, .int m_token, .int m_start, .int m_till, .int m_fault, .int m_faultAt, .int m_seen, .int m_mirrors, .ref y_cost, .ref y_away, .ref y_fee, .ref y_goesTo, .ref y_priceWas, .ref y_isKept, .ref y_kept, .ref y_trace, .int m_traced])), (y_lane, .inl (cI, 8, .inl la_)), (y_many, .inl (cI, 8, .inl ma_)), (y_item, .inl (cI, 320, .inl it_)), (y_city, .inl (cI, 192, .inl cy))]) [4, 0, 1, 2, 3] (by decide) rfl
          have lqm1000011 : Int32.toInt (-1000011) = -1000011 := by decide
          have lq1 : Int32.toInt (1) = 1 := by decide
          exact b_iret S.1 S.2.1 X.2.1 X.2.2.1 hP hD hS ⟨(1), m_seen, m_mirrors, cy, (by first | assumption | omega | decide | (rw [show Int32.toInt 0 = 0 from rfl]; omega)), (by first | assumption | omega | decide | (rw [show Int32.toInt 0 = 0 from rfl]; omega)), rfl⟩ dX9_walk_50
      · have hf_17 : nn.toInt < (1) ∨ (40) < nn.toInt := by simp only [Int32.toInt_toInt64] at hf_17; exact hf_17
        have hP : va_P D vwCl [(y_lane, .inl (cI, 8, .inl la_)), (y_many, .inl (cI, 8, .inl ma_)), (y_item, .inl (cI, 320, .inl it_)), (y, .inr (9, [.int 0, .int m_status, .ref y_lane, .ref y_many, .ref y_item, .ref y_city, .ref y_fresh, .int m_isThere, .ref y_tape, .int m_taped, .int m_latest, .int m_length, .int m_cursor, .int m_token, .int m_start, .int m_till, .int m_fault, .int m_faultAt, .int m_seen, .int m_mirrors, .ref y_cost, .ref y_away, .ref y_fee, .ref y_goesTo, .ref y_priceWas, .ref y_isKept, .ref y_kept, .ref y_trace, .int m_traced])), (y_city, .inl (cI, 192, .inl cy))] H := hP
        have hD : va_D A [(y_lane, .inl (cI, 8, .inl la_)), (y_many, .inl (cI, 8, .inl ma_)), (y_item, .inl (cI, 320, .inl it_)), (y, .inr (9, [.int 0, .int m_status, .ref y_lane, .ref y_many, .ref y_item, .ref y_city, .ref y_fresh, .int m_isThere, .ref y_tape, .int m_taped, .int m_latest, .int m_length, .int m_cursor, .int m_token, .int m_start, .int m_till, .int m_fault, .int m_faultAt, .int m_seen, .int m_mirrors, .ref y_cost, .ref y_away, .ref y_fee, .ref y_goesTo, .ref y_priceWas, .ref y_isKept, .ref y_kept, .ref y_trace, .int m_traced])), (y_city, .inl (cI, 192, .inl cy))] := hD
        refine lv_if_ne (tgt := 36) S.1 S.2.1 dX9_walk_30 (by decide) (fun c_50 => absurd c_50 (by decide)) (fun c_50 => ?_)
        refine lv_ldc (v := (-1000001)) S.1 S.2.1 S.2.2.2.1 (S.2.2.2.2 (.constant RX9 73 (-1000001)) (by decide +kernel)) dX9_walk_33 ?_
        have hP := hP.sub (ws' := [(y, .inr (9, [.int 0, .int m_status, .ref y_lane, .ref y_many, .ref y_item, .ref y_city, .ref y_fresh, .int m_isThere, .ref y_tape, .int m_taped, .int m_latest, .int m_length, .int m_cursor, .int m_token, .int m_start, .int m_till, .int m_fault, .int m_faultAt, .int m_seen, .int m_mirrors, .ref y_cost, .ref y_away, .ref y_fee, .ref y_goesTo, .ref y_priceWas, .ref y_isKept, .ref y_kept, .ref y_trace, .int m_traced])), (y_lane, .inl (cI, 8, .inl la_)), (y_many, .inl (cI, 8, .inl ma_)), (y_item, .inl (cI, 320, .inl it_)), (y_city, .inl (cI, 192, .inl cy))]) [3, 0, 1, 2, 4] rfl
        have hD := hD.sub (ws' := [(y, .inr (9, [.int 0, .int m_status, .ref y_lane, .ref y_many, .ref y_item, .ref y_city, .ref y_fresh, .int m_isThere, .ref y_tape, .int m_taped, .int m_latest, .int m_length, .int m_cursor, .int m_token, .int m_start, .int m_till, .int m_fault, .int m_faultAt, .int m_seen, .int m_mirrors, .ref y_cost, .ref y_away, .ref y_fee, .ref y_goesTo, .ref y_priceWas, .ref y_isKept, .ref y_kept, .ref y_trace, .int m_traced])), (y_lane, .inl (cI, 8, .inl la_)), (y_many, .inl (cI, 8, .inl ma_)), (y_item, .inl (cI, 320, .inl it_)), (y_city, .inl (cI, 192, .inl cy))]) [3, 0, 1, 2, 4] (by decide) rfl
        have lqm1000001 : Int32.toInt (-1000001) = -1000001 := by decide
        exact b_iret S.1 S.2.1 X.2.1 X.2.2.1 hP hD hS ⟨m_status, m_seen, m_mirrors, cy, (by first | assumption | omega | decide | (rw [show Int32.toInt 0 = 0 from rfl]; omega)), (by first | assumption | omega | decide | (rw [show Int32.toInt 0 = 0 from rfl]; omega)), rfl⟩ dX9_walk_35
    · have hP : va_P D vwCl [(y_lane, .inl (cI, 8, .inl la_)), (y_many, .inl (cI, 8, .inl ma_)), (y_item, .inl (cI, 320, .inl it_)), (y, .inr (9, [.int 0, .int m_status, .ref y_lane, .ref y_many, .ref y_item, .ref y_city, .ref y_fresh, .int m_isThere, .ref y_tape, .int m_taped, .int m_latest, .int m_length, .int m_cursor, .int m_token, .int m_start, .int m_till, .int m_fault, .int m_faultAt, .int m_seen, .int m_mirrors, .ref y_cost, .ref y_away, .ref y_fee, .ref y_goesTo, .ref y_priceWas, .ref y_isKept, .ref y_kept, .ref y_trace, .int m_traced])), (y_city, .inl (cI, 192, .inl cy))] H := hP
      have hD : va_D A [(y_lane, .inl (cI, 8, .inl la_)), (y_many, .inl (cI, 8, .inl ma_)), (y_item, .inl (cI, 320, .inl it_)), (y, .inr (9, [.int 0, .int m_status, .ref y_lane, .ref y_many, .ref y_item, .ref y_city, .ref y_fresh, .int m_isThere, .ref y_tape, .int m_taped, .int m_latest, .int m_length, .int m_cursor, .int m_token, .int m_start, .int m_till, .int m_fault, .int m_faultAt, .int m_seen, .int m_mirrors, .ref y_cost, .ref y_away, .ref y_fee, .ref y_goesTo, .ref y_priceWas, .ref y_isKept, .ref y_kept, .ref y_trace, .int m_traced])), (y_city, .inl (cI, 192, .inl cy))] := hD
      refine lv_if_eq (tgt := 33) S.1 S.2.1 dX9_walk_17 (by decide) (fun c_51 => ?_) (fun c_51 => absurd c_51 (by decide))
      refine lv_ldc (v := (-1000001)) S.1 S.2.1 S.2.2.2.1 (S.2.2.2.2 (.constant RX9 73 (-1000001)) (by decide +kernel)) dX9_walk_33 ?_
      have hP := hP.sub (ws' := [(y, .inr (9, [.int 0, .int m_status, .ref y_lane, .ref y_many, .ref y_item, .ref y_city, .ref y_fresh, .int m_isThere, .ref y_tape, .int m_taped, .int m_latest, .int m_length, .int m_cursor, .int m_token, .int m_start, .int m_till, .int m_fault, .int m_faultAt, .int m_seen, .int m_mirrors, .ref y_cost, .ref y_away, .ref y_fee, .ref y_goesTo, .ref y_priceWas, .ref y_isKept, .ref y_kept, .ref y_trace, .int m_traced])), (y_lane, .inl (cI, 8, .inl la_)), (y_many, .inl (cI, 8, .inl ma_)), (y_item, .inl (cI, 320, .inl it_)), (y_city, .inl (cI, 192, .inl cy))]) [3, 0, 1, 2, 4] rfl
      have hD := hD.sub (ws' := [(y, .inr (9, [.int 0, .int m_status, .ref y_lane, .ref y_many, .ref y_item, .ref y_city, .ref y_fresh, .int m_isThere, .ref y_tape, .int m_taped, .int m_latest, .int m_length, .int m_cursor, .int m_token, .int m_start, .int m_till, .int m_fault, .int m_faultAt, .int m_seen, .int m_mirrors, .ref y_cost, .ref y_away, .ref y_fee, .ref y_goesTo, .ref y_priceWas, .ref y_isKept, .ref y_kept, .ref y_trace, .int m_traced])), (y_lane, .inl (cI, 8, .inl la_)), (y_many, .inl (cI, 8, .inl ma_)), (y_item, .inl (cI, 320, .inl it_)), (y_city, .inl (cI, 192, .inl cy))]) [3, 0, 1, 2, 4] (by decide) rfl
      have lqm1000001 : Int32.toInt (-1000001) = -1000001 := by decide
      exact b_iret S.1 S.2.1 X.2.1 X.2.2.1 hP hD hS ⟨m_status, m_seen, m_mirrors, cy, (by first | assumption | omega | decide | (rw [show Int32.toInt 0 = 0 from rfl]; omega)), (by first | assumption | omega | decide | (rw [show Int32.toInt 0 = 0 from rfl]; omega)), rfl⟩ dX9_walk_35
  · have hP : va_P D vwCl [(y_lane, .inl (cI, 8, .inl la_)), (y_many, .inl (cI, 8, .inl ma_)), (y_item, .inl (cI, 320, .inl it_)), (y, .inr (9, [.int 0, .int m_status, .ref y_lane, .ref y_many, .ref y_item, .ref y_city, .ref y_fresh, .int m_isThere, .ref y_tape, .int m_taped, .int m_latest, .int m_length, .int m_cursor, .int m_token, .int m_start, .int m_till, .int m_fault, .int m_faultAt, .int m_seen, .int m_mirrors, .ref y_cost, .ref y_away, .ref y_fee, .ref y_goesTo, .ref y_priceWas, .ref y_isKept, .ref y_kept, .ref y_trace, .int m_traced])), (y_city, .inl (cI, 192, .inl cy))] H := hP
    have hD : va_D A [(y_lane, .inl (cI, 8, .inl la_)), (y_many, .inl (cI, 8, .inl ma_)), (y_item, .inl (cI, 320, .inl it_)), (y, .inr (9, [.int 0, .int m_status, .ref y_lane, .ref y_many, .ref y_item, .ref y_city, .ref y_fresh, .int m_isThere, .ref y_tape, .int m_taped, .int m_latest, .int m_length, .int m_cursor, .int m_token, .int m_start, .int m_till, .int m_fault, .int m_faultAt, .int m_seen, .int m_mirrors, .ref y_cost, .ref y_away, .ref y_fee, .ref y_goesTo, .ref y_priceWas, .ref y_isKept, .ref y_kept, .ref y_trace, .int m_traced])), (y_city, .inl (cI, 192, .inl cy))] := hD
    refine lv_if_eq (tgt := 33) S.1 S.2.1 dX9_walk_10 (by decide) (fun c_52 => ?_) (fun c_52 => absurd c_52 (by decide))
    refine lv_ldc (v := (-1000001)) S.1 S.2.1 S.2.2.2.1 (S.2.2.2.2 (.constant RX9 73 (-1000001)) (by decide +kernel)) dX9_walk_33 ?_
    have hP := hP.sub (ws' := [(y, .inr (9, [.int 0, .int m_status, .ref y_lane, .ref y_many, .ref y_item, .ref y_city, .ref y_fresh, .int m_isThere, .ref y_tape, .int m_taped, .int m_latest, .int m_length, .int m_cursor, .int m_token, .int m_start, .int m_till, .int m_fault, .int m_faultAt, .int m_seen, .int m_mirrors, .ref y_cost, .ref y_away, .ref y_fee, .ref y_goesTo, .ref y_priceWas, .ref y_isKept, .ref y_kept, .ref y_trace, .int m_traced])), (y_lane, .inl (cI, 8, .inl la_)), (y_many, .inl (cI, 8, .inl ma_)), (y_item, .inl (cI, 320, .inl it_)), (y_city, .inl (cI, 192, .inl cy))]) [3, 0, 1, 2, 4] rfl
    have hD := hD.sub (ws' := [(y, .inr (9, [.int 0, .int m_status, .ref y_lane, .ref y_many, .ref y_item, .ref y_city, .ref y_fresh, .int m_isThere, .ref y_tape, .int m_taped, .int m_latest, .int m_length, .int m_cursor, .int m_token, .int m_start, .int m_till, .int m_fault, .int m_faultAt, .int m_seen, .int m_mirrors, .ref y_cost, .ref y_away, .ref y_fee, .ref y_goesTo, .ref y_priceWas, .ref y_isKept, .ref y_kept, .ref y_trace, .int m_traced])), (y_lane, .inl (cI, 8, .inl la_)), (y_many, .inl (cI, 8, .inl ma_)), (y_item, .inl (cI, 320, .inl it_)), (y_city, .inl (cI, 192, .inl cy))]) [3, 0, 1, 2, 4] (by decide) rfl
    have lqm1000001 : Int32.toInt (-1000001) = -1000001 := by decide
    exact b_iret S.1 S.2.1 X.2.1 X.2.2.1 hP hD hS ⟨m_status, m_seen, m_mirrors, cy, (by first | assumption | omega | decide | (rw [show Int32.toInt 0 = 0 from rfl]; omega)), (by first | assumption | omega | decide | (rw [show Int32.toInt 0 = 0 from rfl]; omega)), rfl⟩ dX9_walk_35
set_option maxHeartbeats 4000000 in
set_option maxRecDepth 100000 in
theorem lp_mperson {p : Program} (l : Launch) {e : Env} {s : State} {m : MethodId} {below : List Frame} {meth : Method} {c : Code} (D : va_G) (cI cZ cC cS : ClassId) (sq : Nat → Nat) (y : Nat) (y_city : Nat) (a : Int32) (wa : Int32) (m_thrown : Int32) (m_status : Int32) (y_lane : Nat) (y_many : Nat) (y_item : Nat) (y_fresh : Nat) (m_isThere : Int32) (y_tape : Nat) (m_taped : Int32) (m_latest : Int32) (m_length : Int32) (m_cursor : Int32) (m_token : Int32) (m_start : Int32) (m_till : Int32) (m_fault : Int32) (m_faultAt : Int32) (m_seen : Int32) (m_mirrors : Int32) (y_cost : Nat) (y_away : Nat) (y_fee : Nat) (y_goesTo : Nat) (y_priceWas : Nat) (y_isKept : Nat) (y_kept : Nat) (y_trace : Nat) (m_traced : Int32) (cy : Nat → Int32) (hpd_cy : prd cyK 192 cy) (hax : 0 ≤ a.toInt ∧ a.toInt < 6) {A : Nat → Prop} (X : bX p s m meth c cX9_person 5 wsX9_person yX9_person (some .int) [.ref y, .int a, .int wa]) (hK : kW D (tyW cI cZ cC cS) sq s) (hT : sT sq A s s.heap) (hA : ∀ q, s.heap.size ≤ q → A q) (K : ∀ (i : Int32) (q : Int32), (prd cyK 192 cy) → (0 ≤ i.toInt ∧ i.toInt ≤ 6) → ∀ (H : Heap) (locs : List Loc) (ls : Array Slot), va_P D vwCl [(y, .inr (9, [.int 0, .int m_status, .ref y_lane, .ref y_many, .ref y_item, .ref y_city, .ref y_fresh, .int m_isThere, .ref y_tape, .int m_taped, .int m_latest, .int m_length, .int m_cursor, .int m_token, .int m_start, .int m_till, .int m_fault, .int m_faultAt, .int m_seen, .int m_mirrors, .ref y_cost, .ref y_away, .ref y_fee, .ref y_goesTo, .ref y_priceWas, .ref y_isKept, .ref y_kept, .ref y_trace, .int m_traced])), (y_city, .inl (cI, 192, .inl cy))] H → va_D A [(y, .inr (9, [.int 0, .int m_status, .ref y_lane, .ref y_many, .ref y_item, .ref y_city, .ref y_fresh, .int m_isThere, .ref y_tape, .int m_taped, .int m_latest, .int m_length, .int m_cursor, .int m_token, .int m_start, .int m_till, .int m_fault, .int m_faultAt, .int m_seen, .int m_mirrors, .ref y_cost, .ref y_away, .ref y_fee, .ref y_goesTo, .ref y_priceWas, .ref y_isKept, .ref y_kept, .ref y_trace, .int m_traced])), (y_city, .inl (cI, 192, .inl cy))] → va_S A s.heap H locs → lv_has ls 5 [(4, .int i), (3, .int q), (0, .ref y), (1, .int a), (2, .int wa)] → W p l e (rmW 50 2000 0 0) s m ([.ref y, .int a, .int wa] : List Value).toArray below meth c H locs 0 0 (MQ below (va_Qi (fun r w => (w = [(y, .inr (9, [.int 0, .int m_status, .ref y_lane, .ref y_many, .ref y_item, .ref y_city, .ref y_fresh, .int m_isThere, .ref y_tape, .int m_taped, .int m_latest, .int m_length, .int m_cursor, .int m_token, .int m_start, .int m_till, .int m_fault, .int m_faultAt, .int m_seen, .int m_mirrors, .ref y_cost, .ref y_away, .ref y_fee, .ref y_goesTo, .ref y_priceWas, .ref y_isKept, .ref y_kept, .ref y_trace, .int m_traced])), (y_city, .inl (cI, 192, .inl cy))])) (wD D A) A) ([.ref y, .int a, .int wa] : List Value).toArray s 0 0 A) (F0 m 125 ls [])) : ∀ (mN : Nat) (i : Int32) (q : Int32), (prd cyK 192 cy) → (0 ≤ i.toInt ∧ i.toInt ≤ 6) → ((6 - i.toInt).toNat < mN) → ∀ (H : Heap) (locs : List Loc) (ls : Array Slot), va_P D vwCl [(y, .inr (9, [.int 0, .int m_status, .ref y_lane, .ref y_many, .ref y_item, .ref y_city, .ref y_fresh, .int m_isThere, .ref y_tape, .int m_taped, .int m_latest, .int m_length, .int m_cursor, .int m_token, .int m_start, .int m_till, .int m_fault, .int m_faultAt, .int m_seen, .int m_mirrors, .ref y_cost, .ref y_away, .ref y_fee, .ref y_goesTo, .ref y_priceWas, .ref y_isKept, .ref y_kept, .ref y_trace, .int m_traced])), (y_city, .inl (cI, 192, .inl cy))] H → va_D A [(y, .inr (9, [.int 0, .int m_status, .ref y_lane, .ref y_many, .ref y_item, .ref y_city, .ref y_fresh, .int m_isThere, .ref y_tape, .int m_taped, .int m_latest, .int m_length, .int m_cursor, .int m_token, .int m_start, .int m_till, .int m_fault, .int m_faultAt, .int m_seen, .int m_mirrors, .ref y_cost, .ref y_away, .ref y_fee, .ref y_goesTo, .ref y_priceWas, .ref y_isKept, .ref y_kept, .ref y_trace, .int m_traced])), (y_city, .inl (cI, 192, .inl cy))] → va_S A s.heap H locs → lv_has ls 5 [(4, .int i), (3, .int q), (0, .ref y), (1, .int a), (2, .int wa)] → W p l e (rmW 50 2000 0 0) s m ([.ref y, .int a, .int wa] : List Value).toArray below meth c H locs 0 0 (MQ below (va_Qi (fun r w => (w = [(y, .inr (9, [.int 0, .int m_status, .ref y_lane, .ref y_many, .ref y_item, .ref y_city, .ref y_fresh, .int m_isThere, .ref y_tape, .int m_taped, .int m_latest, .int m_length, .int m_cursor, .int m_token, .int m_start, .int m_till, .int m_fault, .int m_faultAt, .int m_seen, .int m_mirrors, .ref y_cost, .ref y_away, .ref y_fee, .ref y_goesTo, .ref y_priceWas, .ref y_isKept, .ref y_kept, .ref y_trace, .int m_traced])), (y_city, .inl (cI, 192, .inl cy))])) (wD D A) A) ([.ref y, .int a, .int wa] : List Value).toArray s 0 0 A) (F0 m 94 ls []) := by
  have S : CallFix p m c cX9_person 5 s ([.ref y, .int a, .int wa] : List Value).toArray wsX9_person RX9 := X.1
  have iX9 := jX9_person_X9
  intro mN
  induction mN with
  | zero => intro i q hpd_cy hi hm; exact absurd hm (Nat.not_lt_zero _)
  | succ mN ih =>
    intro i q hpd_cy hi hm H locs ls hP hD hS hl
    refine lv_iload S.1 S.2.1 dX9_person_94 (lv_at hl 0 rfl) ?_
    refine lv_bipush (v := (6)) S.1 S.2.1 dX9_person_96 (by decide) ?_
    refine lv_icmp_ge (tgt := 125) S.1 S.2.1 dX9_person_98 (by decide) (fun c_101 => ?_) (fun c_101 => ?_)
    · rw [le2 (a := 6) (b := i) (A := 6) (B := i.toInt) rfl rfl] at c_101
      exact K i q (by first | assumption | omega | decide | (rw [show Int32.toInt 0 = 0 from rfl]; omega)) (by first | assumption | omega | decide | (rw [show Int32.toInt 0 = 0 from rfl]; omega)) H _ ls hP hD hS (lv_sub hl [0, 1, 2, 3, 4] rfl)
    · rw [le2 (a := 6) (b := i) (A := 6) (B := i.toInt) rfl rfl] at c_101
      refine lv_iload_n S.1 S.2.1 dX9_person_101 rfl (lv_at hl 1 rfl) ?_
      refine lv_aload_n S.1 S.2.1 dX9_person_102 rfl (lv_at hl 2 rfl) ?_
      refine b_get (v := .ref y_city) S iX9 hK hP 0 rfl rfl 5 (by decide) (by decide +kernel) rfl dX9_person_103 ?_
      refine lv_bipush (v := (120)) S.1 S.2.1 dX9_person_106 (by decide) ?_
      refine lv_bipush (v := (6)) S.1 S.2.1 dX9_person_108 (by decide) ?_
      refine lv_iload_n S.1 S.2.1 dX9_person_110 rfl (lv_at hl 3 rfl) ?_
      refine lv_imul S.1 S.2.1 dX9_person_111 ?_
      refine lv_topi (fun x_102 ex_102 => ?_)
      have tx_102 : x_102.toInt = 6 * a.toInt := mulI (A := 6) (B := a.toInt) ex_102 rfl rfl (by omega) (by omega)
      refine lv_iadd S.1 S.2.1 dX9_person_112 ?_
      refine lv_topi (fun x_103 ex_103 => ?_)
      have tx_103 : x_103.toInt = 120 + (x_102.toInt) := addI (A := 120) (B := x_102.toInt) ex_103 rfl rfl (by omega) (by omega)
      refine lv_iload S.1 S.2.1 dX9_person_113 (lv_at hl 0 rfl) ?_
      refine lv_iadd S.1 S.2.1 dX9_person_115 ?_
      refine lv_topi (fun x_104 ex_104 => ?_)
      have tx_104 : x_104.toInt = x_103.toInt + (i.toInt) := addI (A := x_103.toInt) (B := i.toInt) ex_104 rfl rfl (by omega) (by omega)
      have hin_105 : vp_in x_104 192 := (in_of (n := 192) (by omega) (by omega))
      refine va_iald S.1 S.2.1 hK.1 hP 1 0 rfl rfl hin_105 dX9_person_116 ?_
      refine lv_topi (fun x_106 ex_106 => ?_)
      refine lv_iadd S.1 S.2.1 dX9_person_117 ?_
      refine lv_topi (fun x_107 ex_107 => ?_)
      refine lv_istore_n (lv' := [(3, .int x_107), (4, .int i), (0, .ref y), (1, .int a), (2, .int wa)]) S.1 S.2.1 dX9_person_118 rfl hl (by decide) rfl (fun ls hl => ?_)
      obtain ⟨x_108, ex_108⟩ : ∃ y : Int32, y = i + Int32.ofInt (1) := ⟨_, rfl⟩
      refine lv_iinc (v := x_108) (lv' := [(4, .int x_108), (3, .int x_107), (0, .ref y), (1, .int a), (2, .int wa)]) S.1 S.2.1 dX9_person_119 hl (k := 1) rfl ex_108.symm (by decide) rfl (fun ls hl => ?_)
      have tx_108 : x_108.toInt = i.toInt + (1) := addI (A := i.toInt) (B := 1) ex_108 rfl rfl (by omega) (by omega)
      refine lv_goto (tgt := 94) S.1 S.2.1 dX9_person_122 (by decide) ?_
      exact ih x_108 x_107 (by first | assumption | omega | decide | (rw [show Int32.toInt 0 = 0 from rfl]; omega)) (by first | assumption | omega | decide | (rw [show Int32.toInt 0 = 0 from rfl]; omega)) (by omega) H _ ls hP hD hS (lv_sub hl [0, 1, 2, 3, 4] rfl)
set_option maxHeartbeats 4000000 in
set_option maxRecDepth 100000 in
theorem s_X9_person (l : Launch) (D : va_G) (cI cZ cC cS : ClassId) (sq : Nat → Nat) (sz : Nat) (y : Nat) (y_city : Nat) (a : Int32) (wa : Int32) (m_thrown : Int32) (m_status : Int32) (y_lane : Nat) (y_many : Nat) (y_item : Nat) (y_fresh : Nat) (m_isThere : Int32) (y_tape : Nat) (m_taped : Int32) (m_latest : Int32) (m_length : Int32) (m_cursor : Int32) (m_token : Int32) (m_start : Int32) (m_till : Int32) (m_fault : Int32) (m_faultAt : Int32) (m_seen : Int32) (m_mirrors : Int32) (y_cost : Nat) (y_away : Nat) (y_fee : Nat) (y_goesTo : Nat) (y_priceWas : Nat) (y_isKept : Nat) (y_kept : Nat) (y_trace : Nat) (m_traced : Int32) (cy : Nat → Int32) (hpd_cy : prd cyK 192 cy) : mI l yX9_person wsX9_person 50 2000 D (tyW cI cZ cC cS) sq [(y, .inr (9, [.int m_thrown, .int m_status, .ref y_lane, .ref y_many, .ref y_item, .ref y_city, .ref y_fresh, .int m_isThere, .ref y_tape, .int m_taped, .int m_latest, .int m_length, .int m_cursor, .int m_token, .int m_start, .int m_till, .int m_fault, .int m_faultAt, .int m_seen, .int m_mirrors, .ref y_cost, .ref y_away, .ref y_fee, .ref y_goesTo, .ref y_priceWas, .ref y_isKept, .ref y_kept, .ref y_trace, .int m_traced])), (y_city, .inl (cI, 192, .inl cy))] sz [.ref y, .int a, .int wa] (fun r w => (w = [(y, .inr (9, [.int 0, .int m_status, .ref y_lane, .ref y_many, .ref y_item, .ref y_city, .ref y_fresh, .int m_isThere, .ref y_tape, .int m_taped, .int m_latest, .int m_length, .int m_cursor, .int m_token, .int m_start, .int m_till, .int m_fault, .int m_faultAt, .int m_seen, .int m_mirrors, .ref y_cost, .ref y_away, .ref y_fee, .ref y_goesTo, .ref y_priceWas, .ref y_isKept, .ref y_kept, .ref y_trace, .int m_traced])), (y_city, .inl (cI, 192, .inl cy))])) := by
  refine b_metI (cc := cX9_person) (maxL := 5) (ret := (some .int)) (by decide) rfl (Nat.le_of_ble_eq_true rfl) ?_
  intro p e s m below meth c ls A H X hsz hP hK hT hD hA hS hl
  have S : CallFix p m c cX9_person 5 s ([.ref y, .int a, .int wa] : List Value).toArray wsX9_person RX9 := X.1
  have hl : lv_has ls 5 [(0, .ref y), (1, .int a), (2, .int wa)] := hl
  have iX9 := jX9_person_X9
  refine lv_aload_n S.1 S.2.1 dX9_person_0 rfl (lv_at hl 0 rfl) ?_
  refine lv_iconst (v := (0)) S.1 S.2.1 dX9_person_1 (by decide) ?_
  refine b_put (v := .int 0) S iX9 tyX9 tyX9_ok nmX9 hK hP hD hS 0 rfl rfl 0 (by decide) (by decide +kernel) rfl rfl rfl (Nat.le_of_ble_eq_true rfl) dX9_person_2 (fun H locs hP hD hS => ?_)
  have hP : va_P D vwCl [(y, .inr (9, [.int 0, .int m_status, .ref y_lane, .ref y_many, .ref y_item, .ref y_city, .ref y_fresh, .int m_isThere, .ref y_tape, .int m_taped, .int m_latest, .int m_length, .int m_cursor, .int m_token, .int m_start, .int m_till, .int m_fault, .int m_faultAt, .int m_seen, .int m_mirrors, .ref y_cost, .ref y_away, .ref y_fee, .ref y_goesTo, .ref y_priceWas, .ref y_isKept, .ref y_kept, .ref y_trace, .int m_traced])), (y_city, .inl (cI, 192, .inl cy))] H := hP
  have hD : va_D A [(y, .inr (9, [.int 0, .int m_status, .ref y_lane, .ref y_many, .ref y_item, .ref y_city, .ref y_fresh, .int m_isThere, .ref y_tape, .int m_taped, .int m_latest, .int m_length, .int m_cursor, .int m_token, .int m_start, .int m_till, .int m_fault, .int m_faultAt, .int m_seen, .int m_mirrors, .ref y_cost, .ref y_away, .ref y_fee, .ref y_goesTo, .ref y_priceWas, .ref y_isKept, .ref y_kept, .ref y_trace, .int m_traced])), (y_city, .inl (cI, 192, .inl cy))] := hD
  refine lv_aload_n S.1 S.2.1 dX9_person_5 rfl (lv_at hl 0 rfl) ?_
  refine lv_iload_n S.1 S.2.1 dX9_person_6 rfl (lv_at hl 1 rfl) ?_
  refine b_ai (wr := []) (b_runV (q0 := 0) (ci := 9) (As := [.int a]) (s_X9_isOne l D cI cZ cC cS sq H.size y y_city a (0) m_status y_lane y_many y_item y_fresh m_isThere y_tape m_taped m_latest m_length m_cursor m_token m_start m_till m_fault m_faultAt m_seen m_mirrors y_cost y_away y_fee y_goesTo y_priceWas y_isKept y_kept y_trace m_traced cy (by first | assumption | omega | decide | (rw [show Int32.toInt 0 = 0 from rfl]; omega))) S gX9_person_X9_isOne rfl hdV_X9_isOne ⟨Nat.le_of_ble_eq_true rfl, Nat.le_of_ble_eq_true rfl⟩ ⟨Nat.le_of_ble_eq_true rfl, Nat.le_of_ble_eq_true rfl⟩ hK hT hS hA hP hD rfl rfl [0, 1] rfl (by decide) rfl hl.1 rfl (Nat.le_of_ble_eq_true rfl) dX9_person_7) hP hD hS hA [0, 1] [] rfl rfl (by decide) (by decide) (fun r_1 w_2 H locs hw_3 hP hD hS => ?_)
  rcases hw_3 with ⟨hf_4, rfl, rfl⟩ | ⟨hf_5, rfl, rfl⟩
  · have hP : va_P D vwCl [(y, .inr (9, [.int 0, .int m_status, .ref y_lane, .ref y_many, .ref y_item, .ref y_city, .ref y_fresh, .int m_isThere, .ref y_tape, .int m_taped, .int m_latest, .int m_length, .int m_cursor, .int m_token, .int m_start, .int m_till, .int m_fault, .int m_faultAt, .int m_seen, .int m_mirrors, .ref y_cost, .ref y_away, .ref y_fee, .ref y_goesTo, .ref y_priceWas, .ref y_isKept, .ref y_kept, .ref y_trace, .int m_traced])), (y_city, .inl (cI, 192, .inl cy))] H := hP
    have hD : va_D A [(y, .inr (9, [.int 0, .int m_status, .ref y_lane, .ref y_many, .ref y_item, .ref y_city, .ref y_fresh, .int m_isThere, .ref y_tape, .int m_taped, .int m_latest, .int m_length, .int m_cursor, .int m_token, .int m_start, .int m_till, .int m_fault, .int m_faultAt, .int m_seen, .int m_mirrors, .ref y_cost, .ref y_away, .ref y_fee, .ref y_goesTo, .ref y_priceWas, .ref y_isKept, .ref y_kept, .ref y_trace, .int m_traced])), (y_city, .inl (cI, 192, .inl cy))] := hD
    refine lv_if_ne (tgt := 16) S.1 S.2.1 dX9_person_10 (by decide) (fun c_6 => ?_) (fun c_6 => absurd c_6 (by decide))
    refine lv_iload_n S.1 S.2.1 dX9_person_16 rfl (lv_at hl 2 rfl) ?_
    refine lv_i2l (v := wa.toInt64) S.1 S.2.1 dX9_person_17 rfl ?_
    refine lv_ldc2 (v := (10)) S.1 S.2.1 S.2.2.2.1 (S.2.2.2.2 (.constantLong RX9 258 (10)) (by decide +kernel)) dX9_person_18 ?_
    refine lv_ldc2 (v := (15)) S.1 S.2.1 S.2.2.2.1 (S.2.2.2.2 (.constantLong RX9 242 (15)) (by decide +kernel)) dX9_person_21 ?_
    refine b_ai (wr := [(y, .inr (9, [.int 0, .int m_status, .ref y_lane, .ref y_many, .ref y_item, .ref y_city, .ref y_fresh, .int m_isThere, .ref y_tape, .int m_taped, .int m_latest, .int m_length, .int m_cursor, .int m_token, .int m_start, .int m_till, .int m_fault, .int m_faultAt, .int m_seen, .int m_mirrors, .ref y_cost, .ref y_away, .ref y_fee, .ref y_goesTo, .ref y_priceWas, .ref y_isKept, .ref y_kept, .ref y_trace, .int m_traced])), (y_city, .inl (cI, 192, .inl cy))]) (b_runS (As := [.long (wa.toInt64), .long 10, .long 15]) (s_X9_in l D cI cZ cC cS sq H.size (wa.toInt64) (10) (15)) S gX9_person_X9_in rfl hdS_X9_in ⟨Nat.le_of_ble_eq_true rfl, Nat.le_of_ble_eq_true rfl⟩ ⟨Nat.le_of_ble_eq_true rfl, Nat.le_of_ble_eq_true rfl⟩ hK hT hS hA hP hD [] rfl (by decide) rfl hl.1 rfl (Nat.le_of_ble_eq_true rfl) dX9_person_24) hP hD hS hA [] [0, 1] rfl rfl (by decide) (by decide) (fun r_7 w_8 H locs hw_9 hP hD hS => ?_)
    rcases hw_9 with ⟨hf_10, rfl, rfl⟩ | ⟨hf_11, rfl, rfl⟩
    · have hf_10 : (10) ≤ wa.toInt ∧ wa.toInt ≤ (15) := by simp only [Int32.toInt_toInt64] at hf_10; exact hf_10
      have hP : va_P D vwCl [(y, .inr (9, [.int 0, .int m_status, .ref y_lane, .ref y_many, .ref y_item, .ref y_city, .ref y_fresh, .int m_isThere, .ref y_tape, .int m_taped, .int m_latest, .int m_length, .int m_cursor, .int m_token, .int m_start, .int m_till, .int m_fault, .int m_faultAt, .int m_seen, .int m_mirrors, .ref y_cost, .ref y_away, .ref y_fee, .ref y_goesTo, .ref y_priceWas, .ref y_isKept, .ref y_kept, .ref y_trace, .int m_traced])), (y_city, .inl (cI, 192, .inl cy))] H := hP
      have hD : va_D A [(y, .inr (9, [.int 0, .int m_status, .ref y_lane, .ref y_many, .ref y_item, .ref y_city, .ref y_fresh, .int m_isThere, .ref y_tape, .int m_taped, .int m_latest, .int m_length, .int m_cursor, .int m_token, .int m_start, .int m_till, .int m_fault, .int m_faultAt, .int m_seen, .int m_mirrors, .ref y_cost, .ref y_away, .ref y_fee, .ref y_goesTo, .ref y_priceWas, .ref y_isKept, .ref y_kept, .ref y_trace, .int m_traced])), (y_city, .inl (cI, 192, .inl cy))] := hD
      refine lv_if_ne (tgt := 44) S.1 S.2.1 dX9_person_27 (by decide) (fun c_12 => ?_) (fun c_12 => absurd c_12 (by decide))
      refine lv_iload_n S.1 S.2.1 dX9_person_44 rfl (lv_at hl 2 rfl) ?_
      refine lv_bipush (v := (20)) S.1 S.2.1 dX9_person_45 (by decide) ?_
      refine lv_icmp_ge (tgt := 70) S.1 S.2.1 dX9_person_47 (by decide) (fun c_13 => ?_) (fun c_13 => ?_)
      · rw [le2 (a := 20) (b := wa) (A := 20) (B := wa.toInt) rfl rfl] at c_13
        refine lv_aload_n S.1 S.2.1 dX9_person_70 rfl (lv_at hl 0 rfl) ?_
        refine b_get (v := .ref y_city) S iX9 hK hP 0 rfl rfl 5 (by decide) (by decide +kernel) rfl dX9_person_71 ?_
        refine lv_sipush (v := (156)) S.1 S.2.1 dX9_person_74 (by decide) ?_
        refine lv_bipush (v := (6)) S.1 S.2.1 dX9_person_77 (by decide) ?_
        refine lv_iload_n S.1 S.2.1 dX9_person_79 rfl (lv_at hl 1 rfl) ?_
        refine lv_imul S.1 S.2.1 dX9_person_80 ?_
        refine lv_topi (fun x_14 ex_14 => ?_)
        have tx_14 : x_14.toInt = 6 * a.toInt := mulI (A := 6) (B := a.toInt) ex_14 rfl rfl (by omega) (by omega)
        refine lv_iadd S.1 S.2.1 dX9_person_81 ?_
        refine lv_topi (fun x_15 ex_15 => ?_)
        have tx_15 : x_15.toInt = 156 + (x_14.toInt) := addI (A := 156) (B := x_14.toInt) ex_15 rfl rfl (by omega) (by omega)
        refine lv_iload_n S.1 S.2.1 dX9_person_82 rfl (lv_at hl 2 rfl) ?_
        refine lv_iadd S.1 S.2.1 dX9_person_83 ?_
        refine lv_topi (fun x_16 ex_16 => ?_)
        have tx_16 : x_16.toInt = x_15.toInt + (wa.toInt) := addI (A := x_15.toInt) (B := wa.toInt) ex_16 rfl rfl (by omega) (by omega)
        refine lv_bipush (v := (20)) S.1 S.2.1 dX9_person_84 (by decide) ?_
        refine lv_isub S.1 S.2.1 dX9_person_86 ?_
        refine lv_topi (fun x_17 ex_17 => ?_)
        have tx_17 : x_17.toInt = x_16.toInt - (20) := subI (A := x_16.toInt) (B := 20) ex_17 rfl rfl (by omega) (by omega)
        have hin_18 : vp_in x_17 192 := (in_of (n := 192) (by omega) (by omega))
        refine va_iald S.1 S.2.1 hK.1 hP 1 0 rfl rfl hin_18 dX9_person_87 ?_
        refine lv_topi (fun x_19 ex_19 => ?_)
        exact b_iret S.1 S.2.1 X.2.1 X.2.2.1 hP hD hS rfl dX9_person_88
      · rw [le2 (a := 20) (b := wa) (A := 20) (B := wa.toInt) rfl rfl] at c_13
        refine lv_aload_n S.1 S.2.1 dX9_person_50 rfl (lv_at hl 0 rfl) ?_
        refine b_get (v := .ref y_city) S iX9 hK hP 0 rfl rfl 5 (by decide) (by decide +kernel) rfl dX9_person_51 ?_
        refine lv_bipush (v := (120)) S.1 S.2.1 dX9_person_54 (by decide) ?_
        refine lv_bipush (v := (6)) S.1 S.2.1 dX9_person_56 (by decide) ?_
        refine lv_iload_n S.1 S.2.1 dX9_person_58 rfl (lv_at hl 1 rfl) ?_
        refine lv_imul S.1 S.2.1 dX9_person_59 ?_
        refine lv_topi (fun x_20 ex_20 => ?_)
        have tx_20 : x_20.toInt = 6 * a.toInt := mulI (A := 6) (B := a.toInt) ex_20 rfl rfl (by omega) (by omega)
        refine lv_iadd S.1 S.2.1 dX9_person_60 ?_
        refine lv_topi (fun x_21 ex_21 => ?_)
        have tx_21 : x_21.toInt = 120 + (x_20.toInt) := addI (A := 120) (B := x_20.toInt) ex_21 rfl rfl (by omega) (by omega)
        refine lv_iload_n S.1 S.2.1 dX9_person_61 rfl (lv_at hl 2 rfl) ?_
        refine lv_iadd S.1 S.2.1 dX9_person_62 ?_
        refine lv_topi (fun x_22 ex_22 => ?_)
        have tx_22 : x_22.toInt = x_21.toInt + (wa.toInt) := addI (A := x_21.toInt) (B := wa.toInt) ex_22 rfl rfl (by omega) (by omega)
        refine lv_bipush (v := (10)) S.1 S.2.1 dX9_person_63 (by decide) ?_
        refine lv_isub S.1 S.2.1 dX9_person_65 ?_
        refine lv_topi (fun x_23 ex_23 => ?_)
        have tx_23 : x_23.toInt = x_22.toInt - (10) := subI (A := x_22.toInt) (B := 10) ex_23 rfl rfl (by omega) (by omega)
        have hin_24 : vp_in x_23 192 := (in_of (n := 192) (by omega) (by omega))
        refine va_iald S.1 S.2.1 hK.1 hP 1 0 rfl rfl hin_24 dX9_person_66 ?_
        refine lv_topi (fun x_25 ex_25 => ?_)
        refine lv_goto (tgt := 88) S.1 S.2.1 dX9_person_67 (by decide) ?_
        exact b_iret S.1 S.2.1 X.2.1 X.2.2.1 hP hD hS rfl dX9_person_88
    · have hf_11 : wa.toInt < (10) ∨ (15) < wa.toInt := by simp only [Int32.toInt_toInt64] at hf_11; exact hf_11
      have hP : va_P D vwCl [(y, .inr (9, [.int 0, .int m_status, .ref y_lane, .ref y_many, .ref y_item, .ref y_city, .ref y_fresh, .int m_isThere, .ref y_tape, .int m_taped, .int m_latest, .int m_length, .int m_cursor, .int m_token, .int m_start, .int m_till, .int m_fault, .int m_faultAt, .int m_seen, .int m_mirrors, .ref y_cost, .ref y_away, .ref y_fee, .ref y_goesTo, .ref y_priceWas, .ref y_isKept, .ref y_kept, .ref y_trace, .int m_traced])), (y_city, .inl (cI, 192, .inl cy))] H := hP
      have hD : va_D A [(y, .inr (9, [.int 0, .int m_status, .ref y_lane, .ref y_many, .ref y_item, .ref y_city, .ref y_fresh, .int m_isThere, .ref y_tape, .int m_taped, .int m_latest, .int m_length, .int m_cursor, .int m_token, .int m_start, .int m_till, .int m_fault, .int m_faultAt, .int m_seen, .int m_mirrors, .ref y_cost, .ref y_away, .ref y_fee, .ref y_goesTo, .ref y_priceWas, .ref y_isKept, .ref y_kept, .ref y_trace, .int m_traced])), (y_city, .inl (cI, 192, .inl cy))] := hD
      refine lv_if_ne (tgt := 44) S.1 S.2.1 dX9_person_27 (by decide) (fun c_26 => absurd c_26 (by decide)) (fun c_26 => ?_)
      refine lv_iload_n S.1 S.2.1 dX9_person_30 rfl (lv_at hl 2 rfl) ?_
      refine lv_i2l (v := wa.toInt64) S.1 S.2.1 dX9_person_31 rfl ?_
      refine lv_ldc2 (v := (20)) S.1 S.2.1 S.2.2.2.1 (S.2.2.2.2 (.constantLong RX9 260 (20)) (by decide +kernel)) dX9_person_32 ?_
      refine lv_ldc2 (v := (25)) S.1 S.2.1 S.2.2.2.1 (S.2.2.2.2 (.constantLong RX9 262 (25)) (by decide +kernel)) dX9_person_35 ?_
      refine b_ai (wr := [(y, .inr (9, [.int 0, .int m_status, .ref y_lane, .ref y_many, .ref y_item, .ref y_city, .ref y_fresh, .int m_isThere, .ref y_tape, .int m_taped, .int m_latest, .int m_length, .int m_cursor, .int m_token, .int m_start, .int m_till, .int m_fault, .int m_faultAt, .int m_seen, .int m_mirrors, .ref y_cost, .ref y_away, .ref y_fee, .ref y_goesTo, .ref y_priceWas, .ref y_isKept, .ref y_kept, .ref y_trace, .int m_traced])), (y_city, .inl (cI, 192, .inl cy))]) (b_runS (As := [.long (wa.toInt64), .long 20, .long 25]) (s_X9_in l D cI cZ cC cS sq H.size (wa.toInt64) (20) (25)) S gX9_person_X9_in rfl hdS_X9_in ⟨Nat.le_of_ble_eq_true rfl, Nat.le_of_ble_eq_true rfl⟩ ⟨Nat.le_of_ble_eq_true rfl, Nat.le_of_ble_eq_true rfl⟩ hK hT hS hA hP hD [] rfl (by decide) rfl hl.1 rfl (Nat.le_of_ble_eq_true rfl) dX9_person_38) hP hD hS hA [] [0, 1] rfl rfl (by decide) (by decide) (fun r_27 w_28 H locs hw_29 hP hD hS => ?_)
      rcases hw_29 with ⟨hf_30, rfl, rfl⟩ | ⟨hf_31, rfl, rfl⟩
      · have hf_30 : (20) ≤ wa.toInt ∧ wa.toInt ≤ (25) := by simp only [Int32.toInt_toInt64] at hf_30; exact hf_30
        have hP : va_P D vwCl [(y, .inr (9, [.int 0, .int m_status, .ref y_lane, .ref y_many, .ref y_item, .ref y_city, .ref y_fresh, .int m_isThere, .ref y_tape, .int m_taped, .int m_latest, .int m_length, .int m_cursor, .int m_token, .int m_start, .int m_till, .int m_fault, .int m_faultAt, .int m_seen, .int m_mirrors, .ref y_cost, .ref y_away, .ref y_fee, .ref y_goesTo, .ref y_priceWas, .ref y_isKept, .ref y_kept, .ref y_trace, .int m_traced])), (y_city, .inl (cI, 192, .inl cy))] H := hP
        have hD : va_D A [(y, .inr (9, [.int 0, .int m_status, .ref y_lane, .ref y_many, .ref y_item, .ref y_city, .ref y_fresh, .int m_isThere, .ref y_tape, .int m_taped, .int m_latest, .int m_length, .int m_cursor, .int m_token, .int m_start, .int m_till, .int m_fault, .int m_faultAt, .int m_seen, .int m_mirrors, .ref y_cost, .ref y_away, .ref y_fee, .ref y_goesTo, .ref y_priceWas, .ref y_isKept, .ref y_kept, .ref y_trace, .int m_traced])), (y_city, .inl (cI, 192, .inl cy))] := hD
        refine lv_if_eq (tgt := 89) S.1 S.2.1 dX9_person_41 (by decide) (fun c_32 => absurd c_32 (by decide)) (fun c_32 => ?_)
        refine lv_iload_n S.1 S.2.1 dX9_person_44 rfl (lv_at hl 2 rfl) ?_
        refine lv_bipush (v := (20)) S.1 S.2.1 dX9_person_45 (by decide) ?_
        refine lv_icmp_ge (tgt := 70) S.1 S.2.1 dX9_person_47 (by decide) (fun c_33 => ?_) (fun c_33 => ?_)
        · rw [le2 (a := 20) (b := wa) (A := 20) (B := wa.toInt) rfl rfl] at c_33
          refine lv_aload_n S.1 S.2.1 dX9_person_70 rfl (lv_at hl 0 rfl) ?_
          refine b_get (v := .ref y_city) S iX9 hK hP 0 rfl rfl 5 (by decide) (by decide +kernel) rfl dX9_person_71 ?_
          refine lv_sipush (v := (156)) S.1 S.2.1 dX9_person_74 (by decide) ?_
          refine lv_bipush (v := (6)) S.1 S.2.1 dX9_person_77 (by decide) ?_
          refine lv_iload_n S.1 S.2.1 dX9_person_79 rfl (lv_at hl 1 rfl) ?_
          refine lv_imul S.1 S.2.1 dX9_person_80 ?_
          refine lv_topi (fun x_34 ex_34 => ?_)
          have tx_34 : x_34.toInt = 6 * a.toInt := mulI (A := 6) (B := a.toInt) ex_34 rfl rfl (by omega) (by omega)
          refine lv_iadd S.1 S.2.1 dX9_person_81 ?_
          refine lv_topi (fun x_35 ex_35 => ?_)
          have tx_35 : x_35.toInt = 156 + (x_34.toInt) := addI (A := 156) (B := x_34.toInt) ex_35 rfl rfl (by omega) (by omega)
          refine lv_iload_n S.1 S.2.1 dX9_person_82 rfl (lv_at hl 2 rfl) ?_
          refine lv_iadd S.1 S.2.1 dX9_person_83 ?_
          refine lv_topi (fun x_36 ex_36 => ?_)
          have tx_36 : x_36.toInt = x_35.toInt + (wa.toInt) := addI (A := x_35.toInt) (B := wa.toInt) ex_36 rfl rfl (by omega) (by omega)
          refine lv_bipush (v := (20)) S.1 S.2.1 dX9_person_84 (by decide) ?_
          refine lv_isub S.1 S.2.1 dX9_person_86 ?_
          refine lv_topi (fun x_37 ex_37 => ?_)
          have tx_37 : x_37.toInt = x_36.toInt - (20) := subI (A := x_36.toInt) (B := 20) ex_37 rfl rfl (by omega) (by omega)
          have hin_38 : vp_in x_37 192 := (in_of (n := 192) (by omega) (by omega))
          refine va_iald S.1 S.2.1 hK.1 hP 1 0 rfl rfl hin_38 dX9_person_87 ?_
          refine lv_topi (fun x_39 ex_39 => ?_)
          exact b_iret S.1 S.2.1 X.2.1 X.2.2.1 hP hD hS rfl dX9_person_88
        · rw [le2 (a := 20) (b := wa) (A := 20) (B := wa.toInt) rfl rfl] at c_33
          refine lv_aload_n S.1 S.2.1 dX9_person_50 rfl (lv_at hl 0 rfl) ?_
          refine b_get (v := .ref y_city) S iX9 hK hP 0 rfl rfl 5 (by decide) (by decide +kernel) rfl dX9_person_51 ?_
          refine lv_bipush (v := (120)) S.1 S.2.1 dX9_person_54 (by decide) ?_
          refine lv_bipush (v := (6)) S.1 S.2.1 dX9_person_56 (by decide) ?_
          refine lv_iload_n S.1 S.2.1 dX9_person_58 rfl (lv_at hl 1 rfl) ?_
          refine lv_imul S.1 S.2.1 dX9_person_59 ?_
          refine lv_topi (fun x_40 ex_40 => ?_)
          have tx_40 : x_40.toInt = 6 * a.toInt := mulI (A := 6) (B := a.toInt) ex_40 rfl rfl (by omega) (by omega)
          refine lv_iadd S.1 S.2.1 dX9_person_60 ?_
          refine lv_topi (fun x_41 ex_41 => ?_)
          have tx_41 : x_41.toInt = 120 + (x_40.toInt) := addI (A := 120) (B := x_40.toInt) ex_41 rfl rfl (by omega) (by omega)
          refine lv_iload_n S.1 S.2.1 dX9_person_61 rfl (lv_at hl 2 rfl) ?_
          refine lv_iadd S.1 S.2.1 dX9_person_62 ?_
          refine lv_topi (fun x_42 ex_42 => ?_)
          have tx_42 : x_42.toInt = x_41.toInt + (wa.toInt) := addI (A := x_41.toInt) (B := wa.toInt) ex_42 rfl rfl (by omega) (by omega)
          refine lv_bipush (v := (10)) S.1 S.2.1 dX9_person_63 (by decide) ?_
          refine lv_isub S.1 S.2.1 dX9_person_65 ?_
          refine lv_topi (fun x_43 ex_43 => ?_)
          have tx_43 : x_43.toInt = x_42.toInt - (10) := subI (A := x_42.toInt) (B := 10) ex_43 rfl rfl (by omega) (by omega)
          have hin_44 : vp_in x_43 192 := (in_of (n := 192) (by omega) (by omega))
          refine va_iald S.1 S.2.1 hK.1 hP 1 0 rfl rfl hin_44 dX9_person_66 ?_
          refine lv_topi (fun x_45 ex_45 => ?_)
          refine lv_goto (tgt := 88) S.1 S.2.1 dX9_person_67 (by decide) ?_
          exact b_iret S.1 S.2.1 X.2.1 X.2.2.1 hP hD hS rfl dX9_person_88
      · have hf_31 : wa.toInt < (20) ∨ (25) < wa.toInt := by simp only [Int32.toInt_toInt64] at hf_31; exact hf_31
        have hP : va_P D vwCl [(y, .inr (9, [.int 0, .int m_status, .ref y_lane, .ref y_many, .ref y_item, .ref y_city, .ref y_fresh, .int m_isThere, .ref y_tape, .int m_taped, .int m_latest, .int m_length, .int m_cursor, .int m_token, .int m_start, .int m_till, .int m_fault, .int m_faultAt, .int m_seen, .int m_mirrors, .ref y_cost, .ref y_away, .ref y_fee, .ref y_goesTo, .ref y_priceWas, .ref y_isKept, .ref y_kept, .ref y_trace, .int m_traced])), (y_city, .inl (cI, 192, .inl cy))] H := hP
        have hD : va_D A [(y, .inr (9, [.int 0, .int m_status, .ref y_lane, .ref y_many, .ref y_item, .ref y_city, .ref y_fresh, .int m_isThere, .ref y_tape, .int m_taped, .int m_latest, .int m_length, .int m_cursor, .int m_token, .int m_start, .int m_till, .int m_fault, .int m_faultAt, .int m_seen, .int m_mirrors, .ref y_cost, .ref y_away, .ref y_fee, .ref y_goesTo, .ref y_priceWas, .ref y_isKept, .ref y_kept, .ref y_trace, .int m_traced])), (y_city, .inl (cI, 192, .inl cy))] := hD
        refine lv_if_eq (tgt := 89) S.1 S.2.1 dX9_person_41 (by decide) (fun c_46 => ?_) (fun c_46 => absurd c_46 (by decide))
        refine lv_iconst (v := (0)) S.1 S.2.1 dX9_person_89 (by decide) ?_
        refine lv_istore_n (lv' := [(3, .int 0), (0, .ref y), (1, .int a), (2, .int wa)]) S.1 S.2.1 dX9_person_90 rfl hl (by decide) rfl (fun ls hl => ?_)
        refine lv_iconst (v := (0)) S.1 S.2.1 dX9_person_91 (by decide) ?_
        refine lv_istore (lv' := [(4, .int 0), (3, .int 0), (0, .ref y), (1, .int a), (2, .int wa)]) S.1 S.2.1 dX9_person_92 hl (by decide) rfl (fun ls hl => ?_)
        refine lp_mperson l D cI cZ cC cS sq y y_city a wa m_thrown m_status y_lane y_many y_item y_fresh m_isThere y_tape m_taped m_latest m_length m_cursor m_token m_start m_till m_fault m_faultAt m_seen m_mirrors y_cost y_away y_fee y_goesTo y_priceWas y_isKept y_kept y_trace m_traced cy hpd_cy (by first | assumption | omega | decide | (rw [show Int32.toInt 0 = 0 from rfl]; omega)) X hK hT hA (fun i_47 q_48 hi_49 hi_50 H locs ls hP hD hS hl => ?_) _ (0) (0) (by first | assumption | omega | decide | (rw [show Int32.toInt 0 = 0 from rfl]; omega)) (by first | assumption | omega | decide | (rw [show Int32.toInt 0 = 0 from rfl]; omega)) (Nat.lt_succ_self _) H _ ls hP hD hS (lv_sub hl [0, 1, 2, 3, 4] rfl)
        refine lv_iload_n S.1 S.2.1 dX9_person_125 rfl (lv_at hl 4 rfl) ?_
        refine lv_iconst (v := (3)) S.1 S.2.1 dX9_person_126 (by decide) ?_
        refine lv_icmp_ne (tgt := 134) S.1 S.2.1 dX9_person_127 (by decide) (fun c_51 => ?_) (fun c_51 => ?_)
        · rw [eq2 (a := wa) (b := 3) (A := wa.toInt) (B := 3) rfl rfl] at c_51
          refine lv_iload_n S.1 S.2.1 dX9_person_134 rfl (lv_at hl 4 rfl) ?_
          refine lv_i2l (v := wa.toInt64) S.1 S.2.1 dX9_person_135 rfl ?_
          refine lv_lconst (v := 0) S.1 S.2.1 dX9_person_136 (by decide) ?_
          refine lv_ldc2 (v := (4)) S.1 S.2.1 S.2.2.2.1 (S.2.2.2.2 (.constantLong RX9 264 (4)) (by decide +kernel)) dX9_person_137 ?_
          refine b_ai (wr := [(y, .inr (9, [.int 0, .int m_status, .ref y_lane, .ref y_many, .ref y_item, .ref y_city, .ref y_fresh, .int m_isThere, .ref y_tape, .int m_taped, .int m_latest, .int m_length, .int m_cursor, .int m_token, .int m_start, .int m_till, .int m_fault, .int m_faultAt, .int m_seen, .int m_mirrors, .ref y_cost, .ref y_away, .ref y_fee, .ref y_goesTo, .ref y_priceWas, .ref y_isKept, .ref y_kept, .ref y_trace, .int m_traced])), (y_city, .inl (cI, 192, .inl cy))]) (b_runS (As := [.long (wa.toInt64), .long 0, .long 4]) (s_X9_in l D cI cZ cC cS sq H.size (wa.toInt64) (0) (4)) S gX9_person_X9_in rfl hdS_X9_in ⟨Nat.le_of_ble_eq_true rfl, Nat.le_of_ble_eq_true rfl⟩ ⟨Nat.le_of_ble_eq_true rfl, Nat.le_of_ble_eq_true rfl⟩ hK hT hS hA hP hD [] rfl (by decide) rfl hl.1 rfl (Nat.le_of_ble_eq_true rfl) dX9_person_140) hP hD hS hA [] [0, 1] rfl rfl (by decide) (by decide) (fun r_52 w_53 H locs hw_54 hP hD hS => ?_)
          rcases hw_54 with ⟨hf_55, rfl, rfl⟩ | ⟨hf_56, rfl, rfl⟩
          · have hf_55 : (0) ≤ wa.toInt ∧ wa.toInt ≤ (4) := by simp only [Int32.toInt_toInt64] at hf_55; exact hf_55
            have hP : va_P D vwCl [(y, .inr (9, [.int 0, .int m_status, .ref y_lane, .ref y_many, .ref y_item, .ref y_city, .ref y_fresh, .int m_isThere, .ref y_tape, .int m_taped, .int m_latest, .int m_length, .int m_cursor, .int m_token, .int m_start, .int m_till, .int m_fault, .int m_faultAt, .int m_seen, .int m_mirrors, .ref y_cost, .ref y_away, .ref y_fee, .ref y_goesTo, .ref y_priceWas, .ref y_isKept, .ref y_kept, .ref y_trace, .int m_traced])), (y_city, .inl (cI, 192, .inl cy))] H := hP
            have hD : va_D A [(y, .inr (9, [.int 0, .int m_status, .ref y_lane, .ref y_many, .ref y_item, .ref y_city, .ref y_fresh, .int m_isThere, .ref y_tape, .int m_taped, .int m_latest, .int m_length, .int m_cursor, .int m_token, .int m_start, .int m_till, .int m_fault, .int m_faultAt, .int m_seen, .int m_mirrors, .ref y_cost, .ref y_away, .ref y_fee, .ref y_goesTo, .ref y_priceWas, .ref y_isKept, .ref y_kept, .ref y_trace, .int m_traced])), (y_city, .inl (cI, 192, .inl cy))] := hD
            refine lv_if_eq (tgt := 164) S.1 S.2.1 dX9_person_143 (by decide) (fun c_57 => absurd c_57 (by decide)) (fun c_57 => ?_)
            refine lv_aload_n S.1 S.2.1 dX9_person_146 rfl (lv_at hl 2 rfl) ?_
            refine lv_iload_n S.1 S.2.1 dX9_person_147 rfl (lv_at hl 3 rfl) ?_
            refine lv_iload_n S.1 S.2.1 dX9_person_148 rfl (lv_at hl 4 rfl) ?_
            refine lv_iconst (v := (4)) S.1 S.2.1 dX9_person_149 (by decide) ?_
            refine lv_icmp_ne (tgt := 157) S.1 S.2.1 dX9_person_150 (by decide) (fun c_58 => ?_) (fun c_58 => ?_)
            · rw [eq2 (a := wa) (b := 4) (A := wa.toInt) (B := 4) rfl rfl] at c_58
              refine lv_iload_n S.1 S.2.1 dX9_person_157 rfl (lv_at hl 4 rfl) ?_
              refine b_ai (wr := []) (b_runV (q0 := 0) (ci := 9) (As := [.int a, .int wa]) (s_X9_of l D cI cZ cC cS sq H.size y y_city a wa (0) m_status y_lane y_many y_item y_fresh m_isThere y_tape m_taped m_latest m_length m_cursor m_token m_start m_till m_fault m_faultAt m_seen m_mirrors y_cost y_away y_fee y_goesTo y_priceWas y_isKept y_kept y_trace m_traced cy (by first | assumption | omega | decide | (rw [show Int32.toInt 0 = 0 from rfl]; omega)) (by first | assumption | omega | decide | (rw [show Int32.toInt 0 = 0 from rfl]; omega)) (by first | assumption | omega | decide | (rw [show Int32.toInt 0 = 0 from rfl]; omega))) S gX9_person_X9_of rfl hdV_X9_of ⟨Nat.le_of_ble_eq_true rfl, Nat.le_of_ble_eq_true rfl⟩ ⟨Nat.le_of_ble_eq_true rfl, Nat.le_of_ble_eq_true rfl⟩ hK hT hS hA hP hD rfl rfl [0, 1] rfl (by decide) rfl hl.1 rfl (Nat.le_of_ble_eq_true rfl) dX9_person_158) hP hD hS hA [0, 1] [] rfl rfl (by decide) (by decide) (fun r_59 w_60 H locs hw_61 hP hD hS => ?_)
              obtain ⟨hf_62, hf_63, rfl⟩ := hw_61
              have hP : va_P D vwCl [(y, .inr (9, [.int 0, .int m_status, .ref y_lane, .ref y_many, .ref y_item, .ref y_city, .ref y_fresh, .int m_isThere, .ref y_tape, .int m_taped, .int m_latest, .int m_length, .int m_cursor, .int m_token, .int m_start, .int m_till, .int m_fault, .int m_faultAt, .int m_seen, .int m_mirrors, .ref y_cost, .ref y_away, .ref y_fee, .ref y_goesTo, .ref y_priceWas, .ref y_isKept, .ref y_kept, .ref y_trace, .int m_traced])), (y_city, .inl (cI, 192, .inl cy))] H := hP
              have hD : va_D A [(y, .inr (9, [.int 0, .int m_status, .ref y_lane, .ref y_many, .ref y_item, .ref y_city, .ref y_fresh, .int m_isThere, .ref y_tape, .int m_taped, .int m_latest, .int m_length, .int m_cursor, .int m_token, .int m_start, .int m_till, .int m_fault, .int m_faultAt, .int m_seen, .int m_mirrors, .ref y_cost, .ref y_away, .ref y_fee, .ref y_goesTo, .ref y_priceWas, .ref y_isKept, .ref y_kept, .ref y_trace, .int m_traced])), (y_city, .inl (cI, 192, .inl cy))] := hD
              refine lv_goto (tgt := 166) S.1 S.2.1 dX9_person_161 (by decide) ?_
              exact b_iret S.1 S.2.1 X.2.1 X.2.2.1 hP hD hS rfl dX9_person_166
            · rw [eq2 (a := wa) (b := 4) (A := wa.toInt) (B := 4) rfl rfl] at c_58
              refine lv_iconst (v := (3)) S.1 S.2.1 dX9_person_153 (by decide) ?_
              refine lv_goto (tgt := 158) S.1 S.2.1 dX9_person_154 (by decide) ?_
              refine b_ai (wr := []) (b_runV (q0 := 0) (ci := 9) (As := [.int a, .int 3]) (s_X9_of l D cI cZ cC cS sq H.size y y_city a (3) (0) m_status y_lane y_many y_item y_fresh m_isThere y_tape m_taped m_latest m_length m_cursor m_token m_start m_till m_fault m_faultAt m_seen m_mirrors y_cost y_away y_fee y_goesTo y_priceWas y_isKept y_kept y_trace m_traced cy (by first | assumption | omega | decide | (rw [show Int32.toInt 0 = 0 from rfl]; omega)) (by first | assumption | omega | decide | (rw [show Int32.toInt 0 = 0 from rfl]; omega)) (by first | assumption | omega | decide | (rw [show Int32.toInt 0 = 0 from rfl]; omega))) S gX9_person_X9_of rfl hdV_X9_of ⟨Nat.le_of_ble_eq_true rfl, Nat.le_of_ble_eq_true rfl⟩ ⟨Nat.le_of_ble_eq_true rfl, Nat.le_of_ble_eq_true rfl⟩ hK hT hS hA hP hD rfl rfl [0, 1] rfl (by decide) rfl hl.1 rfl (Nat.le_of_ble_eq_true rfl) dX9_person_158) hP hD hS hA [0, 1] [] rfl rfl (by decide) (by decide) (fun r_64 w_65 H locs hw_66 hP hD hS => ?_)
              obtain ⟨hf_67, hf_68, rfl⟩ := hw_66
              have hf_67 : (((3) : Int) = 0 ∨ ((3) : Int) = 1) → 0 ≤ r_64.toInt ∧ r_64.toInt < 80 := hf_67
              have hf_68 : r_64 = cy (96 + 4 * a.toInt + ((3) : Int)).toNat := hf_68
              have hP : va_P D vwCl [(y, .inr (9, [.int 0, .int m_status, .ref y_lane, .ref y_many, .ref y_item, .ref y_city, .ref y_fresh, .int m_isThere, .ref y_tape, .int m_taped, .int m_latest, .int m_length, .int m_cursor, .int m_token, .int m_start, .int m_till, .int m_fault, .int m_faultAt, .int m_seen, .int m_mirrors, .ref y_cost, .ref y_away, .ref y_fee, .ref y_goesTo, .ref y_priceWas, .ref y_isKept, .ref y_kept, .ref y_trace, .int m_traced])), (y_city, .inl (cI, 192, .inl cy))] H := hP
              have hD : va_D A [(y, .inr (9, [.int 0, .int m_status, .ref y_lane, .ref y_many, .ref y_item, .ref y_city, .ref y_fresh, .int m_isThere, .ref y_tape, .int m_taped, .int m_latest, .int m_length, .int m_cursor, .int m_token, .int m_start, .int m_till, .int m_fault, .int m_faultAt, .int m_seen, .int m_mirrors, .ref y_cost, .ref y_away, .ref y_fee, .ref y_goesTo, .ref y_priceWas, .ref y_isKept, .ref y_kept, .ref y_trace, .int m_traced])), (y_city, .inl (cI, 192, .inl cy))] := hD
              refine lv_goto (tgt := 166) S.1 S.2.1 dX9_person_161 (by decide) ?_
              exact b_iret S.1 S.2.1 X.2.1 X.2.2.1 hP hD hS rfl dX9_person_166
          · have hf_56 : wa.toInt < (0) ∨ (4) < wa.toInt := by simp only [Int32.toInt_toInt64] at hf_56; exact hf_56
            have hP : va_P D vwCl [(y, .inr (9, [.int 0, .int m_status, .ref y_lane, .ref y_many, .ref y_item, .ref y_city, .ref y_fresh, .int m_isThere, .ref y_tape, .int m_taped, .int m_latest, .int m_length, .int m_cursor, .int m_token, .int m_start, .int m_till, .int m_fault, .int m_faultAt, .int m_seen, .int m_mirrors, .ref y_cost, .ref y_away, .ref y_fee, .ref y_goesTo, .ref y_priceWas, .ref y_isKept, .ref y_kept, .ref y_trace, .int m_traced])), (y_city, .inl (cI, 192, .inl cy))] H := hP
            have hD : va_D A [(y, .inr (9, [.int 0, .int m_status, .ref y_lane, .ref y_many, .ref y_item, .ref y_city, .ref y_fresh, .int m_isThere, .ref y_tape, .int m_taped, .int m_latest, .int m_length, .int m_cursor, .int m_token, .int m_start, .int m_till, .int m_fault, .int m_faultAt, .int m_seen, .int m_mirrors, .ref y_cost, .ref y_away, .ref y_fee, .ref y_goesTo, .ref y_priceWas, .ref y_isKept, .ref y_kept, .ref y_trace, .int m_traced])), (y_city, .inl (cI, 192, .inl cy))] := hD
            refine lv_if_eq (tgt := 164) S.1 S.2.1 dX9_person_143 (by decide) (fun c_69 => ?_) (fun c_69 => absurd c_69 (by decide))
            refine lv_ldc (v := (-1000001)) S.1 S.2.1 S.2.2.2.1 (S.2.2.2.2 (.constant RX9 73 (-1000001)) (by decide +kernel)) dX9_person_164 ?_
            have lqm1000001 : Int32.toInt (-1000001) = -1000001 := by decide
            exact b_iret S.1 S.2.1 X.2.1 X.2.2.1 hP hD hS rfl dX9_person_166
        · rw [eq2 (a := wa) (b := 3) (A := wa.toInt) (B := 3) rfl rfl] at c_51
          refine lv_iload_n S.1 S.2.1 dX9_person_130 rfl (lv_at hl 1 rfl) ?_
          refine lv_goto (tgt := 166) S.1 S.2.1 dX9_person_131 (by decide) ?_
          exact b_iret S.1 S.2.1 X.2.1 X.2.2.1 hP hD hS rfl dX9_person_166
  · have hP : va_P D vwCl [(y, .inr (9, [.int 0, .int m_status, .ref y_lane, .ref y_many, .ref y_item, .ref y_city, .ref y_fresh, .int m_isThere, .ref y_tape, .int m_taped, .int m_latest, .int m_length, .int m_cursor, .int m_token, .int m_start, .int m_till, .int m_fault, .int m_faultAt, .int m_seen, .int m_mirrors, .ref y_cost, .ref y_away, .ref y_fee, .ref y_goesTo, .ref y_priceWas, .ref y_isKept, .ref y_kept, .ref y_trace, .int m_traced])), (y_city, .inl (cI, 192, .inl cy))] H := hP
    have hD : va_D A [(y, .inr (9, [.int 0, .int m_status, .ref y_lane, .ref y_many, .ref y_item, .ref y_city, .ref y_fresh, .int m_isThere, .ref y_tape, .int m_taped, .int m_latest, .int m_length, .int m_cursor, .int m_token, .int m_start, .int m_till, .int m_fault, .int m_faultAt, .int m_seen, .int m_mirrors, .ref y_cost, .ref y_away, .ref y_fee, .ref y_goesTo, .ref y_priceWas, .ref y_isKept, .ref y_kept, .ref y_trace, .int m_traced])), (y_city, .inl (cI, 192, .inl cy))] := hD
    refine lv_if_ne (tgt := 16) S.1 S.2.1 dX9_person_10 (by decide) (fun c_70 => absurd c_70 (by decide)) (fun c_70 => ?_)
    refine lv_ldc (v := (-1000001)) S.1 S.2.1 S.2.2.2.1 (S.2.2.2.2 (.constant RX9 73 (-1000001)) (by decide +kernel)) dX9_person_13 ?_
    have lqm1000001 : Int32.toInt (-1000001) = -1000001 := by decide
    exact b_iret S.1 S.2.1 X.2.1 X.2.2.1 hP hD hS rfl dX9_person_15
set_option maxHeartbeats 4000000 in
set_option maxRecDepth 100000 in
theorem lp_mgot {p : Program} (l : Launch) {e : Env} {s : State} {m : MethodId} {below : List Frame} {meth : Method} {c : Code} (D : va_G) (cI cZ cC cS : ClassId) (sq : Nat → Nat) (y : Nat) (y_city : Nat) (a : Int32) (m_thrown : Int32) (m_status : Int32) (y_lane : Nat) (y_many : Nat) (y_item : Nat) (y_fresh : Nat) (m_isThere : Int32) (y_tape : Nat) (m_taped : Int32) (m_latest : Int32) (m_length : Int32) (m_cursor : Int32) (m_token : Int32) (m_start : Int32) (m_till : Int32) (m_fault : Int32) (m_faultAt : Int32) (m_seen : Int32) (m_mirrors : Int32) (y_cost : Nat) (y_away : Nat) (y_fee : Nat) (y_goesTo : Nat) (y_priceWas : Nat) (y_isKept : Nat) (y_kept : Nat) (y_trace : Nat) (m_traced : Int32) (cy : Nat → Int32) (hpd_cy : prd cyK 192 cy) {A : Nat → Prop} (X : bX p s m meth c cX9_got 4 wsX9_got yX9_got (some .int) [.ref y, .int a]) (hK : kW D (tyW cI cZ cC cS) sq s) (hT : sT sq A s s.heap) (hA : ∀ q, s.heap.size ≤ q → A q) (K : ∀ (i : Int32) (q : Int32), (prd cyK 192 cy) → (0 ≤ i.toInt ∧ i.toInt ≤ 6) → ∀ (H : Heap) (locs : List Loc) (ls : Array Slot), va_P D vwCl [(y, .inr (9, [.int 0, .int m_status, .ref y_lane, .ref y_many, .ref y_item, .ref y_city, .ref y_fresh, .int m_isThere, .ref y_tape, .int m_taped, .int m_latest, .int m_length, .int m_cursor, .int m_token, .int m_start, .int m_till, .int m_fault, .int m_faultAt, .int m_seen, .int m_mirrors, .ref y_cost, .ref y_away, .ref y_fee, .ref y_goesTo, .ref y_priceWas, .ref y_isKept, .ref y_kept, .ref y_trace, .int m_traced])), (y_city, .inl (cI, 192, .inl cy))] H → va_D A [(y, .inr (9, [.int 0, .int m_status, .ref y_lane, .ref y_many, .ref y_item, .ref y_city, .ref y_fresh, .int m_isThere, .ref y_tape, .int m_taped, .int m_latest, .int m_length, .int m_cursor, .int m_token, .int m_start, .int m_till, .int m_fault, .int m_faultAt, .int m_seen, .int m_mirrors, .ref y_cost, .ref y_away, .ref y_fee, .ref y_goesTo, .ref y_priceWas, .ref y_isKept, .ref y_kept, .ref y_trace, .int m_traced])), (y_city, .inl (cI, 192, .inl cy))] → va_S A s.heap H locs → lv_has ls 4 [(3, .int i), (2, .int q), (0, .ref y), (1, .int a)] → W p l e (rmW 50 2000 0 0) s m ([.ref y, .int a] : List Value).toArray below meth c H locs 0 0 (MQ below (va_Qi (fun r w => (w = [(y, .inr (9, [.int 0, .int m_status, .ref y_lane, .ref y_many, .ref y_item, .ref y_city, .ref y_fresh, .int m_isThere, .ref y_tape, .int m_taped, .int m_latest, .int m_length, .int m_cursor, .int m_token, .int m_start, .int m_till, .int m_fault, .int m_faultAt, .int m_seen, .int m_mirrors, .ref y_cost, .ref y_away, .ref y_fee, .ref y_goesTo, .ref y_priceWas, .ref y_isKept, .ref y_kept, .ref y_trace, .int m_traced])), (y_city, .inl (cI, 192, .inl cy))])) (wD D A) A) ([.ref y, .int a] : List Value).toArray s 0 0 A) (F0 m 59 ls [])) : ∀ (mN : Nat) (i : Int32) (q : Int32), (prd cyK 192 cy) → (0 ≤ i.toInt ∧ i.toInt ≤ 6) → ((6 - i.toInt).toNat < mN) → ∀ (H : Heap) (locs : List Loc) (ls : Array Slot), va_P D vwCl [(y, .inr (9, [.int 0, .int m_status, .ref y_lane, .ref y_many, .ref y_item, .ref y_city, .ref y_fresh, .int m_isThere, .ref y_tape, .int m_taped, .int m_latest, .int m_length, .int m_cursor, .int m_token, .int m_start, .int m_till, .int m_fault, .int m_faultAt, .int m_seen, .int m_mirrors, .ref y_cost, .ref y_away, .ref y_fee, .ref y_goesTo, .ref y_priceWas, .ref y_isKept, .ref y_kept, .ref y_trace, .int m_traced])), (y_city, .inl (cI, 192, .inl cy))] H → va_D A [(y, .inr (9, [.int 0, .int m_status, .ref y_lane, .ref y_many, .ref y_item, .ref y_city, .ref y_fresh, .int m_isThere, .ref y_tape, .int m_taped, .int m_latest, .int m_length, .int m_cursor, .int m_token, .int m_start, .int m_till, .int m_fault, .int m_faultAt, .int m_seen, .int m_mirrors, .ref y_cost, .ref y_away, .ref y_fee, .ref y_goesTo, .ref y_priceWas, .ref y_isKept, .ref y_kept, .ref y_trace, .int m_traced])), (y_city, .inl (cI, 192, .inl cy))] → va_S A s.heap H locs → lv_has ls 4 [(3, .int i), (2, .int q), (0, .ref y), (1, .int a)] → W p l e (rmW 50 2000 0 0) s m ([.ref y, .int a] : List Value).toArray below meth c H locs 0 0 (MQ below (va_Qi (fun r w => (w = [(y, .inr (9, [.int 0, .int m_status, .ref y_lane, .ref y_many, .ref y_item, .ref y_city, .ref y_fresh, .int m_isThere, .ref y_tape, .int m_taped, .int m_latest, .int m_length, .int m_cursor, .int m_token, .int m_start, .int m_till, .int m_fault, .int m_faultAt, .int m_seen, .int m_mirrors, .ref y_cost, .ref y_away, .ref y_fee, .ref y_goesTo, .ref y_priceWas, .ref y_isKept, .ref y_kept, .ref y_trace, .int m_traced])), (y_city, .inl (cI, 192, .inl cy))])) (wD D A) A) ([.ref y, .int a] : List Value).toArray s 0 0 A) (F0 m 19 ls []) := by
  have S : CallFix p m c cX9_got 4 s ([.ref y, .int a] : List Value).toArray wsX9_got RX9 := X.1
  have iX9 := jX9_got_X9
  intro mN
  induction mN with
  | zero => intro i q hpd_cy hi hm; exact absurd hm (Nat.not_lt_zero _)
  | succ mN ih =>
    intro i q hpd_cy hi hm H locs ls hP hD hS hl
    refine lv_iload_n S.1 S.2.1 dX9_got_19 rfl (lv_at hl 0 rfl) ?_
    refine lv_aload_n S.1 S.2.1 dX9_got_20 rfl (lv_at hl 2 rfl) ?_
    refine b_get (v := .ref y_city) S iX9 hK hP 0 rfl rfl 5 (by decide) (by decide +kernel) rfl dX9_got_21 ?_
    refine lv_iconst (v := (3)) S.1 S.2.1 dX9_got_24 (by decide) ?_
    have hin_101 : vp_in (3 : Int32) 192 := (by unfold vp_in; decide)
    refine va_iald S.1 S.2.1 hK.1 hP 1 0 rfl rfl hin_101 dX9_got_25 ?_
    refine lv_topi (fun x_102 ex_102 => ?_)
    have tx_102 := cyg_N (x := x_102) (show prd cyK 192 cy by assumption) (by decide) ex_102
    refine lv_icmp_ge (tgt := 59) S.1 S.2.1 dX9_got_26 (by decide) (fun c_103 => ?_) (fun c_103 => ?_)
    · rw [le2 (a := x_102) (b := i) (A := x_102.toInt) (B := i.toInt) rfl rfl] at c_103
      exact K i q (by first | assumption | omega | decide | (rw [show Int32.toInt 0 = 0 from rfl]; omega)) (by first | assumption | omega | decide | (rw [show Int32.toInt 0 = 0 from rfl]; omega)) H _ ls hP hD hS (lv_sub hl [0, 1, 2, 3] rfl)
    · rw [le2 (a := x_102) (b := i) (A := x_102.toInt) (B := i.toInt) rfl rfl] at c_103
      refine lv_iload_n S.1 S.2.1 dX9_got_29 rfl (lv_at hl 3 rfl) ?_
      refine b_ai (wr := [(y, .inr (9, [.int 0, .int m_status, .ref y_lane, .ref y_many, .ref y_item, .ref y_city, .ref y_fresh, .int m_isThere, .ref y_tape, .int m_taped, .int m_latest, .int m_length, .int m_cursor, .int m_token, .int m_start, .int m_till, .int m_fault, .int m_faultAt, .int m_seen, .int m_mirrors, .ref y_cost, .ref y_away, .ref y_fee, .ref y_goesTo, .ref y_priceWas, .ref y_isKept, .ref y_kept, .ref y_trace, .int m_traced])), (y_city, .inl (cI, 192, .inl cy))]) (b_runS (As := [.int a]) (s_X9_isOwner l D cI cZ cC cS sq H.size a) S gX9_got_X9_isOwner rfl hdS_X9_isOwner ⟨Nat.le_of_ble_eq_true rfl, Nat.le_of_ble_eq_true rfl⟩ ⟨Nat.le_of_ble_eq_true rfl, Nat.le_of_ble_eq_true rfl⟩ hK hT hS hA hP hD [] rfl (by decide) rfl hl.1 rfl (Nat.le_of_ble_eq_true rfl) dX9_got_30) hP hD hS hA [] [0, 1] rfl rfl (by decide) (by decide) (fun r_104 w_105 H locs hw_106 hP hD hS => ?_)
      rcases hw_106 with ⟨hf_107, rfl, rfl⟩ | ⟨hf_108, rfl, rfl⟩
      · have hP : va_P D vwCl [(y, .inr (9, [.int 0, .int m_status, .ref y_lane, .ref y_many, .ref y_item, .ref y_city, .ref y_fresh, .int m_isThere, .ref y_tape, .int m_taped, .int m_latest, .int m_length, .int m_cursor, .int m_token, .int m_start, .int m_till, .int m_fault, .int m_faultAt, .int m_seen, .int m_mirrors, .ref y_cost, .ref y_away, .ref y_fee, .ref y_goesTo, .ref y_priceWas, .ref y_isKept, .ref y_kept, .ref y_trace, .int m_traced])), (y_city, .inl (cI, 192, .inl cy))] H := hP
        have hD : va_D A [(y, .inr (9, [.int 0, .int m_status, .ref y_lane, .ref y_many, .ref y_item, .ref y_city, .ref y_fresh, .int m_isThere, .ref y_tape, .int m_taped, .int m_latest, .int m_length, .int m_cursor, .int m_token, .int m_start, .int m_till, .int m_fault, .int m_faultAt, .int m_seen, .int m_mirrors, .ref y_cost, .ref y_away, .ref y_fee, .ref y_goesTo, .ref y_priceWas, .ref y_isKept, .ref y_kept, .ref y_trace, .int m_traced])), (y_city, .inl (cI, 192, .inl cy))] := hD
        refine lv_if_eq (tgt := 59) S.1 S.2.1 dX9_got_33 (by decide) (fun c_109 => absurd c_109 (by decide)) (fun c_109 => ?_)
        refine lv_iload_n S.1 S.2.1 dX9_got_36 rfl (lv_at hl 1 rfl) ?_
        refine lv_aload_n S.1 S.2.1 dX9_got_37 rfl (lv_at hl 2 rfl) ?_
        refine b_get (v := .ref y_city) S iX9 hK hP 0 rfl rfl 5 (by decide) (by decide +kernel) rfl dX9_got_38 ?_
        refine lv_bipush (v := (120)) S.1 S.2.1 dX9_got_41 (by decide) ?_
        refine lv_bipush (v := (6)) S.1 S.2.1 dX9_got_43 (by decide) ?_
        refine lv_iload_n S.1 S.2.1 dX9_got_45 rfl (lv_at hl 0 rfl) ?_
        refine lv_imul S.1 S.2.1 dX9_got_46 ?_
        refine lv_topi (fun x_110 ex_110 => ?_)
        have tx_110 : x_110.toInt = 6 * i.toInt := mulI (A := 6) (B := i.toInt) ex_110 rfl rfl (by omega) (by omega)
        refine lv_iadd S.1 S.2.1 dX9_got_47 ?_
        refine lv_topi (fun x_111 ex_111 => ?_)
        have tx_111 : x_111.toInt = 120 + (x_110.toInt) := addI (A := 120) (B := x_110.toInt) ex_111 rfl rfl (by omega) (by omega)
        refine lv_iload_n S.1 S.2.1 dX9_got_48 rfl (lv_at hl 3 rfl) ?_
        refine lv_iadd S.1 S.2.1 dX9_got_49 ?_
        refine lv_topi (fun x_112 ex_112 => ?_)
        have tx_112 : x_112.toInt = x_111.toInt + (a.toInt) := addI (A := x_111.toInt) (B := a.toInt) ex_112 rfl rfl (by omega) (by omega)
        have hin_113 : vp_in x_112 192 := (in_of (n := 192) (by omega) (by omega))
        refine va_iald S.1 S.2.1 hK.1 hP 1 0 rfl rfl hin_113 dX9_got_50 ?_
        refine lv_topi (fun x_114 ex_114 => ?_)
        refine lv_iadd S.1 S.2.1 dX9_got_51 ?_
        refine lv_topi (fun x_115 ex_115 => ?_)
        refine lv_istore_n (lv' := [(2, .int x_115), (3, .int i), (0, .ref y), (1, .int a)]) S.1 S.2.1 dX9_got_52 rfl hl (by decide) rfl (fun ls hl => ?_)
        obtain ⟨x_116, ex_116⟩ : ∃ y : Int32, y = i + Int32.ofInt (1) := ⟨_, rfl⟩
        refine lv_iinc (v := x_116) (lv' := [(3, .int x_116), (2, .int x_115), (0, .ref y), (1, .int a)]) S.1 S.2.1 dX9_got_53 hl (k := 1) rfl ex_116.symm (by decide) rfl (fun ls hl => ?_)
        have tx_116 : x_116.toInt = i.toInt + (1) := addI (A := i.toInt) (B := 1) ex_116 rfl rfl (by omega) (by omega)
        refine lv_goto (tgt := 19) S.1 S.2.1 dX9_got_56 (by decide) ?_
        exact ih x_116 x_115 (by first | assumption | omega | decide | (rw [show Int32.toInt 0 = 0 from rfl]; omega)) (by first | assumption | omega | decide | (rw [show Int32.toInt 0 = 0 from rfl]; omega)) (by omega) H _ ls hP hD hS (lv_sub hl [0, 1, 2, 3] rfl)
      · have hP : va_P D vwCl [(y, .inr (9, [.int 0, .int m_status, .ref y_lane, .ref y_many, .ref y_item, .ref y_city, .ref y_fresh, .int m_isThere, .ref y_tape, .int m_taped, .int m_latest, .int m_length, .int m_cursor, .int m_token, .int m_start, .int m_till, .int m_fault, .int m_faultAt, .int m_seen, .int m_mirrors, .ref y_cost, .ref y_away, .ref y_fee, .ref y_goesTo, .ref y_priceWas, .ref y_isKept, .ref y_kept, .ref y_trace, .int m_traced])), (y_city, .inl (cI, 192, .inl cy))] H := hP
        have hD : va_D A [(y, .inr (9, [.int 0, .int m_status, .ref y_lane, .ref y_many, .ref y_item, .ref y_city, .ref y_fresh, .int m_isThere, .ref y_tape, .int m_taped, .int m_latest, .int m_length, .int m_cursor, .int m_token, .int m_start, .int m_till, .int m_fault, .int m_faultAt, .int m_seen, .int m_mirrors, .ref y_cost, .ref y_away, .ref y_fee, .ref y_goesTo, .ref y_priceWas, .ref y_isKept, .ref y_kept, .ref y_trace, .int m_traced])), (y_city, .inl (cI, 192, .inl cy))] := hD
        refine lv_if_eq (tgt := 59) S.1 S.2.1 dX9_got_33 (by decide) (fun c_117 => ?_) (fun c_117 => absurd c_117 (by decide))
        exact K i q (by first | assumption | omega | decide | (rw [show Int32.toInt 0 = 0 from rfl]; omega)) (by first | assumption | omega | decide | (rw [show Int32.toInt 0 = 0 from rfl]; omega)) H _ ls hP hD hS (lv_sub hl [0, 1, 2, 3] rfl)
set_option maxHeartbeats 4000000 in
set_option maxRecDepth 100000 in
theorem s_X9_got (l : Launch) (D : va_G) (cI cZ cC cS : ClassId) (sq : Nat → Nat) (sz : Nat) (y : Nat) (y_city : Nat) (a : Int32) (m_thrown : Int32) (m_status : Int32) (y_lane : Nat) (y_many : Nat) (y_item : Nat) (y_fresh : Nat) (m_isThere : Int32) (y_tape : Nat) (m_taped : Int32) (m_latest : Int32) (m_length : Int32) (m_cursor : Int32) (m_token : Int32) (m_start : Int32) (m_till : Int32) (m_fault : Int32) (m_faultAt : Int32) (m_seen : Int32) (m_mirrors : Int32) (y_cost : Nat) (y_away : Nat) (y_fee : Nat) (y_goesTo : Nat) (y_priceWas : Nat) (y_isKept : Nat) (y_kept : Nat) (y_trace : Nat) (m_traced : Int32) (cy : Nat → Int32) (hpd_cy : prd cyK 192 cy) : mI l yX9_got wsX9_got 50 2000 D (tyW cI cZ cC cS) sq [(y, .inr (9, [.int m_thrown, .int m_status, .ref y_lane, .ref y_many, .ref y_item, .ref y_city, .ref y_fresh, .int m_isThere, .ref y_tape, .int m_taped, .int m_latest, .int m_length, .int m_cursor, .int m_token, .int m_start, .int m_till, .int m_fault, .int m_faultAt, .int m_seen, .int m_mirrors, .ref y_cost, .ref y_away, .ref y_fee, .ref y_goesTo, .ref y_priceWas, .ref y_isKept, .ref y_kept, .ref y_trace, .int m_traced])), (y_city, .inl (cI, 192, .inl cy))] sz [.ref y, .int a] (fun r w => (w = [(y, .inr (9, [.int 0, .int m_status, .ref y_lane, .ref y_many, .ref y_item, .ref y_city, .ref y_fresh, .int m_isThere, .ref y_tape, .int m_taped, .int m_latest, .int m_length, .int m_cursor, .int m_token, .int m_start, .int m_till, .int m_fault, .int m_faultAt, .int m_seen, .int m_mirrors, .ref y_cost, .ref y_away, .ref y_fee, .ref y_goesTo, .ref y_priceWas, .ref y_isKept, .ref y_kept, .ref y_trace, .int m_traced])), (y_city, .inl (cI, 192, .inl cy))])) := by
  refine b_metI (cc := cX9_got) (maxL := 4) (ret := (some .int)) (by decide) rfl (Nat.le_of_ble_eq_true rfl) ?_
  intro p e s m below meth c ls A H X hsz hP hK hT hD hA hS hl
  have S : CallFix p m c cX9_got 4 s ([.ref y, .int a] : List Value).toArray wsX9_got RX9 := X.1
  have hl : lv_has ls 4 [(0, .ref y), (1, .int a)] := hl
  have iX9 := jX9_got_X9
  refine lv_aload_n S.1 S.2.1 dX9_got_0 rfl (lv_at hl 0 rfl) ?_
  refine lv_iconst (v := (0)) S.1 S.2.1 dX9_got_1 (by decide) ?_
  refine b_put (v := .int 0) S iX9 tyX9 tyX9_ok nmX9 hK hP hD hS 0 rfl rfl 0 (by decide) (by decide +kernel) rfl rfl rfl (Nat.le_of_ble_eq_true rfl) dX9_got_2 (fun H locs hP hD hS => ?_)
  have hP : va_P D vwCl [(y, .inr (9, [.int 0, .int m_status, .ref y_lane, .ref y_many, .ref y_item, .ref y_city, .ref y_fresh, .int m_isThere, .ref y_tape, .int m_taped, .int m_latest, .int m_length, .int m_cursor, .int m_token, .int m_start, .int m_till, .int m_fault, .int m_faultAt, .int m_seen, .int m_mirrors, .ref y_cost, .ref y_away, .ref y_fee, .ref y_goesTo, .ref y_priceWas, .ref y_isKept, .ref y_kept, .ref y_trace, .int m_traced])), (y_city, .inl (cI, 192, .inl cy))] H := hP
  have hD : va_D A [(y, .inr (9, [.int 0, .int m_status, .ref y_lane, .ref y_many, .ref y_item, .ref y_city, .ref y_fresh, .int m_isThere, .ref y_tape, .int m_taped, .int m_latest, .int m_length, .int m_cursor, .int m_token, .int m_start, .int m_till, .int m_fault, .int m_faultAt, .int m_seen, .int m_mirrors, .ref y_cost, .ref y_away, .ref y_fee, .ref y_goesTo, .ref y_priceWas, .ref y_isKept, .ref y_kept, .ref y_trace, .int m_traced])), (y_city, .inl (cI, 192, .inl cy))] := hD
  refine lv_aload_n S.1 S.2.1 dX9_got_5 rfl (lv_at hl 0 rfl) ?_
  refine b_get (v := .int m_isThere) S iX9 hK hP 0 rfl rfl 7 (by decide) (by decide +kernel) rfl dX9_got_6 ?_
  refine lv_if_ne (tgt := 15) S.1 S.2.1 dX9_got_9 (by decide) (fun c_1 => ?_) (fun c_1 => ?_)
  · rw [eq2 (a := m_isThere) (b := 0) (A := m_isThere.toInt) (B := 0) rfl rfl] at c_1
    refine lv_iconst (v := (0)) S.1 S.2.1 dX9_got_15 (by decide) ?_
    refine lv_istore_n (lv' := [(2, .int 0), (0, .ref y), (1, .int a)]) S.1 S.2.1 dX9_got_16 rfl hl (by decide) rfl (fun ls hl => ?_)
    refine lv_iconst (v := (0)) S.1 S.2.1 dX9_got_17 (by decide) ?_
    refine lv_istore_n (lv' := [(3, .int 0), (2, .int 0), (0, .ref y), (1, .int a)]) S.1 S.2.1 dX9_got_18 rfl hl (by decide) rfl (fun ls hl => ?_)
    refine lp_mgot l D cI cZ cC cS sq y y_city a m_thrown m_status y_lane y_many y_item y_fresh m_isThere y_tape m_taped m_latest m_length m_cursor m_token m_start m_till m_fault m_faultAt m_seen m_mirrors y_cost y_away y_fee y_goesTo y_priceWas y_isKept y_kept y_trace m_traced cy hpd_cy X hK hT hA (fun i_2 q_3 hi_4 hi_5 H locs ls hP hD hS hl => ?_) _ (0) (0) (by first | assumption | omega | decide | (rw [show Int32.toInt 0 = 0 from rfl]; omega)) (by first | assumption | omega | decide | (rw [show Int32.toInt 0 = 0 from rfl]; omega)) (Nat.lt_succ_self _) H _ ls hP hD hS (lv_sub hl [0, 1, 2, 3] rfl)
    refine lv_iload_n S.1 S.2.1 dX9_got_59 rfl (lv_at hl 3 rfl) ?_
    refine b_ai (wr := [(y, .inr (9, [.int 0, .int m_status, .ref y_lane, .ref y_many, .ref y_item, .ref y_city, .ref y_fresh, .int m_isThere, .ref y_tape, .int m_taped, .int m_latest, .int m_length, .int m_cursor, .int m_token, .int m_start, .int m_till, .int m_fault, .int m_faultAt, .int m_seen, .int m_mirrors, .ref y_cost, .ref y_away, .ref y_fee, .ref y_goesTo, .ref y_priceWas, .ref y_isKept, .ref y_kept, .ref y_trace, .int m_traced])), (y_city, .inl (cI, 192, .inl cy))]) (b_runS (As := [.int a]) (s_X9_isOwner l D cI cZ cC cS sq H.size a) S gX9_got_X9_isOwner rfl hdS_X9_isOwner ⟨Nat.le_of_ble_eq_true rfl, Nat.le_of_ble_eq_true rfl⟩ ⟨Nat.le_of_ble_eq_true rfl, Nat.le_of_ble_eq_true rfl⟩ hK hT hS hA hP hD [] rfl (by decide) rfl hl.1 rfl (Nat.le_of_ble_eq_true rfl) dX9_got_60) hP hD hS hA [] [0, 1] rfl rfl (by decide) (by decide) (fun r_6 w_7 H locs hw_8 hP hD hS => ?_)
    rcases hw_8 with ⟨hf_9, rfl, rfl⟩ | ⟨hf_10, rfl, rfl⟩
    · have hP : va_P D vwCl [(y, .inr (9, [.int 0, .int m_status, .ref y_lane, .ref y_many, .ref y_item, .ref y_city, .ref y_fresh, .int m_isThere, .ref y_tape, .int m_taped, .int m_latest, .int m_length, .int m_cursor, .int m_token, .int m_start, .int m_till, .int m_fault, .int m_faultAt, .int m_seen, .int m_mirrors, .ref y_cost, .ref y_away, .ref y_fee, .ref y_goesTo, .ref y_priceWas, .ref y_isKept, .ref y_kept, .ref y_trace, .int m_traced])), (y_city, .inl (cI, 192, .inl cy))] H := hP
      have hD : va_D A [(y, .inr (9, [.int 0, .int m_status, .ref y_lane, .ref y_many, .ref y_item, .ref y_city, .ref y_fresh, .int m_isThere, .ref y_tape, .int m_taped, .int m_latest, .int m_length, .int m_cursor, .int m_token, .int m_start, .int m_till, .int m_fault, .int m_faultAt, .int m_seen, .int m_mirrors, .ref y_cost, .ref y_away, .ref y_fee, .ref y_goesTo, .ref y_priceWas, .ref y_isKept, .ref y_kept, .ref y_trace, .int m_traced])), (y_city, .inl (cI, 192, .inl cy))] := hD
      refine lv_if_eq (tgt := 70) S.1 S.2.1 dX9_got_63 (by decide) (fun c_11 => absurd c_11 (by decide)) (fun c_11 => ?_)
      refine lv_iload_n S.1 S.2.1 dX9_got_66 rfl (lv_at hl 1 rfl) ?_
      refine lv_goto (tgt := 72) S.1 S.2.1 dX9_got_67 (by decide) ?_
      exact b_iret S.1 S.2.1 X.2.1 X.2.2.1 hP hD hS rfl dX9_got_72
    · have hP : va_P D vwCl [(y, .inr (9, [.int 0, .int m_status, .ref y_lane, .ref y_many, .ref y_item, .ref y_city, .ref y_fresh, .int m_isThere, .ref y_tape, .int m_taped, .int m_latest, .int m_length, .int m_cursor, .int m_token, .int m_start, .int m_till, .int m_fault, .int m_faultAt, .int m_seen, .int m_mirrors, .ref y_cost, .ref y_away, .ref y_fee, .ref y_goesTo, .ref y_priceWas, .ref y_isKept, .ref y_kept, .ref y_trace, .int m_traced])), (y_city, .inl (cI, 192, .inl cy))] H := hP
      have hD : va_D A [(y, .inr (9, [.int 0, .int m_status, .ref y_lane, .ref y_many, .ref y_item, .ref y_city, .ref y_fresh, .int m_isThere, .ref y_tape, .int m_taped, .int m_latest, .int m_length, .int m_cursor, .int m_token, .int m_start, .int m_till, .int m_fault, .int m_faultAt, .int m_seen, .int m_mirrors, .ref y_cost, .ref y_away, .ref y_fee, .ref y_goesTo, .ref y_priceWas, .ref y_isKept, .ref y_kept, .ref y_trace, .int m_traced])), (y_city, .inl (cI, 192, .inl cy))] := hD
      refine lv_if_eq (tgt := 70) S.1 S.2.1 dX9_got_63 (by decide) (fun c_12 => ?_) (fun c_12 => absurd c_12 (by decide))
      refine lv_ldc (v := (-1000001)) S.1 S.2.1 S.2.2.2.1 (S.2.2.2.2 (.constant RX9 73 (-1000001)) (by decide +kernel)) dX9_got_70 ?_
      have lqm1000001 : Int32.toInt (-1000001) = -1000001 := by decide
      exact b_iret S.1 S.2.1 X.2.1 X.2.2.1 hP hD hS rfl dX9_got_72
  · rw [eq2 (a := m_isThere) (b := 0) (A := m_isThere.toInt) (B := 0) rfl rfl] at c_1
    refine lv_ldc (v := (-1000002)) S.1 S.2.1 S.2.2.2.1 (S.2.2.2.2 (.constant RX9 233 (-1000002)) (by decide +kernel)) dX9_got_12 ?_
    have lqm1000002 : Int32.toInt (-1000002) = -1000002 := by decide
    exact b_iret S.1 S.2.1 X.2.1 X.2.2.1 hP hD hS rfl dX9_got_14
set_option maxHeartbeats 4000000 in
set_option maxRecDepth 100000 in
theorem lp_mwitnesses {p : Program} (l : Launch) {e : Env} {s : State} {m : MethodId} {below : List Frame} {meth : Method} {c : Code} (D : va_G) (cI cZ cC cS : ClassId) (sq : Nat → Nat) (y : Nat) (y_city : Nat) (a : Int32) (m_thrown : Int32) (m_status : Int32) (y_lane : Nat) (y_many : Nat) (y_item : Nat) (y_fresh : Nat) (m_isThere : Int32) (y_tape : Nat) (m_taped : Int32) (m_latest : Int32) (m_length : Int32) (m_cursor : Int32) (m_token : Int32) (m_start : Int32) (m_till : Int32) (m_fault : Int32) (m_faultAt : Int32) (m_seen : Int32) (m_mirrors : Int32) (y_cost : Nat) (y_away : Nat) (y_fee : Nat) (y_goesTo : Nat) (y_priceWas : Nat) (y_isKept : Nat) (y_kept : Nat) (y_trace : Nat) (m_traced : Int32) (cy : Nat → Int32) (hpd_cy : prd cyK 192 cy) {A : Nat → Prop} (X : bX p s m meth c cX9_witnesses 4 wsX9_witnesses yX9_witnesses (some .int) [.ref y, .int a]) (hK : kW D (tyW cI cZ cC cS) sq s) (hT : sT sq A s s.heap) (hA : ∀ q, s.heap.size ≤ q → A q) (K : ∀ (i : Int32) (q : Int32), (prd cyK 192 cy) → (0 ≤ i.toInt ∧ i.toInt ≤ 6) → ∀ (H : Heap) (locs : List Loc) (ls : Array Slot), va_P D vwCl [(y, .inr (9, [.int 0, .int m_status, .ref y_lane, .ref y_many, .ref y_item, .ref y_city, .ref y_fresh, .int m_isThere, .ref y_tape, .int m_taped, .int m_latest, .int m_length, .int m_cursor, .int m_token, .int m_start, .int m_till, .int m_fault, .int m_faultAt, .int m_seen, .int m_mirrors, .ref y_cost, .ref y_away, .ref y_fee, .ref y_goesTo, .ref y_priceWas, .ref y_isKept, .ref y_kept, .ref y_trace, .int m_traced])), (y_city, .inl (cI, 192, .inl cy))] H → va_D A [(y, .inr (9, [.int 0, .int m_status, .ref y_lane, .ref y_many, .ref y_item, .ref y_city, .ref y_fresh, .int m_isThere, .ref y_tape, .int m_taped, .int m_latest, .int m_length, .int m_cursor, .int m_token, .int m_start, .int m_till, .int m_fault, .int m_faultAt, .int m_seen, .int m_mirrors, .ref y_cost, .ref y_away, .ref y_fee, .ref y_goesTo, .ref y_priceWas, .ref y_isKept, .ref y_kept, .ref y_trace, .int m_traced])), (y_city, .inl (cI, 192, .inl cy))] → va_S A s.heap H locs → lv_has ls 4 [(3, .int i), (2, .int q), (0, .ref y), (1, .int a)] → W p l e (rmW 50 2000 0 0) s m ([.ref y, .int a] : List Value).toArray below meth c H locs 0 0 (MQ below (va_Qi (fun r w => (w = [(y, .inr (9, [.int 0, .int m_status, .ref y_lane, .ref y_many, .ref y_item, .ref y_city, .ref y_fresh, .int m_isThere, .ref y_tape, .int m_taped, .int m_latest, .int m_length, .int m_cursor, .int m_token, .int m_start, .int m_till, .int m_fault, .int m_faultAt, .int m_seen, .int m_mirrors, .ref y_cost, .ref y_away, .ref y_fee, .ref y_goesTo, .ref y_priceWas, .ref y_isKept, .ref y_kept, .ref y_trace, .int m_traced])), (y_city, .inl (cI, 192, .inl cy))])) (wD D A) A) ([.ref y, .int a] : List Value).toArray s 0 0 A) (F0 m 70 ls [])) : ∀ (mN : Nat) (i : Int32) (q : Int32), (prd cyK 192 cy) → (0 ≤ i.toInt ∧ i.toInt ≤ 6) → ((6 - i.toInt).toNat < mN) → ∀ (H : Heap) (locs : List Loc) (ls : Array Slot), va_P D vwCl [(y, .inr (9, [.int 0, .int m_status, .ref y_lane, .ref y_many, .ref y_item, .ref y_city, .ref y_fresh, .int m_isThere, .ref y_tape, .int m_taped, .int m_latest, .int m_length, .int m_cursor, .int m_token, .int m_start, .int m_till, .int m_fault, .int m_faultAt, .int m_seen, .int m_mirrors, .ref y_cost, .ref y_away, .ref y_fee, .ref y_goesTo, .ref y_priceWas, .ref y_isKept, .ref y_kept, .ref y_trace, .int m_traced])), (y_city, .inl (cI, 192, .inl cy))] H → va_D A [(y, .inr (9, [.int 0, .int m_status, .ref y_lane, .ref y_many, .ref y_item, .ref y_city, .ref y_fresh, .int m_isThere, .ref y_tape, .int m_taped, .int m_latest, .int m_length, .int m_cursor, .int m_token, .int m_start, .int m_till, .int m_fault, .int m_faultAt, .int m_seen, .int m_mirrors, .ref y_cost, .ref y_away, .ref y_fee, .ref y_goesTo, .ref y_priceWas, .ref y_isKept, .ref y_kept, .ref y_trace, .int m_traced])), (y_city, .inl (cI, 192, .inl cy))] → va_S A s.heap H locs → lv_has ls 4 [(3, .int i), (2, .int q), (0, .ref y), (1, .int a)] → W p l e (rmW 50 2000 0 0) s m ([.ref y, .int a] : List Value).toArray below meth c H locs 0 0 (MQ below (va_Qi (fun r w => (w = [(y, .inr (9, [.int 0, .int m_status, .ref y_lane, .ref y_many, .ref y_item, .ref y_city, .ref y_fresh, .int m_isThere, .ref y_tape, .int m_taped, .int m_latest, .int m_length, .int m_cursor, .int m_token, .int m_start, .int m_till, .int m_fault, .int m_faultAt, .int m_seen, .int m_mirrors, .ref y_cost, .ref y_away, .ref y_fee, .ref y_goesTo, .ref y_priceWas, .ref y_isKept, .ref y_kept, .ref y_trace, .int m_traced])), (y_city, .inl (cI, 192, .inl cy))])) (wD D A) A) ([.ref y, .int a] : List Value).toArray s 0 0 A) (F0 m 19 ls []) := by
  have S : CallFix p m c cX9_witnesses 4 s ([.ref y, .int a] : List Value).toArray wsX9_witnesses RX9 := X.1
  have iX9 := jX9_witnesses_X9
  intro mN
  induction mN with
  | zero => intro i q hpd_cy hi hm; exact absurd hm (Nat.not_lt_zero _)
  | succ mN ih =>
    intro i q hpd_cy hi hm H locs ls hP hD hS hl
    refine lv_iload_n S.1 S.2.1 dX9_witnesses_19 rfl (lv_at hl 0 rfl) ?_
    refine lv_aload_n S.1 S.2.1 dX9_witnesses_20 rfl (lv_at hl 2 rfl) ?_
    refine b_get (v := .ref y_city) S iX9 hK hP 0 rfl rfl 5 (by decide) (by decide +kernel) rfl dX9_witnesses_21 ?_
    refine lv_iconst (v := (3)) S.1 S.2.1 dX9_witnesses_24 (by decide) ?_
    have hin_101 : vp_in (3 : Int32) 192 := (by unfold vp_in; decide)
    refine va_iald S.1 S.2.1 hK.1 hP 1 0 rfl rfl hin_101 dX9_witnesses_25 ?_
    refine lv_topi (fun x_102 ex_102 => ?_)
    have tx_102 := cyg_N (x := x_102) (show prd cyK 192 cy by assumption) (by decide) ex_102
    refine lv_icmp_ge (tgt := 70) S.1 S.2.1 dX9_witnesses_26 (by decide) (fun c_103 => ?_) (fun c_103 => ?_)
    · rw [le2 (a := x_102) (b := i) (A := x_102.toInt) (B := i.toInt) rfl rfl] at c_103
      exact K i q (by first | assumption | omega | decide | (rw [show Int32.toInt 0 = 0 from rfl]; omega)) (by first | assumption | omega | decide | (rw [show Int32.toInt 0 = 0 from rfl]; omega)) H _ ls hP hD hS (lv_sub hl [0, 1, 2, 3] rfl)
    · rw [le2 (a := x_102) (b := i) (A := x_102.toInt) (B := i.toInt) rfl rfl] at c_103
      refine lv_iload_n S.1 S.2.1 dX9_witnesses_29 rfl (lv_at hl 3 rfl) ?_
      refine b_ai (wr := [(y, .inr (9, [.int 0, .int m_status, .ref y_lane, .ref y_many, .ref y_item, .ref y_city, .ref y_fresh, .int m_isThere, .ref y_tape, .int m_taped, .int m_latest, .int m_length, .int m_cursor, .int m_token, .int m_start, .int m_till, .int m_fault, .int m_faultAt, .int m_seen, .int m_mirrors, .ref y_cost, .ref y_away, .ref y_fee, .ref y_goesTo, .ref y_priceWas, .ref y_isKept, .ref y_kept, .ref y_trace, .int m_traced])), (y_city, .inl (cI, 192, .inl cy))]) (b_runS (As := [.int a]) (s_X9_isOwner l D cI cZ cC cS sq H.size a) S gX9_witnesses_X9_isOwner rfl hdS_X9_isOwner ⟨Nat.le_of_ble_eq_true rfl, Nat.le_of_ble_eq_true rfl⟩ ⟨Nat.le_of_ble_eq_true rfl, Nat.le_of_ble_eq_true rfl⟩ hK hT hS hA hP hD [] rfl (by decide) rfl hl.1 rfl (Nat.le_of_ble_eq_true rfl) dX9_witnesses_30) hP hD hS hA [] [0, 1] rfl rfl (by decide) (by decide) (fun r_104 w_105 H locs hw_106 hP hD hS => ?_)
      rcases hw_106 with ⟨hf_107, rfl, rfl⟩ | ⟨hf_108, rfl, rfl⟩
      · have hP : va_P D vwCl [(y, .inr (9, [.int 0, .int m_status, .ref y_lane, .ref y_many, .ref y_item, .ref y_city, .ref y_fresh, .int m_isThere, .ref y_tape, .int m_taped, .int m_latest, .int m_length, .int m_cursor, .int m_token, .int m_start, .int m_till, .int m_fault, .int m_faultAt, .int m_seen, .int m_mirrors, .ref y_cost, .ref y_away, .ref y_fee, .ref y_goesTo, .ref y_priceWas, .ref y_isKept, .ref y_kept, .ref y_trace, .int m_traced])), (y_city, .inl (cI, 192, .inl cy))] H := hP
        have hD : va_D A [(y, .inr (9, [.int 0, .int m_status, .ref y_lane, .ref y_many, .ref y_item, .ref y_city, .ref y_fresh, .int m_isThere, .ref y_tape, .int m_taped, .int m_latest, .int m_length, .int m_cursor, .int m_token, .int m_start, .int m_till, .int m_fault, .int m_faultAt, .int m_seen, .int m_mirrors, .ref y_cost, .ref y_away, .ref y_fee, .ref y_goesTo, .ref y_priceWas, .ref y_isKept, .ref y_kept, .ref y_trace, .int m_traced])), (y_city, .inl (cI, 192, .inl cy))] := hD
        refine lv_if_eq (tgt := 70) S.1 S.2.1 dX9_witnesses_33 (by decide) (fun c_109 => absurd c_109 (by decide)) (fun c_109 => ?_)
        refine lv_iload_n S.1 S.2.1 dX9_witnesses_36 rfl (lv_at hl 1 rfl) ?_
        refine lv_aload_n S.1 S.2.1 dX9_witnesses_37 rfl (lv_at hl 2 rfl) ?_
        refine b_get (v := .ref y_city) S iX9 hK hP 0 rfl rfl 5 (by decide) (by decide +kernel) rfl dX9_witnesses_38 ?_
        refine lv_sipush (v := (156)) S.1 S.2.1 dX9_witnesses_41 (by decide) ?_
        refine lv_bipush (v := (6)) S.1 S.2.1 dX9_witnesses_44 (by decide) ?_
        refine lv_iload_n S.1 S.2.1 dX9_witnesses_46 rfl (lv_at hl 0 rfl) ?_
        refine lv_imul S.1 S.2.1 dX9_witnesses_47 ?_
        refine lv_topi (fun x_110 ex_110 => ?_)
        have tx_110 : x_110.toInt = 6 * i.toInt := mulI (A := 6) (B := i.toInt) ex_110 rfl rfl (by omega) (by omega)
        refine lv_iadd S.1 S.2.1 dX9_witnesses_48 ?_
        refine lv_topi (fun x_111 ex_111 => ?_)
        have tx_111 : x_111.toInt = 156 + (x_110.toInt) := addI (A := 156) (B := x_110.toInt) ex_111 rfl rfl (by omega) (by omega)
        refine lv_iload_n S.1 S.2.1 dX9_witnesses_49 rfl (lv_at hl 3 rfl) ?_
        refine lv_iadd S.1 S.2.1 dX9_witnesses_50 ?_
        refine lv_topi (fun x_112 ex_112 => ?_)
        have tx_112 : x_112.toInt = x_111.toInt + (a.toInt) := addI (A := x_111.toInt) (B := a.toInt) ex_112 rfl rfl (by omega) (by omega)
        have hin_113 : vp_in x_112 192 := (in_of (n := 192) (by omega) (by omega))
        refine va_iald S.1 S.2.1 hK.1 hP 1 0 rfl rfl hin_113 dX9_witnesses_51 ?_
        refine lv_topi (fun x_114 ex_114 => ?_)
        refine lv_if_ne (tgt := 61) S.1 S.2.1 dX9_witnesses_52 (by decide) (fun c_115 => ?_) (fun c_115 => ?_)
        · rw [eq2 (a := x_114) (b := 0) (A := x_114.toInt) (B := 0) rfl rfl] at c_115
          refine lv_iconst (v := (0)) S.1 S.2.1 dX9_witnesses_61 (by decide) ?_
          refine lv_ior S.1 S.2.1 dX9_witnesses_62 ?_
          refine lv_topi (fun x_116 ex_116 => ?_)
          refine lv_istore_n (lv' := [(2, .int x_116), (3, .int i), (0, .ref y), (1, .int a)]) S.1 S.2.1 dX9_witnesses_63 rfl hl (by decide) rfl (fun ls hl => ?_)
          obtain ⟨x_117, ex_117⟩ : ∃ y : Int32, y = i + Int32.ofInt (1) := ⟨_, rfl⟩
          refine lv_iinc (v := x_117) (lv' := [(3, .int x_117), (2, .int x_116), (0, .ref y), (1, .int a)]) S.1 S.2.1 dX9_witnesses_64 hl (k := 1) rfl ex_117.symm (by decide) rfl (fun ls hl => ?_)
          have tx_117 : x_117.toInt = i.toInt + (1) := addI (A := i.toInt) (B := 1) ex_117 rfl rfl (by omega) (by omega)
          refine lv_goto (tgt := 19) S.1 S.2.1 dX9_witnesses_67 (by decide) ?_
          exact ih x_117 x_116 (by first | assumption | omega | decide | (rw [show Int32.toInt 0 = 0 from rfl]; omega)) (by first | assumption | omega | decide | (rw [show Int32.toInt 0 = 0 from rfl]; omega)) (by omega) H _ ls hP hD hS (lv_sub hl [0, 1, 2, 3] rfl)
        · rw [eq2 (a := x_114) (b := 0) (A := x_114.toInt) (B := 0) rfl rfl] at c_115
          refine lv_iconst (v := (1)) S.1 S.2.1 dX9_witnesses_55 (by decide) ?_
          refine lv_iload_n S.1 S.2.1 dX9_witnesses_56 rfl (lv_at hl 0 rfl) ?_
          refine lv_ishl S.1 S.2.1 dX9_witnesses_57 ?_
          refine lv_topi (fun x_118 ex_118 => ?_)
          refine lv_goto (tgt := 62) S.1 S.2.1 dX9_witnesses_58 (by decide) ?_
          refine lv_ior S.1 S.2.1 dX9_witnesses_62 ?_
          refine lv_topi (fun x_119 ex_119 => ?_)
          refine lv_istore_n (lv' := [(2, .int x_119), (3, .int i), (0, .ref y), (1, .int a)]) S.1 S.2.1 dX9_witnesses_63 rfl hl (by decide) rfl (fun ls hl => ?_)
          obtain ⟨x_120, ex_120⟩ : ∃ y : Int32, y = i + Int32.ofInt (1) := ⟨_, rfl⟩
          refine lv_iinc (v := x_120) (lv' := [(3, .int x_120), (2, .int x_119), (0, .ref y), (1, .int a)]) S.1 S.2.1 dX9_witnesses_64 hl (k := 1) rfl ex_120.symm (by decide) rfl (fun ls hl => ?_)
          have tx_120 : x_120.toInt = i.toInt + (1) := addI (A := i.toInt) (B := 1) ex_120 rfl rfl (by omega) (by omega)
          refine lv_goto (tgt := 19) S.1 S.2.1 dX9_witnesses_67 (by decide) ?_
          exact ih x_120 x_119 (by first | assumption | omega | decide | (rw [show Int32.toInt 0 = 0 from rfl]; omega)) (by first | assumption | omega | decide | (rw [show Int32.toInt 0 = 0 from rfl]; omega)) (by omega) H _ ls hP hD hS (lv_sub hl [0, 1, 2, 3] rfl)
      · have hP : va_P D vwCl [(y, .inr (9, [.int 0, .int m_status, .ref y_lane, .ref y_many, .ref y_item, .ref y_city, .ref y_fresh, .int m_isThere, .ref y_tape, .int m_taped, .int m_latest, .int m_length, .int m_cursor, .int m_token, .int m_start, .int m_till, .int m_fault, .int m_faultAt, .int m_seen, .int m_mirrors, .ref y_cost, .ref y_away, .ref y_fee, .ref y_goesTo, .ref y_priceWas, .ref y_isKept, .ref y_kept, .ref y_trace, .int m_traced])), (y_city, .inl (cI, 192, .inl cy))] H := hP
        have hD : va_D A [(y, .inr (9, [.int 0, .int m_status, .ref y_lane, .ref y_many, .ref y_item, .ref y_city, .ref y_fresh, .int m_isThere, .ref y_tape, .int m_taped, .int m_latest, .int m_length, .int m_cursor, .int m_token, .int m_start, .int m_till, .int m_fault, .int m_faultAt, .int m_seen, .int m_mirrors, .ref y_cost, .ref y_away, .ref y_fee, .ref y_goesTo, .ref y_priceWas, .ref y_isKept, .ref y_kept, .ref y_trace, .int m_traced])), (y_city, .inl (cI, 192, .inl cy))] := hD
        refine lv_if_eq (tgt := 70) S.1 S.2.1 dX9_witnesses_33 (by decide) (fun c_121 => ?_) (fun c_121 => absurd c_121 (by decide))
        exact K i q (by first | assumption | omega | decide | (rw [show Int32.toInt 0 = 0 from rfl]; omega)) (by first | assumption | omega | decide | (rw [show Int32.toInt 0 = 0 from rfl]; omega)) H _ ls hP hD hS (lv_sub hl [0, 1, 2, 3] rfl)
set_option maxHeartbeats 4000000 in
set_option maxRecDepth 100000 in
theorem s_X9_witnesses (l : Launch) (D : va_G) (cI cZ cC cS : ClassId) (sq : Nat → Nat) (sz : Nat) (y : Nat) (y_city : Nat) (a : Int32) (m_thrown : Int32) (m_status : Int32) (y_lane : Nat) (y_many : Nat) (y_item : Nat) (y_fresh : Nat) (m_isThere : Int32) (y_tape : Nat) (m_taped : Int32) (m_latest : Int32) (m_length : Int32) (m_cursor : Int32) (m_token : Int32) (m_start : Int32) (m_till : Int32) (m_fault : Int32) (m_faultAt : Int32) (m_seen : Int32) (m_mirrors : Int32) (y_cost : Nat) (y_away : Nat) (y_fee : Nat) (y_goesTo : Nat) (y_priceWas : Nat) (y_isKept : Nat) (y_kept : Nat) (y_trace : Nat) (m_traced : Int32) (cy : Nat → Int32) (hpd_cy : prd cyK 192 cy) : mI l yX9_witnesses wsX9_witnesses 50 2000 D (tyW cI cZ cC cS) sq [(y, .inr (9, [.int m_thrown, .int m_status, .ref y_lane, .ref y_many, .ref y_item, .ref y_city, .ref y_fresh, .int m_isThere, .ref y_tape, .int m_taped, .int m_latest, .int m_length, .int m_cursor, .int m_token, .int m_start, .int m_till, .int m_fault, .int m_faultAt, .int m_seen, .int m_mirrors, .ref y_cost, .ref y_away, .ref y_fee, .ref y_goesTo, .ref y_priceWas, .ref y_isKept, .ref y_kept, .ref y_trace, .int m_traced])), (y_city, .inl (cI, 192, .inl cy))] sz [.ref y, .int a] (fun r w => (w = [(y, .inr (9, [.int 0, .int m_status, .ref y_lane, .ref y_many, .ref y_item, .ref y_city, .ref y_fresh, .int m_isThere, .ref y_tape, .int m_taped, .int m_latest, .int m_length, .int m_cursor, .int m_token, .int m_start, .int m_till, .int m_fault, .int m_faultAt, .int m_seen, .int m_mirrors, .ref y_cost, .ref y_away, .ref y_fee, .ref y_goesTo, .ref y_priceWas, .ref y_isKept, .ref y_kept, .ref y_trace, .int m_traced])), (y_city, .inl (cI, 192, .inl cy))])) := by
  refine b_metI (cc := cX9_witnesses) (maxL := 4) (ret := (some .int)) (by decide) rfl (Nat.le_of_ble_eq_true rfl) ?_
  intro p e s m below meth c ls A H X hsz hP hK hT hD hA hS hl
  have S : CallFix p m c cX9_witnesses 4 s ([.ref y, .int a] : List Value).toArray wsX9_witnesses RX9 := X.1
  have hl : lv_has ls 4 [(0, .ref y), (1, .int a)] := hl
  have iX9 := jX9_witnesses_X9
  refine lv_aload_n S.1 S.2.1 dX9_witnesses_0 rfl (lv_at hl 0 rfl) ?_
  refine lv_iconst (v := (0)) S.1 S.2.1 dX9_witnesses_1 (by decide) ?_
  refine b_put (v := .int 0) S iX9 tyX9 tyX9_ok nmX9 hK hP hD hS 0 rfl rfl 0 (by decide) (by decide +kernel) rfl rfl rfl (Nat.le_of_ble_eq_true rfl) dX9_witnesses_2 (fun H locs hP hD hS => ?_)
  have hP : va_P D vwCl [(y, .inr (9, [.int 0, .int m_status, .ref y_lane, .ref y_many, .ref y_item, .ref y_city, .ref y_fresh, .int m_isThere, .ref y_tape, .int m_taped, .int m_latest, .int m_length, .int m_cursor, .int m_token, .int m_start, .int m_till, .int m_fault, .int m_faultAt, .int m_seen, .int m_mirrors, .ref y_cost, .ref y_away, .ref y_fee, .ref y_goesTo, .ref y_priceWas, .ref y_isKept, .ref y_kept, .ref y_trace, .int m_traced])), (y_city, .inl (cI, 192, .inl cy))] H := hP
  have hD : va_D A [(y, .inr (9, [.int 0, .int m_status, .ref y_lane, .ref y_many, .ref y_item, .ref y_city, .ref y_fresh, .int m_isThere, .ref y_tape, .int m_taped, .int m_latest, .int m_length, .int m_cursor, .int m_token, .int m_start, .int m_till, .int m_fault, .int m_faultAt, .int m_seen, .int m_mirrors, .ref y_cost, .ref y_away, .ref y_fee, .ref y_goesTo, .ref y_priceWas, .ref y_isKept, .ref y_kept, .ref y_trace, .int m_traced])), (y_city, .inl (cI, 192, .inl cy))] := hD
  refine lv_aload_n S.1 S.2.1 dX9_witnesses_5 rfl (lv_at hl 0 rfl) ?_
  refine b_get (v := .int m_isThere) S iX9 hK hP 0 rfl rfl 7 (by decide) (by decide +kernel) rfl dX9_witnesses_6 ?_
  refine lv_if_ne (tgt := 15) S.1 S.2.1 dX9_witnesses_9 (by decide) (fun c_1 => ?_) (fun c_1 => ?_)
  · rw [eq2 (a := m_isThere) (b := 0) (A := m_isThere.toInt) (B := 0) rfl rfl] at c_1
    refine lv_iconst (v := (0)) S.1 S.2.1 dX9_witnesses_15 (by decide) ?_
    refine lv_istore_n (lv' := [(2, .int 0), (0, .ref y), (1, .int a)]) S.1 S.2.1 dX9_witnesses_16 rfl hl (by decide) rfl (fun ls hl => ?_)
    refine lv_iconst (v := (0)) S.1 S.2.1 dX9_witnesses_17 (by decide) ?_
    refine lv_istore_n (lv' := [(3, .int 0), (2, .int 0), (0, .ref y), (1, .int a)]) S.1 S.2.1 dX9_witnesses_18 rfl hl (by decide) rfl (fun ls hl => ?_)
    refine lp_mwitnesses l D cI cZ cC cS sq y y_city a m_thrown m_status y_lane y_many y_item y_fresh m_isThere y_tape m_taped m_latest m_length m_cursor m_token m_start m_till m_fault m_faultAt m_seen m_mirrors y_cost y_away y_fee y_goesTo y_priceWas y_isKept y_kept y_trace m_traced cy hpd_cy X hK hT hA (fun i_2 q_3 hi_4 hi_5 H locs ls hP hD hS hl => ?_) _ (0) (0) (by first | assumption | omega | decide | (rw [show Int32.toInt 0 = 0 from rfl]; omega)) (by first | assumption | omega | decide | (rw [show Int32.toInt 0 = 0 from rfl]; omega)) (Nat.lt_succ_self _) H _ ls hP hD hS (lv_sub hl [0, 1, 2, 3] rfl)
    refine lv_iload_n S.1 S.2.1 dX9_witnesses_70 rfl (lv_at hl 3 rfl) ?_
    refine b_ai (wr := [(y, .inr (9, [.int 0, .int m_status, .ref y_lane, .ref y_many, .ref y_item, .ref y_city, .ref y_fresh, .int m_isThere, .ref y_tape, .int m_taped, .int m_latest, .int m_length, .int m_cursor, .int m_token, .int m_start, .int m_till, .int m_fault, .int m_faultAt, .int m_seen, .int m_mirrors, .ref y_cost, .ref y_away, .ref y_fee, .ref y_goesTo, .ref y_priceWas, .ref y_isKept, .ref y_kept, .ref y_trace, .int m_traced])), (y_city, .inl (cI, 192, .inl cy))]) (b_runS (As := [.int a]) (s_X9_isOwner l D cI cZ cC cS sq H.size a) S gX9_witnesses_X9_isOwner rfl hdS_X9_isOwner ⟨Nat.le_of_ble_eq_true rfl, Nat.le_of_ble_eq_true rfl⟩ ⟨Nat.le_of_ble_eq_true rfl, Nat.le_of_ble_eq_true rfl⟩ hK hT hS hA hP hD [] rfl (by decide) rfl hl.1 rfl (Nat.le_of_ble_eq_true rfl) dX9_witnesses_71) hP hD hS hA [] [0, 1] rfl rfl (by decide) (by decide) (fun r_6 w_7 H locs hw_8 hP hD hS => ?_)
    rcases hw_8 with ⟨hf_9, rfl, rfl⟩ | ⟨hf_10, rfl, rfl⟩
    · have hP : va_P D vwCl [(y, .inr (9, [.int 0, .int m_status, .ref y_lane, .ref y_many, .ref y_item, .ref y_city, .ref y_fresh, .int m_isThere, .ref y_tape, .int m_taped, .int m_latest, .int m_length, .int m_cursor, .int m_token, .int m_start, .int m_till, .int m_fault, .int m_faultAt, .int m_seen, .int m_mirrors, .ref y_cost, .ref y_away, .ref y_fee, .ref y_goesTo, .ref y_priceWas, .ref y_isKept, .ref y_kept, .ref y_trace, .int m_traced])), (y_city, .inl (cI, 192, .inl cy))] H := hP
      have hD : va_D A [(y, .inr (9, [.int 0, .int m_status, .ref y_lane, .ref y_many, .ref y_item, .ref y_city, .ref y_fresh, .int m_isThere, .ref y_tape, .int m_taped, .int m_latest, .int m_length, .int m_cursor, .int m_token, .int m_start, .int m_till, .int m_fault, .int m_faultAt, .int m_seen, .int m_mirrors, .ref y_cost, .ref y_away, .ref y_fee, .ref y_goesTo, .ref y_priceWas, .ref y_isKept, .ref y_kept, .ref y_trace, .int m_traced])), (y_city, .inl (cI, 192, .inl cy))] := hD
      refine lv_if_eq (tgt := 81) S.1 S.2.1 dX9_witnesses_74 (by decide) (fun c_11 => absurd c_11 (by decide)) (fun c_11 => ?_)
      refine lv_iload_n S.1 S.2.1 dX9_witnesses_77 rfl (lv_at hl 1 rfl) ?_
      refine lv_goto (tgt := 83) S.1 S.2.1 dX9_witnesses_78 (by decide) ?_
      exact b_iret S.1 S.2.1 X.2.1 X.2.2.1 hP hD hS rfl dX9_witnesses_83
    · have hP : va_P D vwCl [(y, .inr (9, [.int 0, .int m_status, .ref y_lane, .ref y_many, .ref y_item, .ref y_city, .ref y_fresh, .int m_isThere, .ref y_tape, .int m_taped, .int m_latest, .int m_length, .int m_cursor, .int m_token, .int m_start, .int m_till, .int m_fault, .int m_faultAt, .int m_seen, .int m_mirrors, .ref y_cost, .ref y_away, .ref y_fee, .ref y_goesTo, .ref y_priceWas, .ref y_isKept, .ref y_kept, .ref y_trace, .int m_traced])), (y_city, .inl (cI, 192, .inl cy))] H := hP
      have hD : va_D A [(y, .inr (9, [.int 0, .int m_status, .ref y_lane, .ref y_many, .ref y_item, .ref y_city, .ref y_fresh, .int m_isThere, .ref y_tape, .int m_taped, .int m_latest, .int m_length, .int m_cursor, .int m_token, .int m_start, .int m_till, .int m_fault, .int m_faultAt, .int m_seen, .int m_mirrors, .ref y_cost, .ref y_away, .ref y_fee, .ref y_goesTo, .ref y_priceWas, .ref y_isKept, .ref y_kept, .ref y_trace, .int m_traced])), (y_city, .inl (cI, 192, .inl cy))] := hD
      refine lv_if_eq (tgt := 81) S.1 S.2.1 dX9_witnesses_74 (by decide) (fun c_12 => ?_) (fun c_12 => absurd c_12 (by decide))
      refine lv_ldc (v := (-1000001)) S.1 S.2.1 S.2.2.2.1 (S.2.2.2.2 (.constant RX9 73 (-1000001)) (by decide +kernel)) dX9_witnesses_81 ?_
      have lqm1000001 : Int32.toInt (-1000001) = -1000001 := by decide
      exact b_iret S.1 S.2.1 X.2.1 X.2.2.1 hP hD hS rfl dX9_witnesses_83
  · rw [eq2 (a := m_isThere) (b := 0) (A := m_isThere.toInt) (B := 0) rfl rfl] at c_1
    refine lv_ldc (v := (-1000002)) S.1 S.2.1 S.2.2.2.1 (S.2.2.2.2 (.constant RX9 233 (-1000002)) (by decide +kernel)) dX9_witnesses_12 ?_
    have lqm1000002 : Int32.toInt (-1000002) = -1000002 := by decide
    exact b_iret S.1 S.2.1 X.2.1 X.2.2.1 hP hD hS rfl dX9_witnesses_14
